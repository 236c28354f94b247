/-! CALLS in thought: frames for them; run, when. -/
def TA (b : Nat) (S : XS) (q : Nat) (μ : mS) (Z : Zt) (g : Nat → Int32) : mS := AZ b 33 (sxL S 33 q) μ Z g
theorem TA_def (b : Nat) (S : XS) (q : Nat) (μ : mS) (Z : Zt) (g : Nat → Int32) : TA b S q μ Z g = AZ b 33 (sxL S 33 q) μ Z g := rfl
theorem sxL_self (S : XS) (o : Nat) : sxL S o (S.2.2.1 o) = S := by
  refine Prod.ext rfl (Prod.ext rfl (Prod.ext (funext fun k => ?_) rfl))
  simp only [sxL, va_up]
  split
  · rename_i c; rw [c]
  · rfl
theorem TA_start (b : Nat) (S : XS) (μ : mS) : memX b S μ = TA b S (S.2.2.1 33) μ (zof S 33) (S.2.1 10) := by
  rw [TA, sxL_self]
  exact AZ_of b 33 S μ
theorem KP.k {O O' : MS} {Z : Zt} (h : mkA O O') (hk : KP O Z) : KP O' Z := by
  unfold KP
  rw [h.2 20 (by decide) (by decide) (by decide) (by decide)]
  exact hk
section TH
variable {b m : Nat} {S : XS} {O O' : MS} {μ : mS} {q : Nat} {Z Y : Zt} {g : Nat → Int32} {L : Lw} {α : Type}
def ThQ (b m : Nat) (S : XS) (O : MS) (μ : mS) (fx fm : mS → Option (α × mS)) : Prop := ∃ v q' Z' g', fx (Wd b m S O μ) = some (v, TA b S q' (memM m O μ) Z' g') ∧ ∀ μ1, ∃ O', fm (memM m O μ1) = some (v, memM m O' μ1) ∧ keepO O O' ∧ MZ O' (zof S 11)
theorem TA_S (b : Nat) (S : XS) (q : Nat) (μ : mS) (Z : Zt) (g : Nat → Int32) : TA b S q μ Z g = memX b (sxZ (sxL S 33 q) 33 Z g) μ := rfl
theorem thS_TA (S : XS) (q : Nat) (Z : Zt) (g : Nat → Int32) : thS S (sxZ (sxL S 33 q) 33 Z g) ∧ zof (sxZ (sxL S 33 q) 33 Z g) 11 = zof S 11 :=
  ⟨(thS.l q (by decide) (by decide)).tr (thS.z zo33 (by decide)), by rw [zof_ne zo33 zo11 (by decide), zof_l]⟩
theorem Call.th {fx fm : mS → Option (α × mS)} (h : ∀ S O μ tc r T Q, RLx b m S O μ tc r T Q → ThQ b m S O μ fx fm) : Call b m fx fm := by
  intro S O μ R
  obtain ⟨tc, r, T, Q, R⟩ := R
  obtain ⟨v, q', Z', g', e1, e2⟩ := h S O μ tc r T Q R
  obtain ⟨O', e2, k, z⟩ := e2 (memX b (sxZ (sxL S 33 q') 33 Z' g') μ)
  obtain ⟨t1, t2⟩ := thS_TA S q' Z' g'
  refine ⟨v, sxZ (sxL S 33 q') 33 Z' g', O', μ, e1, ?_, R.th t1 t2 k z⟩
  rw [Wd_M R.lm, e2, ← Wd_M R.lm]
theorem th_same {tc r : Nat} {T : Nat → Lw} {Q : Nat → Nat} (R : RLx b m S O μ tc r T Q) {fx fm : mS → Option (α × mS)} (v : α) (e1 : fx (Wd b m S O μ) = some (v, Wd b m S O μ)) (e2 : ∀ μ1, fm (memM m O μ1) = some (v, memM m O μ1)) : ThQ b m S O μ fx fm :=
  ⟨v, S.2.2.1 33, zof S 33, S.2.1 10, by rw [e1, Wd, ← TA_start], fun μ1 => ⟨O, e2 μ1, keepO.rf O, R.z⟩⟩
theorem th_beg (q : Nat) (Z : Zt) (g : Nat → Int32) : ∃ Y, f_X0_become (b + 33) (b + 11) (TA b S q μ Z g) = some (TA b S (S.2.2.1 11) μ Y g) ∧ zEq (zof S 11) Y := by
  obtain ⟨Y, e, h⟩ := x_becomeA (b := b) (S := sxL S 33 q) (μ := μ) (Z := Z) (g := g) zo33 zo11 (by decide)
  refine ⟨Y, ?_, h⟩
  have e2 : sxL (sxL S 33 q) 33 ((sxL S 33 q).2.2.1 11) = sxL S 33 (S.2.2.1 11) := by
    refine Prod.ext rfl (Prod.ext rfl (Prod.ext (funext fun k => ?_) rfl))
    simp only [sxL, va_up]
    by_cases c : k = 33
    · rw [if_pos c, if_pos c, if_neg (by decide)]
    · rw [if_neg c, if_neg c, if_neg c]
  rw [e2] at e
  exact e
-- what stands in the thought's memory
theorem t3 : gR (TA b S q μ Z g) b 4 3 = some (b + 11) := h3
theorem t5 : gR (TA b S q μ Z g) b 4 5 = some (b + 33) := h5
theorem t2 : gR (TA b S q μ Z g) b 4 2 = some (b + 6) := gR_H 2 (by decide)
theorem t0 : gR (TA b S q μ Z g) b 4 0 = some (b + 1) := gR_H 0 (by decide)
theorem tO : isO (TA b S q μ Z g) (b + 33) 0 = true := isO_A zo33
theorem tO11 : isO (TA b S q μ Z g) (b + 11) 0 = true := isO_Z zo11
theorem tA : gI (TA b S q μ Z g) (b + 33) 0 11 = some (Z 10 0) := gA_A zo33
theorem tH : gI (TA b S q μ Z g) (b + 33) 0 12 = some (Z 10 1) := gH_A zo33
theorem tW : gI (TA b S q μ Z g) (b + 33) 0 13 = some (Z 10 2) := gW_A zo33
theorem tR (j : Nat) (hj : j < 10) : gR (TA b S q μ Z g) (b + 33) 0 j = some (b + (33 + (j + 1))) := gR_A zo33 j hj
theorem tV : f_X0_verdict (b + 33) (TA b S q μ Z g) = some (wtA (Z 0) (Z 10 0) 10) := x_verdict zo33
theorem tL : f_X0_lying (b + 33) (TA b S q μ Z g) = some (lyA Z 8) := x_lying zo33
theorem tLi (x : Int32) : f_X0_lies (b + 33) x (TA b S q μ Z g) = some (liS Z x) := x_li zo33 x
theorem t_11 : TA b S q μ Z g = AZ b 11 (sxZ (sxL S 33 q) 33 Z g) μ (zof S 11) ((sxZ (sxL S 33 q) 33 Z g).2.1 10) := by
  rw [TA_S, AZ_of b 11, (thS_TA S q Z g).2]
theorem tLi11 (x : Int32) : f_X0_lies (b + 11) x (TA b S q μ Z g) = some (liS (zof S 11) x) := by rw [t_11, x_li zo11]
theorem tHas11 (x : Int32) : f_X0_hasWitness (b + 11) x (TA b S q μ Z g) = some (f_X5_isBelow x (zof S 11 10 2)) := by rw [t_11, x_has zo11]
theorem tCan11 {p : Nat} (hp : p < 6) : f_X0_canLetFall (b + 11) (nI p) (TA b S q μ Z g) = some (clS (zof S 11) p) := by rw [t_11, x_can zo11 hp]
theorem tW11 : gI (TA b S q μ Z g) (b + 11) 0 13 = some (zof S 11 10 2) := by rw [t_11, gW_A zo11]
theorem tA11 : gI (TA b S q μ Z g) (b + 11) 0 11 = some (zof S 11 10 0) := by rw [t_11, gA_A zo11]
end TH
section TG
variable {b m : Nat} {S : XS} {O O' : MS} {μ : mS} {tc r : Nat} {T : Nat → Lw} {Q : Nat → Nat} {Z Y : Zt} {g : Nat → Int32}
theorem RLx.l33 (R : RLx b m S O μ tc r T Q) (O' : MS) : LawOk b 33 (sxL S 33 (S.2.2.1 11)) (memM m O' μ) (T r) := R.lx (S1 := sxL S 33 (S.2.2.1 11)) zo33 ⟨rfl, rfl⟩ (by simp [sxL, va_up]) O'
theorem RLx.y (R : RLx b m S O μ tc r T Q) (h : zEq (zof S 11) Y) : MZ O Y ∧ gZ Y ∧ ∃ t, t ≤ 999 ∧ Y 10 1 = nI t := by
  obtain ⟨t, ht, e⟩ := R.h
  exact ⟨R.z.eq h R.g.w6, R.g.eq h, t, ht, by rw [← h.2 1 (by decide)]; exact e⟩
theorem MZ.bk (hz : MZ O' Y) (hg : gZ Y) (h : zEq (zof S 11) Y) : MZ O' (zof S 11) := hz.eq h.sy hg.w6
theorem t_pass (R : RLx b m S O μ tc r T Q) (hg : gZ Z) {t : Nat} (ht : Z 10 1 = nI t) (h2 : t < 100000) (n : Nat) (hn : n < 4000) (O' : MS) : ∃ v g', f_X0_passHours (b + 33) (nI n) (TA b S (S.2.2.1 11) (memM m O' μ) Z g) = some (v, TA b S (S.2.2.1 11) (memM m O' μ) (hN (T r) Z n) g') := x_pass zo33 (R.l33 O') hg.o ht n hn h2
theorem t_pass1 (R : RLx b m S O μ tc r T Q) (hg : gZ Z) {t : Nat} (ht : Z 10 1 = nI t) (h2 : t < 100000) (O' : MS) : ∃ v g', f_X0_passHours (b + 33) 1 (TA b S (S.2.2.1 11) (memM m O' μ) Z g) = some (v, TA b S (S.2.2.1 11) (memM m O' μ) (hZ (T r) Z) g') := by
  obtain ⟨g', e⟩ := x_pass1 (g := g) zo33 (R.l33 O') hg.o ht h2
  exact ⟨_, g', e⟩
theorem k_run (x1 x2 : Int32) : Call b m (f_X5_run b x1 x2) (f_X6_run m x1 x2) := by
  refine Call.th fun S O μ tc r T Q R => ?_
  have hz := R.z
  have hg := R.g
  have h6 := hg.w6
  -- both sides once it's told what
  have go : ∀ (s0 : Int32) (k : Nat), k ≤ 40 → x1 = nI k → ((∃ w, w < 3 ∧ x2 = nI w) ∨ (¬ s0 = 0 ∧ ∃ p, p < wN (zof S 11) ∧ x2 = nI (10 + p))) → f_X5_run b x1 x2 (Wd b m S O μ) = f_X5_run_51 b x1 x2 s0 (Wd b m S O μ) → (∀ μ1, f_X6_run m x1 x2 (memM m O μ1) = f_X6_run_39 m x1 x2 (memM m O μ1)) → ThQ b m S O μ (f_X5_run b x1 x2) (f_X6_run m x1 x2) := by
    intro s0 k hk e1 hw hx hm
    subst e1
    obtain ⟨Y, eb, hY⟩ := th_beg (b := b) (S := S) (μ := memM m O μ) (S.2.2.1 33) (zof S 33) (S.2.1 10)
    rw [← TA_start] at eb
    obtain ⟨zY, gY, t, ht, et⟩ := R.y hY
    obtain ⟨v0, g', ep⟩ := t_pass (g := S.2.1 10) R gY et (by omega) k (by omega) O
    rw [f_X5_run_51.eq_1, Wd, h5X, Option.bind_some, h3X, Option.bind_some, if_pos (isO_Z zo33), eb, Option.bind_some, t5, Option.bind_some, if_pos tO, ep, Option.bind_some] at hx
    dsimp only at hx
    have gY2 := gZ_hN (L := T r) gY k
    -- the reference
    have hm2 : ∀ μ1 (v : Int32), (∀ O2, MZ O2 (hN (T r) Y k) → (if (3 : Int32) ≤ x2 then (gR (memM m O2 μ1) m 5 3).bind fun r29 => (aI (memM m O2 μ1) r29 (((3 : Int32) * (x2 - (10 : Int32))) + (2 : Int32))).bind fun v30 => f_X6_run_104 m v30 (memM m O2 μ1) else if x2 = 0 then (gI (memM m O2 μ1) m 5 7).bind fun v38 => f_X6_run_86 m v38 (memM m O2 μ1) else if x2 = (1 : Int32) then (gI (memM m O2 μ1) m 5 7).bind fun v35 => if isO (memM m O2 μ1) m 5 = true then (f_X6_verdictOf m v35 (memM m O2 μ1)).bind fun q37 => f_X6_run_86 m q37 (memM m O2 μ1) else none else if isO (memM m O2 μ1) m 5 = true then (f_X6_lying m (memM m O2 μ1)).bind fun q34 => f_X6_run_86 m q34 (memM m O2 μ1) else none) = f_X6_run_104 m v (memM m O2 μ1)) → ∃ O', f_X6_run m (nI k) x2 (memM m O μ1) = some (v, memM m O' μ1) ∧ keepO O O' ∧ MZ O' (zof S 11) := by
      intro μ1 v hv
      obtain ⟨O1, a1, a2, a3, a4⟩ := m_keeps (m := m) (μ := μ1) zY
      obtain ⟨O2, b1, b2, b3⟩ := m_goes (m := m) (μ := μ1) (R.lr a2.o) a3 gY et (by omega) (n := k) (by omega)
      obtain ⟨O3, c1, c2, c3⟩ := m_lays (m := m) (μ := μ1) b3 (sameC_hN k) (a4.k b2)
      refine ⟨O3, ?_, (a2.o.tr b2.o).tr c2.o, c3.bk gY hY⟩
      rw [hm μ1, f_X6_run_39.eq_1, if_pos isO_M, a1, Option.bind_some, if_pos isO_M, b1, Option.bind_some, hv O2 b3, f_X6_run_104.eq_1, if_pos isO_M, c1, Option.bind_some]
    rcases hw with ⟨w, hw, rfl⟩ | ⟨hs0, p, hp, rfl⟩
    · have : w = 0 ∨ w = 1 ∨ w = 2 := by omega
      rcases this with rfl | rfl | rfl
      · rw [if_pos (show nI 0 = (0 : Int32) from rfl), t5, Option.bind_some, tA, Option.bind_some] at hx
        refine ⟨_, _, _, _, hx, fun μ1 => hm2 μ1 _ fun O2 z2 => ?_⟩
        rw [if_neg (by decide), if_pos (show nI 0 = (0 : Int32) from rfl), mI_7, Option.bind_some, z2.ad, f_X6_run_86.eq_1]
      · rw [if_neg (by decide), if_pos (show nI 1 = (1 : Int32) from rfl), t5, Option.bind_some, if_pos tO, tV, Option.bind_some] at hx
        refine ⟨_, _, _, _, hx, fun μ1 => hm2 μ1 _ fun O2 z2 => ?_⟩
        rw [if_neg (by decide), if_neg (by decide), if_pos (show nI 1 = (1 : Int32) from rfl), mI_7, Option.bind_some, if_pos isO_M, z2.ad, m_verdictOf z2, Option.bind_some, f_X6_run_86.eq_1]
      · rw [if_neg (by decide), if_neg (by decide), if_pos (show nI 2 = (2 : Int32) from rfl), t5, Option.bind_some, if_pos tO, tL, Option.bind_some] at hx
        refine ⟨_, _, _, _, hx, fun μ1 => hm2 μ1 _ fun O2 z2 => ?_⟩
        rw [if_neg (by decide), if_neg (by decide), if_neg (by decide), if_pos isO_M, m_lying z2, Option.bind_some, f_X6_run_86.eq_1]
    · have hp6 : p < 6 := by omega
      have e10 : nI (10 + p) - (10 : Int32) = nI p := by rw [show (10 : Int32) = nI 10 from rfl, pk_sub (by omega), Nat.add_sub_cancel_left]
      have n0 : ∀ c, c < 3 → ¬ nI (10 + p) = nI c := fun c hc z => by have := (nI_eq (by omega) (by omega)).mp z; omega
      rw [if_neg (show ¬ nI (10 + p) = (0 : Int32) from n0 0 (by omega)), if_neg (show ¬ nI (10 + p) = (1 : Int32) from n0 1 (by omega)), if_neg (show ¬ nI (10 + p) = (2 : Int32) from n0 2 (by omega)), if_neg hs0, t5, Option.bind_some, tR 6 (by decide), Option.bind_some, e10, show aI (TA b S (S.2.2.1 11) (memM m O μ) (hN (T r) Y k) g') (b + (33 + (6 + 1))) (nI p) = some (hN (T r) Y k 6 p) from aI_in zo33 6 (by decide) p hp6, Option.bind_some] at hx
      refine ⟨_, _, _, _, hx, fun μ1 => hm2 μ1 _ fun O2 z2 => ?_⟩
      rw [if_pos (show (3 : Int32) ≤ nI (10 + p) from nI_le (a := 3) (by omega) (by omega)), mR_3, Option.bind_some, e10, three2, aM 2 (by decide) (3 * p + 2) (by show _ < 18; omega) (by omega), Option.bind_some, show O2.2 (2 + 1) (3 * p + 2) = hN (T r) Y k 6 p from z2.r2 hp6]
  have hm0 : ∀ μ1, f_X6_run m x1 x2 (memM m O μ1) = _ := fun μ1 => f_X6_run.eq_1 _ _ _ _
  simp only [i_41, i_3, mI_0, Option.bind_some, hz.wi] at hm0
  have hx0 : f_X5_run b x1 x2 (Wd b m S O μ) = f_X5_run_25 b x1 x2 (if x2 < 10 then 0 else f_X5_isBelow (x2 - 10) (zof S 11 10 2)) (Wd b m S O μ) := by
    rw [f_X5_run.eq_1]
    by_cases c : x2 < 10
    · rw [if_pos c, if_pos c]
    · rw [if_neg c, if_neg c, Wd, h3X, Option.bind_some, AZ_of b 11, if_pos (isO_A zo11), x_has zo11, Option.bind_some]
      simp only [vl]
      rcases bel_01 (x2 - 10) (zof S 11 10 2) with e | e
      · rw [e, if_pos rfl]
      · rw [e, if_neg (by decide)]
  rw [f_X5_run_25.eq_1] at hx0
  by_cases q : f_X5_isBelow x1 41 = 0
  · rw [if_pos q] at hx0
    exact th_same R (-5000) hx0 (fun μ1 => (hm0 μ1).trans (if_pos q))
  rw [if_neg q] at hx0
  have hm0 := fun μ1 => (hm0 μ1).trans (if_neg q)
  obtain ⟨k, hk, ek⟩ := b_41 x1 q
  by_cases q2 : f_X5_isBelow x2 3 = 0
  · rw [if_pos q2] at hx0
    have hm0 := fun μ1 => (hm0 μ1).trans (if_pos q2)
    rw [hg.wI] at hx0
    simp only [hg.wI] at hm0
    have e9 : (9 : Int32) + nI (wN (zof S 11)) = nI (9 + wN (zof S 11)) := nI_add 9 _
    by_cases c : x2 < 10
    · rw [if_pos c, if_pos rfl] at hx0
      refine th_same R (-5000) hx0 (fun μ1 => (hm0 μ1).trans (if_pos (in_less c)))
    · rw [if_neg c] at hx0
      obtain ⟨j, hj, rfl⟩ := nI_of (show ¬ x2 < 0 from fun z => c (Int32.lt_trans z (by decide)))
      have j10 : 10 ≤ j := by
        rcases Nat.lt_or_ge j 10 with z | z
        · exact absurd (nI_lt (b := 10) z (by decide)) c
        · exact z
      have e10 : nI j - (10 : Int32) = nI (j - 10) := pk_sub (b := 10) j10
      rw [e10] at hx0
      by_cases d : f_X5_isBelow (nI (j - 10)) (nI (wN (zof S 11))) = 0
      · rw [if_pos d] at hx0
        refine th_same R (-5000) hx0 (fun μ1 => (hm0 μ1).trans (if_pos ?_))
        rw [e9]
        refine in_more fun z => ?_
        rw [f_X5_isBelow.eq_1, if_neg (nI_pos (by omega)), if_neg] at d
        · exact absurd d (by decide)
        · have := (nI_leI hj (show 9 + wN (zof S 11) < 2 ^ 31 by omega)).mp z
          exact nI_ge (by omega) (by omega)
      · rw [if_neg d] at hx0
        obtain ⟨p, hp, ep⟩ := bel_k (show wN (zof S 11) < 2 ^ 31 by omega) d
        have ej : j = 10 + p := by have := (nI_eq (show j - 10 < 2 ^ 31 by omega) (show p < 2 ^ 31 by omega)).mp ep; omega
        refine go _ k (by omega) ek (Or.inr ⟨d, p, hp, by rw [ej]⟩) hx0 (fun μ1 => (hm0 μ1).trans (if_neg ?_))
        rw [e9, in_wide c (nI_le (by omega) (by omega))]
        decide
  · rw [if_neg q2] at hx0
    obtain ⟨w, hw, ew⟩ := b_3 x2 q2
    exact go _ k (by omega) ek (Or.inl ⟨w, hw, ew⟩) hx0 (fun μ1 => (hm0 μ1).trans (if_neg q2))
end TG
