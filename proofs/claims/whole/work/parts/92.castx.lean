/-! cast: the class's search. -/
def bho (j : Nat) : Nat := if j = 0 then 11 else 33 + 11 * j
theorem zo_bho {j : Nat} (h : j ≤ 3) : zo (bho j) := by
  have : j = 0 ∨ j = 1 ∨ j = 2 ∨ j = 3 := by omega
  unfold zo
  rcases this with rfl | rfl | rfl | rfl <;> decide
theorem bho_ne (j : Nat) : bho j ≠ 33 ∧ bho j < 44 + 11 * j ∧ bho (j + 1) = 44 + 11 * j ∧ bho j ≠ bho (j + 1) := by
  unfold bho
  split <;> rw [if_neg (by omega)] <;> omega
/-- what a search changes: the thought, what lies behind from c on, the best -/
def dfS (c : Nat) (S S' : XS) : Prop := sameL S S' ∧ (∀ k, k ≠ 0 → k ≠ 33 → (k < c ∨ 77 ≤ k) → S'.1 k = S.1 k) ∧ (∀ f, f ≠ 9 → f ≠ 10 → S'.1 0 f = S.1 0 f) ∧ (∀ i, i ≠ 10 → ¬ (33 < i ∧ i ≤ 43) → (i < c ∨ 77 ≤ i) → S'.2.1 i = S.2.1 i) ∧ (∀ k, k ≠ 33 → k < c → S'.2.2.1 k = S.2.2.1 k) ∧ S'.2.2.2 = S.2.2.2
theorem dfS.rf (c : Nat) (S : XS) : dfS c S S := ⟨sameL.rf S, fun _ _ _ _ => rfl, fun _ _ _ => rfl, fun _ _ _ _ => rfl, fun _ _ _ => rfl, rfl⟩
theorem dfS.tr {c : Nat} {S1 S2 S3 : XS} (h : dfS c S1 S2) (h2 : dfS c S2 S3) : dfS c S1 S3 :=
  ⟨h.1.tr h2.1, fun k a b d => (h2.2.1 k a b d).trans (h.2.1 k a b d), fun f a b => (h2.2.2.1 f a b).trans (h.2.2.1 f a b), fun i a b d => (h2.2.2.2.1 i a b d).trans (h.2.2.2.1 i a b d), fun k a b => (h2.2.2.2.2.1 k a b).trans (h.2.2.2.2.1 k a b), h2.2.2.2.2.2.trans h.2.2.2.2.2⟩
theorem dfS.mo {c c' : Nat} {S S' : XS} (h : dfS c' S S') (hc : c ≤ c') : dfS c S S' :=
  ⟨h.1, fun k a b d => h.2.1 k a b (by omega), h.2.2.1, fun i a b d => h.2.2.2.1 i a b (by omega), fun k a b => h.2.2.2.2.1 k a (by omega), h.2.2.2.2.2⟩
section CX
variable {b m : Nat} {S S' : XS} {O O' : MS} {μ μm : mS} {Z Y W : Zt} {g : Nat → Int32} {L : Lw}
theorem dfS.z {c o : Nat} (h : zo o) (q : Nat) (ho : o = 33 ∨ c ≤ o) (hc : c ≤ 77) : dfS c S (sxZ (sxL S o q) o Z g) := by
  have h11 : 11 ≤ o ∧ o + 11 ≤ 77 := by rcases h with rfl | rfl | rfl | rfl | rfl | rfl <;> omega
  refine ⟨(show sameL S (sxL S o q) from ⟨rfl, rfl⟩).tr (sameL.z h), fun k k0 k33 kc => ?_, fun f f9 f10 => ?_, fun i i10 i33 ic => ?_, fun k k33 kc => ?_, rfl⟩
  · simp only [sxZ]
    rw [if_neg (by omega)]
    rfl
  · simp only [sxZ]
    rw [if_neg (by omega)]
    rfl
  · simp only [sxZ]
    rw [if_neg (by omega), if_neg i10]
    rfl
  · exact up_ne _ _ (by omega)
theorem dfS.i (S : XS) (c : Nat) {k : Nat} (v : Int32) (hk : k = 9 ∨ k = 10) : dfS c S (sxI S 0 k v) := by
  have e0 : (sxI S 0 k v).1 0 = upd (S.1 0) k v := by simp [sxI, va_up]
  refine ⟨⟨by simp [sxI, va_up], rfl⟩, fun j j0 _ _ => up_ne _ _ j0, fun f f9 f10 => ?_, fun _ _ _ _ => rfl, fun _ _ _ => rfl, rfl⟩
  rw [e0, upd_ne _ _ (by omega)]
theorem dfS.o {c o : Nat} (h : dfS c S S') (hz : zo o) (h33 : o ≠ 33) (ho : o < c) (hc : c = 44 ∨ c = 55 ∨ c = 66 ∨ c = 77) : zof S' o = zof S o := by
  have q : o + 11 ≤ c ∧ 11 ≤ o ∧ (o + 10 < 33 ∨ 43 < o) := by rcases hz with rfl | rfl | rfl | rfl | rfl | rfl <;> omega
  funext j
  simp only [zof]
  split
  · rw [h.2.2.2.1 _ (by omega) (by omega) (by omega)]
  · rw [h.2.1 o (by omega) h33 (by omega)]
theorem dfS.th (h : dfS 44 S S') : thS S S' ∧ zof S' 11 = zof S 11 := by
  refine ⟨⟨h.1, h.2.2.1 7 (by decide) (by decide), h.2.2.1 8 (by decide) (by decide), h.2.1 2 (by decide) (by decide) (by omega), h.2.2.2.1 3 (by decide) (by omega) (by omega), fun s hs => ⟨h.2.1 _ (by omega) (by omega) (by omega), h.2.2.2.1 _ (by omega) (by omega) (by omega)⟩, h.o zo22 (by decide) (by decide) (Or.inl rfl), h.2.2.2.2.1 22 (by decide) (by decide), h.2.2.2.2.1 11 (by decide) (by decide), h.2.2.2.2.2⟩, h.o zo11 (by decide) (by decide) (Or.inl rfl)⟩
theorem aRb {j : Nat} (h : j ≤ 3) : aR (memX b S μm) (b + 7) 3 (nI j) = some (b + bho j) := by
  rw [aR_B, if_neg (nI_in (show j < 4 by omega) (by decide)), nI_clamp (by omega), bhOf, if_neg (show ¬ 4 ≤ j by omega), bho]
  split <;> rfl
theorem dg_eq (g : Int32) (p : Nat) : (g * (10 : Int32)) + nI p + 1 = dgR g p := by rw [dgR, Int32.mul_comm]
theorem rowsF (L : Lw) {w : Nat} (hw : w ≤ 6) (d : Nat) (u g : Int32) (W : Zt) : rowsP (fun p => if okR w u W p = true then rowsD L w d (useB u p) (dgR g p) (stR L W p) else []) 6 0 = rowsP (fun p => if okR w u W p = true then rowsD L w d (useB u p) (dgR g p) (stR L W p) else []) w 0 := by
  have e : (6 : Nat) = w + (6 - w) := by omega
  rw [show rowsP (fun p => if okR w u W p = true then rowsD L w d (useB u p) (dgR g p) (stR L W p) else []) 6 0 = rowsP (fun p => if okR w u W p = true then rowsD L w d (useB u p) (dgR g p) (stR L W p) else []) (w + (6 - w)) 0 from by rw [← e], rowsP_add, rowsP_nil (6 - w) (0 + w), List.append_nil]
  intro i hi
  rw [if_neg]
  intro z
  have := (ok_of.mp z).1
  omega
theorem x_try {S0 : XS} {q0 : Nat} {w n : Nat} (hw : w ≤ 6) (hn : n ≤ 3) (hr : ∃ O : MS, LawR O L) (hL : ∀ S' o, zo o → sameL S0 S' → S'.2.2.1 o = q0 → LawOk b o S' μm L) : ∀ d len fu, len + d = n → d < fu → ∀ S u dg W t, sameL S0 S → zEq W (zof S (bho len)) → S.2.2.1 (bho len) = q0 → gZ W → wN W = w → W 10 1 = nI t → t + 2 * d ≤ 2000 → ∃ S', f_X5_tryRow fu b (nI len) (nI n) u dg (memX b S μm) = some (memX b S' μm) ∧ dfS (44 + 11 * len) S S' ∧ (S'.1 0 9, S'.1 0 10) = (rowsD L w d u dg W).foldl (beR L) (S.1 0 9, S.1 0 10) := by
  obtain ⟨OO, hrO⟩ := hr
  -- the row itself
  have first : ∀ len, len ≤ n → ∀ (E : Nat → Int32 → Int32 → Int32 → Int32 → mS → Option mS) S u dg W t, sameL S0 S → zEq W (zof S (bho len)) → S.2.2.1 (bho len) = q0 → gZ W → W 10 1 = nI t → t ≤ 2000 → ∃ S3, f_X5_tryRowB E b (nI len) (nI n) u dg (memX b S μm) = f_X5_tryRow_53 E b (nI len) (nI n) u dg (memX b S3 μm) ∧ dfS 77 S S3 ∧ (S3.1 0 9, S3.1 0 10) = beR L (S.1 0 9, S.1 0 10) (dg, W) := by
    intro len hlen E S u dg W t hs hW hq hg ht h2
    have zb := zo_bho (show len ≤ 3 by omega)
    obtain ⟨Y, e1, hY⟩ := x_becomeA (b := b) (S := S) (μ := μm) (Z := zof S 33) (g := S.2.1 10) zo33 zb (bho_ne len).1
    rw [← AZ_of, hq] at e1
    have hWY := hW.tr hY
    have lk : LawOk b 33 (sxL S 33 q0) μm L := hL _ 33 zo33 (hs.tr ⟨rfl, rfl⟩) (by simp [sxL, va_up])
    obtain ⟨v, g1, e2⟩ := x_pass (g := S.2.1 10) zo33 lk (hg.eq hWY).o (by rw [← hWY.2 1 (by decide)]; exact ht) 12 (by omega) (by omega)
    have ev : wtA (hN L Y 12 0) (hN L Y 12 10 0) 10 = vaR L W := (hWY.va hg).symm
    have d1 : dfS 77 S (sxZ (sxL S 33 q0) 33 (hN L Y 12) g1) := dfS.z zo33 q0 (Or.inl rfl) (by omega)
    have b9 : ∀ f, (sxZ (sxL S 33 q0) 33 (hN L Y 12) g1).1 0 f = S.1 0 f := fun f => by
      rw [sx_1 zo33 (by omega)]
      rfl
    rw [f_X5_tryRowB.eq_1, h5X, Option.bind_some, h6X, Option.bind_some, aRb (by omega), Option.bind_some, if_pos (isO_Z zo33), e1, Option.bind_some, h5, Option.bind_some, if_pos (isO_A zo33), show f_X0_passHours (b + 33) 12 (AZ b 33 (sxL S 33 q0) μm Y (S.2.1 10)) = _ from e2, Option.bind_some]
    dsimp only
    rw [h5, Option.bind_some, if_pos (isO_A zo33), x_verdict zo33, Option.bind_some, ev, AZ, gI_H 10 (by omega), Option.bind_some, b9]
    by_cases c : vaR L W ≤ S.1 0 10
    · rw [if_pos c]
      refine ⟨_, rfl, d1, ?_⟩
      rw [b9, b9]
      exact (if_pos c).symm
    · rw [if_neg c, pI_H 10 (by omega), Option.bind_some, pI_H 9 (by omega), Option.bind_some]
      refine ⟨_, rfl, (d1.tr (dfS.i _ _ _ (Or.inr rfl))).tr (dfS.i _ _ _ (Or.inl rfl)), ?_⟩
      have q1 : beR L (S.1 0 9, S.1 0 10) (dg, W) = (dg, vaR L W) := if_neg c
      rw [q1]
      simp [sxI, va_up, upd]
  intro d
  induction d with
  | zero =>
    intro len fu hl hf S u dg W t hs hW hq hg hwN ht h2
    obtain ⟨f, rfl⟩ : ∃ z, fu = z + 1 := ⟨fu - 1, by omega⟩
    obtain ⟨S3, e1, e2, e3⟩ := first len (by omega) (f_X5_tryRow f) S u dg W t hs hW hq hg ht (by omega)
    refine ⟨S3, ?_, e2.mo (by omega), ?_⟩
    · show f_X5_tryRowB (f_X5_tryRow f) b (nI len) (nI n) u dg (memX b S μm) = _
      rw [e1, f_X5_tryRow_53.eq_1, if_pos (by rw [show len = n by omega]; exact nI_le (Nat.le_refl _) (by omega))]
    · rw [e3, rowsD]
      rfl
  | succ d ih =>
    intro len fu hl hf S u dg W t hs hW hq hg hwN ht h2
    obtain ⟨f, rfl⟩ : ∃ z, fu = z + 1 := ⟨fu - 1, by omega⟩
    obtain ⟨S3, e1, e2, e3⟩ := first len (by omega) (f_X5_tryRow f) S u dg W t hs hW hq hg ht (by omega)
    obtain ⟨bn1, bn2, bn3, bn4⟩ := bho_ne len
    have zb := zo_bho (show len ≤ 3 by omega)
    have zb1 := zo_bho (show len + 1 ≤ 3 by omega)
    have hc4 : 44 + 11 * len = 44 ∨ 44 + 11 * len = 55 ∨ 44 + 11 * len = 66 ∨ 44 + 11 * len = 77 := by omega
    -- the rows that go on
    have loop : ∀ mm p f2 S, p + mm = w → mm < f2 → sameL S0 S → zEq W (zof S (bho len)) → S.2.2.1 (bho len) = q0 → ∃ S', f_X5_tryLongerRows_33 (f_X5_tryRow f) f2 b (nI len) (nI n) u dg (b + bho len) (b + bho (len + 1)) (nI p) (memX b S μm) = some (memX b S' μm) ∧ dfS (44 + 11 * len) S S' ∧ (S'.1 0 9, S'.1 0 10) = (rowsP (fun p => if okR w u W p = true then rowsD L w d (useB u p) (dgR dg p) (stR L W p) else []) mm p).foldl (beR L) (S.1 0 9, S.1 0 10) := by
      intro mm
      induction mm with
      | zero =>
        intro p f2 S hp hf2 hs hW hq
        obtain ⟨f2, rfl⟩ : ∃ z, f2 = z + 1 := ⟨f2 - 1, by omega⟩
        have e13 : gI (memX b S μm) (b + bho len) 0 13 = some (nI w) := by
          rw [gI_Z zb 13 (by omega)]
          have : zof S (bho len) 10 2 = W 10 2 := (hW.2 2 (by decide)).symm
          rw [show S.1 (bho len) 13 = zof S (bho len) 10 2 from rfl, this, hg.wI, hwN]
        refine ⟨S, ?_, dfS.rf _ S, by rw [rowsP]; rfl⟩
        rw [f_X5_tryLongerRows_33.eq_2, e13, Option.bind_some, if_pos (by rw [show p = w by omega]; exact nI_le (Nat.le_refl _) (by omega))]
      | succ mm ihm =>
        intro p f2 S hp hf2 hs hW hq
        obtain ⟨f2, rfl⟩ : ∃ z, f2 = z + 1 := ⟨f2 - 1, by omega⟩
        have hp6 : p < 6 := by omega
        have e13 : gI (memX b S μm) (b + bho len) 0 13 = some (nI w) := by
          rw [gI_Z zb 13 (by omega)]
          have : zof S (bho len) 10 2 = W 10 2 := (hW.2 2 (by decide)).symm
          rw [show S.1 (bho len) 13 = zof S (bho len) 10 2 from rfl, this, hg.wI, hwN]
        have ecan : f_X0_canLetFall (b + bho len) (nI p) (memX b S μm) = some (clS W p) := by
          rw [AZ_of b (bho len), x_can zb hp6, hW.cl hp6]
        rw [f_X5_tryLongerRows_33.eq_2, e13, Option.bind_some, if_neg (nI_ge (by omega) (by omega)), rowsP, List.foldl_append]
        by_cases c1 : ((u >>> (nI p &&& 31)) &&& 1) = 0
        · rw [if_pos c1, if_pos (isO_Z zb), ecan, Option.bind_some]
          by_cases c2 : clS W p = 0
          · rw [if_pos c2, vl_eq, nI_1, if_neg (fun z => (ok_of.mp z).2.2 c2)]
            exact ihm (p + 1) f2 S (by omega) (by omega) hs hW hq
          · have hok : okR w u W p = true := ok_of.mpr ⟨by omega, c1, c2⟩
            rw [if_neg c2, if_pos hok]
            obtain ⟨Y, y1, hY⟩ := x_becomeA (b := b) (S := S) (μ := μm) (Z := zof S (bho (len + 1))) (g := S.2.1 10) zb1 zb bn4
            rw [← AZ_of, hq] at y1
            have hWY := hW.tr hY
            have lk : LawOk b (bho (len + 1)) (sxL S (bho (len + 1)) q0) μm L := hL _ _ zb1 (hs.tr ⟨rfl, rfl⟩) (by simp [sxL, va_up])
            obtain ⟨g1, y2⟩ := x_letFall (Z := Y) (g := S.2.1 10) zb1 lk hp6
            have gl : gZ (lfS L Y p).2 := by
              obtain ⟨k0, a1, a2, a3, a4, a5⟩ := lf_all (hg.eq hWY) hrO (show p < wN Y by rw [← hWY.w, hwN]; omega) (by rw [← hWY.cl hp6]; exact c2)
              exact a5
            have hl10 : (lfS L Y p).2 10 1 = nI t := by rw [lfS_hour.1, ← hWY.2 1 (by decide)]; exact ht
            obtain ⟨g2, y3⟩ := x_pass1 (g := g1) zb1 lk gl.o hl10 (by omega)
            have gs : gZ (lfS L W p).2 := by
              obtain ⟨k0, a1, a2, a3, a4, a5⟩ := lf_all hg hrO (show p < wN W by omega) c2
              exact a5
            have hst : zEq (stR L W p) (hZ L (lfS L Y p).2) := (hWY.lf hp6).2.cZ gs
            have d4 : dfS (44 + 11 * len) S (sxZ (sxL S (bho (len + 1)) q0) (bho (len + 1)) (hZ L (lfS L Y p).2) g2) := dfS.z zb1 q0 (Or.inr (by omega)) (by omega)
            obtain ⟨r1, r2, r3⟩ := st_row (L := L) (W := W) p
            obtain ⟨S5, i1, i2, i3⟩ := ih (len + 1) f (by omega) (by omega) (sxZ (sxL S (bho (len + 1)) q0) (bho (len + 1)) (hZ L (lfS L Y p).2) g2) (useB u p) (dgR dg p) (stR L W p) (t + 1) (hs.tr d4.1) (hst.tr zof_sx) (by simp [sxZ, sxL, va_up]) (gZ_hZ gs) (by unfold wN; rw [r2]; exact hwN) (by rw [r1, ht, nI_1]) (by omega)
            have d5 : dfS (44 + 11 * len) S S5 := d4.tr (i2.mo (by omega))
            obtain ⟨S6, j1, j2, j3⟩ := ihm (p + 1) f2 S5 (by omega) (by omega) (hs.tr d5.1) (by rw [d5.o zb bn1 bn2 hc4]; exact hW) (by rw [d5.2.2.2.2.1 _ bn1 bn2]; exact hq)
            refine ⟨S6, ?_, d5.tr j2, ?_⟩
            · rw [if_pos (isO_Z zb1), y1, Option.bind_some, if_pos (isO_A zb1), y2, Option.bind_some]
              rw [if_pos (isO_A zb1), y3, Option.bind_some]
              rw [if_pos (show isO (AZ b (bho (len + 1)) (sxL S (bho (len + 1)) q0) μm (hZ L (lfS L Y p).2) g2) b 4 = true from isO_H), nI_1, dg_eq, show f_X5_tryRow f b (nI (len + 1)) (nI n) (u ||| ((1 : Int32) <<< (nI p &&& 31))) (dgR dg p) (AZ b (bho (len + 1)) (sxL S (bho (len + 1)) q0) μm (hZ L (lfS L Y p).2) g2) = some (memX b S5 μm) from i1, Option.bind_some, vl_eq, nI_1]
              exact j1
            · rw [j3, i3]
              have : ((sxZ (sxL S (bho (len + 1)) q0) (bho (len + 1)) (hZ L (lfS L Y p).2) g2).1 0) = S.1 0 := by
                rw [sx_1 zb1 (by omega)]
                rfl
              rw [this]
        · rw [if_neg c1, vl_eq, nI_1, if_neg (fun z => c1 (ok_of.mp z).2.1)]
          exact ihm (p + 1) f2 S (by omega) (by omega) hs hW hq
    have e2c := e2.mo (show 44 + 11 * len ≤ 77 by omega)
    obtain ⟨S', l1, l2, l3⟩ := loop w 0 fU S3 (by omega) (fU_lt (by omega)) (hs.tr e2.1) (by rw [e2c.o zb bn1 bn2 hc4]; exact hW) (by rw [e2c.2.2.2.2.1 _ bn1 bn2]; exact hq)
    refine ⟨S', ?_, e2c.tr l2, ?_⟩
    · show f_X5_tryRowB (f_X5_tryRow f) b (nI len) (nI n) u dg (memX b S μm) = _
      rw [e1, f_X5_tryRow_53.eq_1, if_neg (nI_ge (by omega) (by omega)), if_pos isO_H, f_X5_tryLongerRows.eq_1, h6X, Option.bind_some, rL_B, Option.bind_some, nI_1, if_pos (show nI (len + 1) < (4 : Int32) from nI_lt (b := 4) (by omega) (by decide)), Option.bind_some, aRb (by omega), Option.bind_some, Option.bind_some, aRb (by omega), Option.bind_some, show f_X5_tryLongerRows_33 (f_X5_tryRow f) fU b (nI len) (nI n) u dg (b + bho len) (b + bho (len + 1)) 0 (memX b S3 μm) = some (memX b S' μm) from l1, Option.bind_some]
    · rw [l3, e3, rowsD, List.foldl_cons, rowsF L hw]
end CX
