/-! cast: the reference's numbers. -/
def mkC (O O' : MS) : Prop := (∀ k, k ≠ 7 → k ≠ 8 → k ≠ 35 → k ≠ 36 → O'.1 k = O.1 k) ∧ ∀ j, j ≠ 3 → j ≠ 4 → j ≠ 18 → j ≠ 19 → O'.2 j = O.2 j
theorem mkC.rf (O : MS) : mkC O O := ⟨fun _ _ _ _ _ => rfl, fun _ _ _ _ _ => rfl⟩
theorem mkC.tr {O1 O2 O3 : MS} (h : mkC O1 O2) (h2 : mkC O2 O3) : mkC O1 O3 := ⟨fun k a b c d => (h2.1 k a b c d).trans (h.1 k a b c d), fun j a b c d => (h2.2 j a b c d).trans (h.2 j a b c d)⟩
theorem mkA.c {O O' : MS} (h : mkA O O') : mkC O O' := ⟨fun k a b _ _ => h.1 k a b, h.2⟩
theorem mkC.i (O : MS) {k : Nat} (v : Int32) (hk : k = 35 ∨ k = 36) : mkC O (smI O k v) := ⟨fun i _ _ c d => upd_ne _ _ (by omega), fun _ _ _ _ _ => rfl⟩
theorem mkC.o {O O' : MS} (h : mkC O O') : keepO O O' := ⟨fun k a => h.1 k (by omega) (by omega) (by omega) (by omega), fun j a => h.2 j (by omega) (by omega) (by omega) (by omega)⟩
theorem mkC.kp {O O' : MS} {Y : Zt} (h : mkC O O') (hk : KP O Y) : KP O' Y := by
  unfold KP
  rw [h.2 20 (by decide) (by decide) (by decide) (by decide)]
  exact hk
theorem cl_01 (W : Zt) (p : Nat) : clS W p = 0 ∨ clS W p = 1 := by
  unfold clS
  split
  · exact Or.inl rfl
  · split
    · exact Or.inl rfl
    · exact Or.inr rfl
section CM
variable {b m : Nat} {O O' : MS} {μ : mS} {Z Y W : Zt} {L : Lw}
theorem st_row (p : Nat) : (stR L W p) 10 1 = W 10 1 + 1 ∧ (stR L W p) 10 2 = W 10 2 ∧ ∀ j, j < 4 → stR L W p j = W j := by
  obtain ⟨h1, h2, h3, h4⟩ := lfS_hour (L := L) (Z := W) (p := p)
  exact ⟨by rw [stR, hZ_hour, h1], by rw [stR, hZ_w, h2], fun j hj => by rw [stR, hZ_row (by omega) (by omega) (by omega) (by omega), h4 j hj]⟩
theorem st_g (hg : gZ W) (hr : LawR O L) {p : Nat} (hp : p < wN W) (hc : ¬ clS W p = 0) : gZ (stR L W p) := by
  obtain ⟨k0, a1, a2, a3, a4, a5⟩ := lf_all hg hr hp hc
  exact gZ_hZ a5
theorem ok_of {w : Nat} {u : Int32} {p : Nat} : okR w u W p = true ↔ p < w ∧ usedB u p = 0 ∧ ¬ clS W p = 0 := by
  simp only [okR, Bool.and_eq_true, decide_eq_true_eq, Bool.not_eq_true', decide_eq_false_iff_not, and_assoc]
def tenN (d : Nat) : Nat := if d = 0 then 1 else 7 ^ (d - 1)
theorem ten_ok {d : Nat} (h : d ≤ 3) : 0 < tenN d ∧ tenN d < 2 ^ 31 := by
  have : d = 0 ∨ d = 1 ∨ d = 2 ∨ d = 3 := by omega
  rcases this with rfl | rfl | rfl | rfl <;> exact ⟨by decide, by decide⟩
theorem ten_next {d : Nat} (h : d + 1 ≤ 3) : (if nI (tenN (d + 1)) ≤ (1 : Int32) then (1 : Int32) else nI (tenN (d + 1)) / (7 : Int32)) = nI (tenN d) := by
  have : d = 0 ∨ d = 1 ∨ d = 2 := by omega
  rcases this with rfl | rfl | rfl <;> decide
/-- what a number gives -/
def cbQ (r : Option (Int32 × Zt)) (good : Int32) (V : Zt) (g : Int32) : Prop := match r with
  | some x => good = 1 ∧ V = x.2 ∧ g = x.1
  | none => good = 0
theorem m_cbL (μ : mS) {w n : Nat} (hw6 : w ≤ 6) (hn : n ≤ 3) : ∀ d k rest u g W (e : Bool) f t O, k + d = n → rest < 7 ^ d → d + 1 < f → gZ W → wN W = w → W 10 1 = nI t → t + d ≤ 2000 → MZ O W → LawR O L → sameC W Y → O.1 35 = g → ∃ O' V good t', f_X6_castBy_42 f m (nI n) (nI (tenN d)) (nI rest) u 1 (if e = true then 1 else 0) (nI k) (memM m O μ) = some (good, memM m O' μ) ∧ mkC O O' ∧ MZ O' V ∧ gZ V ∧ V 10 1 = nI t' ∧ t' ≤ 2000 ∧ sameC V Y ∧ cbQ (cbS L w d rest u g W e) good V (O'.1 35) := by
  intro d
  induction d with
  | zero =>
    intro k rest u g W e f t O hk hr hf hg hwN ht h2 hz hl hs h35
    obtain ⟨f, rfl⟩ : ∃ z, f = z + 1 := ⟨f - 1, by omega⟩
    have : k = n := by omega
    subst this
    refine ⟨O, W, 1, t, ?_, mkC.rf O, hz, hg, ht, by omega, hs, ?_⟩
    · rw [f_X6_castBy_42.eq_2, if_pos (nI_le (Nat.le_refl _) (by omega)), if_pos (by decide)]
    · rw [cbS]
      exact ⟨rfl, rfl, h35⟩
  | succ d ih =>
    intro k rest u g W e f t O hk hr hf hg hwN ht h2 hz hl hs h35
    obtain ⟨f, rfl⟩ : ∃ z, f = z + 1 := ⟨f - 1, by omega⟩
    obtain ⟨f, rfl⟩ : ∃ z, f = z + 1 := ⟨f - 1, by omega⟩
    have h7 : 0 < 7 ^ d := Nat.pow_pos (by omega)
    have eT : tenN (d + 1) = 7 ^ d := by rw [tenN, if_neg (by omega), Nat.add_sub_cancel]
    obtain ⟨tn1, tn2⟩ := ten_ok (show d + 1 ≤ 3 by omega)
    have hd7 : rest / 7 ^ d < 7 := by
      rw [Nat.div_lt_iff_lt_mul h7]
      rw [Nat.pow_succ, Nat.mul_comm] at hr
      exact hr
    have hm7 : rest % 7 ^ d < 7 ^ d := Nat.mod_lt _ h7
    have hrest : rest < 2 ^ 31 := by
      have : d = 0 ∨ d = 1 ∨ d = 2 := by omega
      rcases this with rfl | rfl | rfl <;> omega
    have ew : f_X6_within (nI rest / nI (tenN (d + 1))) 0 6 = nI (rest / 7 ^ d) := by
      rw [eT] at tn2 ⊢
      rw [pk_div hrest h7 tn2]
      exact within_nI (N := 6) (by omega) (by decide)
    have er : nI rest - nI rest / nI (tenN (d + 1)) * nI (tenN (d + 1)) = nI (rest % 7 ^ d) := by
      rw [eT] at tn2 ⊢
      exact pk_rem hrest h7 tn2
    have hx : f_X6_castBy_42 (f + 1 + 1) m (nI n) (nI (tenN (d + 1))) (nI rest) u 1 (if e = true then 1 else 0) (nI k) (memM m O μ) = _ := f_X6_castBy_42.eq_2 _ _ _ _ _ _ _ _ _ _
    rw [if_neg (nI_ge (by omega) (by omega)), if_neg (show ¬ (1 : Int32) = 0 by decide), if_neg (nI_ne0 tn1 tn2), vl_eq, if_neg (nI_ne0 tn1 tn2), vl_eq, vl_eq, vl_eq, vl_eq, ew, er, ten_next (by omega)] at hx
    -- once it's bad
    have bad : ∀ u v67 x9, f_X6_castBy_159 (f_X6_castBy_42 (f + 1)) m (nI n) (nI (tenN d)) (nI (rest % 7 ^ d)) u 0 v67 (nI k) x9 (memM m O μ) = some (0, memM m O μ) := fun u v67 x9 => by
      rw [f_X6_castBy_159.eq_1, if_pos rfl, vl_eq, nI_1, f_X6_castBy_42.eq_2, if_pos rfl]
      by_cases c : nI n ≤ nI (k + 1)
      · rw [if_pos c, if_pos (by decide)]
      · rw [if_neg c, if_pos (by decide)]
    rw [cbS]
    by_cases c0 : rest / 7 ^ d = 0
    · rw [if_pos c0]
      rw [c0, if_pos (show nI 0 - 1 = (-1 : Int32) by decide), if_pos (show nI 0 - 1 = (-1 : Int32) by decide), vl_eq, nI_1] at hx
      have e1 : ((if e = true then (1 : Int32) else 0) ||| 1) = if true = true then 1 else 0 := by cases e <;> decide
      rw [e1] at hx
      obtain ⟨O', V, good, t', q1, q2, q3, q4, q5, q6, q7, q8⟩ := ih (k + 1) (rest % 7 ^ d) u g W true (f + 1) t O (by omega) hm7 (by omega) hg hwN ht (by omega) hz hl hs h35
      exact ⟨O', V, good, t', hx.trans q1, q2, q3, q4, q5, q6, q7, q8⟩
    · rw [if_neg c0]
      obtain ⟨p, hp⟩ : ∃ p, rest / 7 ^ d = p + 1 := ⟨rest / 7 ^ d - 1, (Nat.sub_add_cancel (Nat.one_le_iff_ne_zero.mpr c0)).symm⟩
      rw [hp] at hd7 hx ⊢
      rw [nI_pred, if_neg (neg1_ne (show p < 2 ^ 31 by omega)), if_neg (neg1_ne (show p < 2 ^ 31 by omega))] at hx
      have e0 : ((if e = true then (1 : Int32) else 0) ||| 0) = if e = true then 1 else 0 := by cases e <;> decide
      rw [e0] at hx
      cases e with
      | true =>
        rw [if_pos rfl, if_neg (by decide), f_X6_castBy_144.eq_1, if_pos rfl, bad] at hx
        rw [if_pos rfl]
        exact ⟨O, W, 0, t, hx, mkC.rf O, hz, hg, ht, by omega, hs, rfl⟩
      | false =>
        rw [if_neg (show ¬ false = true by decide), if_pos rfl, mI_0, Option.bind_some, hz.wi, hg.wI, hwN, vl_eq, f_X6_castBy_144.eq_1] at hx
        rw [if_neg (show ¬ false = true by decide), Nat.add_sub_cancel]
        by_cases c1 : p < w ∧ usedB u p = 0
        · rw [if_neg (nI_ge c1.1 (by omega)), if_pos (show ((u >>> (nI p &&& 31)) &&& 1) = 0 from c1.2), if_neg (by decide), if_pos isO_M, m_can hz (by omega), Option.bind_some] at hx
          by_cases c2 : clS W p = 0
          · rw [c2, bad] at hx
            rw [if_neg (fun z => (ok_of.mp z).2.2 c2)]
            exact ⟨O, W, 0, t, hx, mkC.rf O, hz, hg, ht, by omega, hs, rfl⟩
          · rw [if_pos (ok_of.mpr ⟨c1.1, c1.2, c2⟩)]
            have c3 : clS W p = 1 := (cl_01 W p).resolve_left c2
            have hpw : p < wN W := by rw [hwN]; exact c1.1
            obtain ⟨O1, a1, a2, a3⟩ := m_dropOf (m := m) (μ := μ) hz hg hl hpw c2
            have gl : gZ (lfS L W p).2 := by
              obtain ⟨k0, b1, b2, b3, b4, b5⟩ := lf_all hg hl hpw c2
              exact b5
            obtain ⟨O2, b1, b2, b3⟩ := m_hourOf (m := m) (μ := μ) (hl.k a2) a3 gl (by rw [lfS_hour.1]; exact ht) (by omega)
            have k12 := (a2.tr b2)
            have z3 : MZ (smI O2 35 (dgR g p)) (stR L W p) := b3
            have l3 : LawR (smI O2 35 (dgR g p)) L := (show LawR O2 L from hl.k k12)
            obtain ⟨s1, s2, s3⟩ := st_row (L := L) (W := W) p
            obtain ⟨O', V, good, t', q1, q2, q3, q4, q5, q6, q7, q8⟩ := ih (k + 1) (rest % 7 ^ d) (useB u p) (dgR g p) (stR L W p) false (f + 1) (t + 1) (smI O2 35 (dgR g p)) (by omega) hm7 (by omega) (st_g hg hl hpw c2) (by unfold wN; rw [s2]; exact hwN) (by rw [s1, ht, nI_1]) (by omega) z3 l3 ⟨fun j i hj => by rw [s3 j hj]; exact hs.1 j i hj, by rw [s2]; exact hs.2⟩ (by rw [smI_at, if_pos rfl])
            refine ⟨O', V, good, t', ?_, (k12.c.tr (mkC.i O2 _ (Or.inl rfl))).tr q2, q3, q4, q5, q6, q7, q8⟩
            rw [hx, c3, f_X6_castBy_159.eq_1, if_neg (by decide), if_pos isO_M, a1, Option.bind_some, if_pos isO_M, b1, Option.bind_some, vl_eq, mI_35, Option.bind_some, k12.1 35 (by decide) (by decide), h35, mp_35, Option.bind_some, vl_eq, nI_1]
            exact q1
        · have v0 : (if nI w ≤ nI p then (0 : Int32) else if ((u >>> (nI p &&& 31)) &&& 1) = 0 then 1 else 0) = 0 := by
            by_cases c3 : nI w ≤ nI p
            · rw [if_pos c3]
            · rw [if_neg c3, if_neg]
              intro z
              apply c1
              refine ⟨?_, z⟩
              rcases Nat.lt_or_ge p w with y | y
              · exact y
              · exact absurd (nI_le y (by omega)) c3
          rw [v0, if_pos rfl, bad] at hx
          rw [if_neg (fun z => c1 ⟨(ok_of.mp z).1, (ok_of.mp z).2.1⟩)]
          exact ⟨O, W, 0, t, hx, mkC.rf O, hz, hg, ht, by omega, hs, rfl⟩
theorem m_tens (K : Nat → Int32 → Int32 → Int32 → Int32 → Int32 → Int32 → Int32 → mS → Option (Int32 × mS)) {n : Nat} (hn : n ≤ 3) (x1 : Int32) : f_X6_castBy_5 K fU m x1 (nI n) 1 1 (memM m O μ) = K m (nI n) (nI (tenN n)) x1 0 1 0 0 (memM m (smI O 35 0) μ) := by
  have : n = 0 ∨ n = 1 ∨ n = 2 ∨ n = 3 := by omega
  rw [show fU = 4092 + 1 + 1 + 1 + 1 from rfl]
  rcases this with rfl | rfl | rfl | rfl
  · rw [f_X6_castBy_5.eq_2, if_pos (show nI 0 ≤ (1 : Int32) by decide), mp_35, Option.bind_some]
    rfl
  · rw [f_X6_castBy_5.eq_2, if_pos (show nI 1 ≤ (1 : Int32) by decide), mp_35, Option.bind_some]
    rfl
  · rw [f_X6_castBy_5.eq_2, if_neg (show ¬ nI 2 ≤ (1 : Int32) by decide), vl_eq, vl_eq, f_X6_castBy_5.eq_2, if_pos (show nI 2 ≤ (1 : Int32) + 1 by decide), mp_35, Option.bind_some]
    rfl
  · rw [f_X6_castBy_5.eq_2, if_neg (show ¬ nI 3 ≤ (1 : Int32) by decide), vl_eq, vl_eq, f_X6_castBy_5.eq_2, if_neg (show ¬ nI 3 ≤ (1 : Int32) + 1 by decide), vl_eq, vl_eq, f_X6_castBy_5.eq_2, if_pos (show nI 3 ≤ (1 : Int32) + 1 + 1 by decide), mp_35, Option.bind_some]
    rfl
theorem m_castBy (μ : mS) {n N : Nat} (hn : n ≤ 3) (hN : N < 7 ^ n) (hg : gZ Y) (hz : MZ O Y) (hk : KP O Y) (hl : LawR O L) {t : Nat} (ht : Y 10 1 = nI t) (h2 : t ≤ 999) : ∃ O' V good t', f_X6_castBy m (nI N) (nI n) (memM m O μ) = some (good, memM m O' μ) ∧ mkC O O' ∧ MZ O' V ∧ gZ V ∧ V 10 1 = nI t' ∧ t' ≤ 2000 ∧ sameC V Y ∧ cbQ (cbS L (wN Y) n N 0 0 Y false) good V (O'.1 35) := by
  have z0 : MZ (smI O 35 0) Y := hz
  have l0 : LawR (smI O 35 0) L := (show LawR O L from hl)
  obtain ⟨O', V, good, t', q1, q2, q3⟩ := m_cbL (m := m) μ (w := wN Y) hg.w6 hn n 0 N 0 0 Y false fU t (smI O 35 0) (by omega) hN (fU_lt (by omega)) hg rfl ht (by omega) z0 l0 ⟨fun _ _ _ => rfl, rfl⟩ (by rw [smI_at, if_pos rfl])
  refine ⟨O', V, good, t', ?_, (mkC.i O 0 (Or.inl rfl)).tr q2, q3⟩
  rw [f_X6_castBy.eq_1, m_tens _ hn]
  exact q1
def beM (L : Lw) (a : Int32 × Int32) (x : Int32 × Zt) : Int32 × Int32 := if a.1 = -1 ∨ ¬ vaR L x.2 ≤ a.2 then (x.1, vaR L x.2) else a
theorem m_castL (μ : mS) (x2 : Int32) {n : Nat} (hn : n ≤ 3) (hg : gZ Y) {t : Nat} (ht : Y 10 1 = nI t) (h2 : t ≤ 999) : ∀ d N f best most O, N + d = 7 ^ n → d < f → MZ O Y → KP O Y → LawR O L → ∃ O', f_X6_cast_67 f m (nI n) x2 (nI (7 ^ n)) best most (nI N) (memM m O μ) = some (if x2 = 0 then ((rowsP (fun N => (cbS L (wN Y) n N 0 0 Y false).toList) d N).foldl (beM L) (best, most)).1 else ((rowsP (fun N => (cbS L (wN Y) n N 0 0 Y false).toList) d N).foldl (beM L) (best, most)).2, memM m O' μ) ∧ keepO O O' ∧ MZ O' Y := by
  have hb : 7 ^ n < 2 ^ 31 := by
    have : n = 0 ∨ n = 1 ∨ n = 2 ∨ n = 3 := by omega
    rcases this with rfl | rfl | rfl | rfl <;> decide
  intro d
  induction d with
  | zero =>
    intro N f best most O hNn hf hz hk hl
    obtain ⟨f, rfl⟩ : ∃ z, f = z + 1 := ⟨f - 1, by omega⟩
    have : N = 7 ^ n := by omega
    subst this
    refine ⟨O, ?_, keepO.rf O, hz⟩
    rw [f_X6_cast_67.eq_2, if_pos (nI_le (Nat.le_refl _) hb), rowsP, List.foldl_nil]
    split <;> rfl
  | succ d ih =>
    intro N f best most O hNn hf hz hk hl
    obtain ⟨f, rfl⟩ : ∃ z, f = z + 1 := ⟨f - 1, by omega⟩
    obtain ⟨O1, V, good, t', q1, q2, q3, q4, q5, q6, q7, q8⟩ := m_castBy (m := m) μ hn (show N < 7 ^ n by omega) hg hz hk hl ht h2
    rw [f_X6_cast_67.eq_2, if_neg (nI_ge (by omega) hb), if_pos isO_M, q1, Option.bind_some, rowsP, List.foldl_append]
    -- laid back, and on
    have go : ∀ (P : MS) best most (V : Zt), mkC O P → MZ P V → sameC V Y → ∃ O', f_X6_cast_159 (f_X6_cast_67 f) m (nI n) x2 (nI (7 ^ n)) best most (nI N) (memM m P μ) = some (if x2 = 0 then ((rowsP (fun N => (cbS L (wN Y) n N 0 0 Y false).toList) d (N + 1)).foldl (beM L) (best, most)).1 else ((rowsP (fun N => (cbS L (wN Y) n N 0 0 Y false).toList) d (N + 1)).foldl (beM L) (best, most)).2, memM m O' μ) ∧ keepO O O' ∧ MZ O' Y := by
      intro P best most V kP zP sP
      obtain ⟨O2, a1, a2, a3⟩ := m_lays (m := m) (μ := μ) zP sP (kP.kp hk)
      have k2 := kP.tr a2.c
      obtain ⟨O', b1, b2, b3⟩ := ih (N + 1) f best most O2 (by omega) (by omega) a3 (k2.kp hk) (lr_o k2.o hl)
      refine ⟨O', ?_, k2.o.tr b2, b3⟩
      rw [f_X6_cast_159.eq_1, if_pos isO_M, a1, Option.bind_some, vl_eq, nI_1]
      exact b1
    cases hc : cbS L (wN Y) n N 0 0 Y false with
    | none =>
      rw [hc] at q8
      have : good = 0 := q8
      subst this
      rw [if_pos rfl]
      exact go O1 best most V q2 q3 q7
    | some x =>
      rw [hc] at q8
      obtain ⟨e1, e2, e3⟩ := q8
      subst e1 e2
      obtain ⟨O2, a1, a2, a3⟩ := m_goes (m := m) (μ := μ) (lr_o q2.o hl) q3 q4 q5 (by omega) (n := 12) (by omega)
      have k2 := q2.tr a2.c
      have e35 : O2.1 35 = x.1 := by rw [a2.1 35 (by decide) (by decide)]; exact e3
      have k3 := k2.tr (mkC.i O2 (vaR L x.2) (Or.inr rfl))
      have z3 : MZ (smI O2 36 (vaR L x.2)) (hN L x.2 12) := a3
      have s3 : sameC (hN L x.2 12) Y := ⟨fun j k hj => by rw [hN_row (by omega) (by omega) (by omega) (by omega)]; exact q7.1 j k hj, by rw [hN_w]; exact q7.2⟩
      have i35 : (smI O2 36 (vaR L x.2)).1 35 = x.1 := by rw [smI_at, if_neg (by decide)]; exact e35
      have i36 : (smI O2 36 (vaR L x.2)).1 36 = vaR L x.2 := by rw [smI_at, if_pos rfl]
      rw [if_neg (show ¬ (1 : Int32) = 0 by decide), if_pos isO_M, show f_X6_goes m 12 (memM m O1 μ) = some (memM m O2 μ) from a1, Option.bind_some, mI_7, Option.bind_some, if_pos isO_M, a3.ad, m_verdictOf a3, Option.bind_some, mp_36, Option.bind_some, show ((some x).toList : List (Int32 × Zt)) = [x] from rfl, List.foldl_cons, List.foldl_nil]
      have e36 : smI O2 36 (wtA (hN L x.2 12 0) (hN L x.2 12 10 0) 10) = smI O2 36 (vaR L x.2) := rfl
      rw [e36]
      have yes : ∃ O', f_X6_cast_125 (f_X6_cast_67 f) m (nI n) x2 (nI (7 ^ n)) best most (nI N) 1 (memM m (smI O2 36 (vaR L x.2)) μ) = some (if x2 = 0 then ((rowsP (fun N => (cbS L (wN Y) n N 0 0 Y false).toList) d (N + 1)).foldl (beM L) (x.1, vaR L x.2)).1 else ((rowsP (fun N => (cbS L (wN Y) n N 0 0 Y false).toList) d (N + 1)).foldl (beM L) (x.1, vaR L x.2)).2, memM m O' μ) ∧ keepO O O' ∧ MZ O' Y := by
        obtain ⟨O', b1, b2⟩ := go _ x.1 (vaR L x.2) _ k3 z3 s3
        refine ⟨O', ?_, b2⟩
        rw [f_X6_cast_125.eq_1, if_neg (by decide), mI_35, Option.bind_some, i35, f_X6_cast_141.eq_1, if_neg (by decide), mI_36, Option.bind_some, i36, f_X6_cast_157.eq_1]
        exact b1
      by_cases c1 : best = -1
      · have eb : beM L (best, most) x = (x.1, vaR L x.2) := if_pos (Or.inl c1)
        rw [if_pos c1, eb]
        exact yes
      · rw [if_neg c1, mI_36, Option.bind_some, i36, vl_eq]
        by_cases c2 : vaR L x.2 ≤ most
        · have eb : beM L (best, most) x = (best, most) := if_neg (fun z => Or.elim z c1 (fun y => y c2))
          rw [if_pos c2, eb]
          obtain ⟨O', b1, b2⟩ := go _ best most _ k3 z3 s3
          refine ⟨O', ?_, b2⟩
          rw [f_X6_cast_125.eq_1, if_pos rfl, f_X6_cast_141.eq_1, if_pos rfl, f_X6_cast_157.eq_1]
          exact b1
        · have eb : beM L (best, most) x = (x.1, vaR L x.2) := if_pos (Or.inr c2)
          rw [if_neg c2, eb]
          exact yes
theorem m_cast (hg : gZ Y) (hz : MZ O Y) (hl : LawR O L) {t : Nat} (ht : Y 10 1 = nI t) (h2 : t ≤ 999) {n : Nat} (hn : n ≤ 3) (x2 : Int32) (μ : mS) : ∃ O', (f_X6_keeps m (memM m O μ)).bind (fun q60 => f_X6_cast_67 fU m (nI n) x2 (nI (7 ^ n)) (-1) 0 0 q60) = some (if x2 = 0 then ((rowsD L (wN Y) n 0 0 Y).foldl (beM L) (-1, 0)).1 else ((rowsD L (wN Y) n 0 0 Y).foldl (beM L) (-1, 0)).2, memM m O' μ) ∧ keepO O O' ∧ MZ O' Y := by
  obtain ⟨O1, a1, a2, a3, a4⟩ := m_keeps (m := m) (μ := μ) hz
  obtain ⟨O', b1, b2, b3⟩ := m_castL (m := m) (L := L) μ x2 hn hg ht h2 (7 ^ n) 0 fU (-1) 0 O1 (by omega) (fU_lt (by
    have : n = 0 ∨ n = 1 ∨ n = 2 ∨ n = 3 := by omega
    rcases this with rfl | rfl | rfl | rfl <;> decide)) a3 a4 (hl.kk a2)
  refine ⟨O', ?_, a2.o.tr b2, b3⟩
  rw [a1, Option.bind_some, ← blk]
  exact b1
end CM
