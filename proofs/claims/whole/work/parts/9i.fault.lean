/-! text: the class reads a whole text. -/
def prP (f : Nat → Int32) (n x2 : Nat) (s : TS) (L : List Int32) : Option (Bool × TS × List Int32) := if s.1 = nI (4 + x2) then mR f n 4096 2 (lx f n s.2.2.2) [] 0 L else some (false, s, L)
def txY (f : Nat → Int32) (n : Nat) (s0 s1 s2 : TS) (X0 X1 X2 : List Int32) : Prop := prP f n 0 (lx f n 0) [] = some (true, s0, X0) ∧ prP f n 1 (lx f n s0.2.2.2) X0 = some (true, s1, X0 ++ X1) ∧ prP f n 2 (lx f n s1.2.2.2) (X0 ++ X1) = some (true, s2, X0 ++ X1 ++ X2) ∧ (goodX X0 ∧ goodX X1 ∧ goodX X2) ∧ (X0 ++ X1 ++ X2).length ≤ 160
def txN (f : Nat → Int32) (n : Nat) (s : TS) : Prop := (∃ L, prP f n 0 (lx f n 0) [] = some (false, s, L)) ∨ (∃ s0 X0 L, prP f n 0 (lx f n 0) [] = some (true, s0, X0) ∧ prP f n 1 (lx f n s0.2.2.2) X0 = some (false, s, L)) ∨ (∃ s0 X0 s1 X1 L, prP f n 0 (lx f n 0) [] = some (true, s0, X0) ∧ prP f n 1 (lx f n s0.2.2.2) X0 = some (true, s1, X1) ∧ prP f n 2 (lx f n s1.2.2.2) X1 = some (false, s, L)) ∨ (∃ s0 s1 s2 X0 X1 X2, txY f n s0 s1 s2 X0 X1 X2 ∧ s = lx f n s2.2.2.2 ∧ ¬ s.1 = 0)
theorem key_v : ∀ k, k < 3 → ((4 : Int32) + nI k = nI (4 + k)) ∧ ¬ nI (4 + k) = (0 : Int32) := by decide
section PA
variable {b m n : Nat} {f : Nat → Int32} {S S' : XS} {μ : mS}
theorem tp2 {μ : mS} : gR (memX b S μ) (b + 2) 3 2 = some (b + 5) := gR_T 2 (by decide)
theorem x_part (hn : n ≤ 160) (hr : ∀ k, k < n → rng 255 (f k)) {s : TS} {L : List Int32} (K : Nat → Int32 → mS → Option (Int32 × mS)) {x2 fu : Nat} (hx2 : x2 < 3) (h : cst f n S s L) (ht : tok f n s) (hL : L.length ≤ s.2.2.1) : ∃ ok S' s', f_X4_fault_18 K (fu + 1) (b + 2) 1 (nI x2) (memX b S μ) = f_X4_fault_18 K fu (b + 2) ok (nI (x2 + 1)) (memX b S' μ) ∧ (tpS S S' ∧ S'.1 2 3 = S.1 2 3 ∧ S'.2.1 3 = S.2.1 3) ∧ (ctk S' s' ∧ s'.2.2.1 ≤ 160) ∧ ((ok = 0 ∧ ∃ L2, prP f n x2 s L = some (false, s', L2)) ∨ (ok = 1 ∧ ∃ s1 X, prP f n x2 s L = some (true, s1, L ++ X) ∧ s' = lx f n s1.2.2.2 ∧ goodX X ∧ cst f n S' s' (L ++ X) ∧ tok f n s' ∧ (L ++ X).length ≤ s'.2.2.1 ∧ S'.2.1 5 x2 = nI L.length ∧ ∀ i, i ≠ x2 → S'.2.1 5 i = S.2.1 5 i)) := by
  obtain ⟨k1, k2⟩ := key_v x2 hx2
  have h1 : cst f n (sxA S 5 (upd (S.2.1 5) x2 (nI L.length))) s L := by
    obtain ⟨a1, a2, a3, a4, a5⟩ := h
    exact ⟨by simp [sxA, va_up]; exact a1, a2, a3, a4, fun k hk => by simp [sxA, va_up]; simpa using a5 k hk⟩
  have t1 : tpS S (sxA S 5 (upd (S.2.1 5) x2 (nI L.length))) ∧ (sxA S 5 (upd (S.2.1 5) x2 (nI L.length))).1 2 3 = S.1 2 3 ∧ (sxA S 5 (upd (S.2.1 5) x2 (nI L.length))).2.1 3 = S.2.1 3 := ⟨tpS.a S _ (by omega), rfl, by simp [sxA, va_up]⟩
  have q5 : ∀ i, (sxA S 5 (upd (S.2.1 5) x2 (nI L.length))).2.1 5 i = if i = x2 then nI L.length else S.2.1 5 i := fun i => by simp [sxA, va_up, upd]
  have e0 : f_X4_fault_18 K (fu + 1) (b + 2) 1 (nI x2) (memX b S μ) = (f_X4_isTaken (b + 2) (nI (4 + x2)) (memX b (sxA S 5 (upd (S.2.1 5) x2 (nI L.length))) μ)).bind fun q33 =>
    if q33.1 = 0 then
    vl (nI x2 + (1 : Int32)) fun v35 =>
    f_X4_fault_18 K fu (b + 2) (0 : Int32) v35 q33.2
    else
    if isO q33.2 (b + 2) 3 = true then
    (f_X4_isEither 8 (b + 2) (0 : Int32) q33.2).bind fun q37 =>
    if q37.1 = 0 then
    vl (nI x2 + (1 : Int32)) fun v39 =>
    f_X4_fault_18 K fu (b + 2) (0 : Int32) v39 q37.2
    else
    if isO q37.2 (b + 2) 3 = true then
    (f_X4_isTaken (b + 2) (59 : Int32) q37.2).bind fun q41 =>
    vl (if q41.1 = 0 then (0 : Int32) else (1 : Int32)) fun v43 =>
    vl (nI x2 + (1 : Int32)) fun v44 =>
    f_X4_fault_18 K fu (b + 2) v43 v44 q41.2 else none else none := by
    rw [f_X4_fault_18.eq_2, if_neg (show ¬ (3 : Int32) ≤ nI x2 from nI_ge (show x2 < 3 by omega) (by decide)), if_neg (by decide), tp2, Option.bind_some, gI_T 8 (by omega), Option.bind_some, h.2.2.2.1, sI_X (k := 5) (by omega) rfl, if_neg (nI_in hx2 (by decide)), nI_clamp (by omega), Option.bind_some, if_pos isO_T, k1]
  generalize sxA S 5 (upd (S.2.1 5) x2 (nI L.length)) = S1 at *
  rw [e0]
  by_cases c : s.1 = nI (4 + x2)
  · have hs0 : ¬ s.1 = 0 := by rw [c]; exact k2
    have ht1 := ht.go
    have hp1 := ht1.2 hs0
    obtain ⟨S2, e1, e2, e3⟩ := x_taken (b := b) (μ := μ) hn hr h1 ht c
    have e4 := x_eitherD (b := b) (μ := μ) hn hr 8 0 (by omega) (by omega) S2 (lx f n s.2.2.2) L [] 2 e3 ht1.1 (by omega) (show 0 < 1 by omega) ⟨Or.inr rfl, fun _ => rfl, fun q => absurd q (by omega), fun q => absurd q (by omega)⟩
    obtain ⟨ok, S3, s', X, g1, g2, g3, g4, g5, g6⟩ := e4
    have g1 : f_X4_isEither 8 (b + 2) (0 : Int32) (memX b S2 μ) = some (ok, memX b S3 μ) := g1
    have a4 := g4.at
    have tt : tpS S S3 ∧ S3.1 2 3 = S.1 2 3 ∧ S3.2.1 3 = S.2.1 3 := by
      have := e2.tr g2
      exact ⟨t1.1.tr this.1, this.2.1.trans t1.2.1, this.2.2.1.trans t1.2.2⟩
    rw [e1, Option.bind_some]
    dsimp only
    rw [if_neg (by decide), if_pos isO_T, g1, Option.bind_some, prP, if_pos c, nI_1]
    rcases g6 with ⟨rfl, k, L2, b1, b2⟩ | ⟨rfl, gX, H1, o1, L1, g7, g8, g9⟩
    · refine ⟨0, S3, s', ?_, tt, ⟨g3.2.2.1, by omega⟩, Or.inl ⟨rfl, L2, ?_⟩⟩
      · dsimp only
        rw [if_pos rfl, vl_eq]
      · have := b2 (4096 - k)
        rw [show 4096 - k + k = 4096 by omega] at this
        exact this
    · dsimp only
      rw [if_neg (by decide), if_pos isO_T]
      by_cases c59 : s'.1 = 59
      · have hs1 : ¬ s'.1 = 0 := by rw [c59]; decide
        have ht2 := g4.go
        have hp2 := ht2.2 hs1
        obtain ⟨S4, i1, i2, i3⟩ := x_taken (b := b) (μ := μ) hn hr g3 g4 c59
        refine ⟨1, S4, lx f n s'.2.2.2, ?_, ⟨tt.1.tr i2.1, i2.2.1.trans tt.2.1, i2.2.2.1.trans tt.2.2⟩, ⟨i3.2.2.1, by have := ht2.1.at; omega⟩, Or.inr ⟨rfl, s', X, ?_, rfl, gX, i3, ht2.1, by rw [List.length_append]; omega, ?_, fun i hi => ?_⟩⟩
        · rw [i1, Option.bind_some, vl_eq, vl_eq]
          dsimp only
          rw [if_neg (by decide)]
        · obtain ⟨k, b1, b2⟩ := g7
          have e := b2 (4095 - k + 1)
          rw [show 4095 - k + 1 + k = 4096 by omega] at e
          have u := g8 1 (by omega) (by omega) (by omega)
          rw [e, mR, if_pos rfl, if_pos c59, u]
          rfl
        · rw [i2.2.2.2, g2.2.2.2, e2.2.2.2, q5, if_pos rfl]
        · rw [i2.2.2.2, g2.2.2.2, e2.2.2.2, q5, if_neg hi]
      · have hst : failR f n 0 s' H1 o1 L1 s' := by
          by_cases c41 : s'.1 = 41
          · refine failR.now (L2 := (unw 1 H1 o1 L1).2.2) fun i => ?_
            have u := g8 1 (by omega) (by omega) (by omega)
            rw [mR, if_pos rfl, if_neg c59, if_pos c41, u]
            rfl
          · exact stuck g9 c41 fun q => absurd q c59
        obtain ⟨k, L2, b1, b2⟩ := g7.fail hst
        refine ⟨0, S3, s', ?_, tt, ⟨g3.2.2.1, by omega⟩, Or.inl ⟨rfl, L2, ?_⟩⟩
        · rw [x_not g3 c59, Option.bind_some, vl_eq, vl_eq]
          dsimp only
          rw [if_pos rfl]
        · have := b2 (4096 - k)
          rw [show 4096 - k + k = 4096 by omega] at this
          exact this
  · refine ⟨0, S1, s, ?_, t1, ⟨h1.2.2.1, by have := ht.at; omega⟩, Or.inl ⟨rfl, L, by rw [prP, if_neg c]⟩⟩
    rw [x_not h1 c, Option.bind_some]
    dsimp only
    rw [if_pos rfl, vl_eq, nI_1]
def fltK : Nat → Int32 → mS → Option (Int32 × mS) := fun h0 x1 σ => if x1 = 0 then
f_X4_fault_91 h0 (σ)
else
(gI (σ) h0 3 5).bind fun v51 =>
if v51 = 0 then
some ((-1 : Int32), σ)
else
f_X4_fault_91 h0 (σ)
theorem flt_0 (K : Nat → Int32 → mS → Option (Int32 × mS)) {h0 : Nat} {x2 : Int32} {σ : mS} {fu : Nat} (hf : 0 < fu) : f_X4_fault_18 K fu h0 0 x2 σ = K h0 0 σ := by
  obtain ⟨fu, rfl⟩ : ∃ q, fu = q + 1 := ⟨fu - 1, by omega⟩
  rw [f_X4_fault_18.eq_2]
  split
  · rfl
  · rw [if_pos rfl]
theorem flt_3 (K : Nat → Int32 → mS → Option (Int32 × mS)) {h0 : Nat} {x1 : Int32} {σ : mS} {fu : Nat} (hf : 0 < fu) : f_X4_fault_18 K fu h0 x1 (nI 3) σ = K h0 x1 σ := by
  obtain ⟨fu, rfl⟩ : ∃ q, fu = q + 1 := ⟨fu - 1, by omega⟩
  rw [f_X4_fault_18.eq_2, if_pos (by decide)]
theorem flt_K0 {s : TS} (h : ctk S s) : fltK (b + 2) 0 (memX b S μ) = some (nI s.2.2.1, memX b S μ) := by
  rw [fltK, if_pos rfl, f_X4_fault_91.eq_1, gI_T 6 (by omega), Option.bind_some, h.2.2.1]
theorem flt_K1 {s : TS} (h : ctk S s) : fltK (b + 2) 1 (memX b S μ) = some (if s.1 = 0 then -1 else nI s.2.2.1, memX b S μ) := by
  rw [fltK, if_neg (by decide), gI_T 5 (by omega), Option.bind_some, h.2.1]
  by_cases c : s.1 = 0
  · rw [if_pos c, if_pos c]
  · rw [if_neg c, if_neg c, f_X4_fault_91.eq_1, gI_T 6 (by omega), Option.bind_some, h.2.2.1]
theorem x_fault (hn : n ≤ 160) (h3 : S.1 2 3 = nI n) (hr : ∀ k, k < n → rng 255 (S.2.1 3 k)) : ∃ r S', f_X4_fault (b + 2) (memX b S μ) = some (r, memX b S' μ) ∧ (tpS S S' ∧ S'.1 2 3 = S.1 2 3 ∧ S'.2.1 3 = S.2.1 3) ∧ ((∃ s, s.2.2.1 ≤ 160 ∧ r = nI s.2.2.1 ∧ txN (S.2.1 3) n s) ∨ (r = -1 ∧ ∃ s0 s1 s2 X0 X1 X2, txY (S.2.1 3) n s0 s1 s2 X0 X1 X2 ∧ (lx (S.2.1 3) n s2.2.2.2).1 = 0 ∧ S'.1 2 8 = nI (X0 ++ X1 ++ X2).length ∧ (∀ k, k < (X0 ++ X1 ++ X2).length → S'.2.1 4 k = (X0 ++ X1 ++ X2).getD k 0) ∧ S'.2.1 5 1 = nI X0.length ∧ S'.2.1 5 2 = nI (X0 ++ X1).length)) := by
  have hx : f_X4_fault (b + 2) (memX b S μ) = (pI (memX b S μ) (b + 2) 3 4 (0 : Int32)).bind fun t46 =>
(pI t46 (b + 2) 3 8 (0 : Int32)).bind fun t47 =>
if isO t47 (b + 2) 3 = true then
(f_X4_advance (b + 2) t47).bind fun q49 =>
f_X4_fault_18 fltK fU (b + 2) (1 : Int32) (0 : Int32) q49 else none := f_X4_fault.eq_1 _ _
  rw [pI_T 4 (by omega), Option.bind_some, pI_T 8 (by omega), Option.bind_some, if_pos isO_T] at hx
  have b0 : (sxI (sxI S 2 4 0) 2 8 0).2.1 3 = S.2.1 3 := rfl
  obtain ⟨S1, e1, e2, e3⟩ := x_adv (b := b) (μ := μ) (S := sxI (sxI S 2 4 0) 2 8 0) (p := 0) hn (by omega) (by rw [sx2_at, if_neg (by omega), sx2_at, if_neg (by omega)]; exact h3) (by rw [sx2_at, if_neg (by omega), sx2_at, if_pos rfl]; rfl) hr
  rw [e1, Option.bind_some] at hx
  have h30 : (sxI (sxI S 2 4 0) 2 8 0).1 2 3 = S.1 2 3 := by rw [sx2_at, if_neg (by omega), sx2_at, if_neg (by omega)]
  have h80 : (sxI (sxI S 2 4 0) 2 8 0).1 2 8 = 0 := by rw [sx2_at, if_pos rfl]
  have t0 : tpS S (sxI (sxI S 2 4 0) 2 8 0) := (tpS.i S _ _).tr (tpS.i _ _ _)
  have tt : tpS S S1 ∧ S1.1 2 3 = S.1 2 3 ∧ S1.2.1 3 = S.2.1 3 := ⟨t0.tr e2.g.1, (e2.2.1 3 (by omega)).trans h30, by rw [e2.2.2]; exact b0⟩
  rw [b0] at e3
  have hc : cst (S.2.1 3) n S1 (lx (S.2.1 3) n 0) [] := ⟨tt.2.2, tt.2.1.trans h3, e3, (e2.2.1 8 (by omega)).trans h80, fun k hk => absurd hk (by simp)⟩
  have ht : tok (S.2.1 3) n (lx (S.2.1 3) n 0) := ⟨0, by omega, rfl⟩
  obtain ⟨ok, Sa, sa, a1, a2, a3, a4⟩ := x_part (b := b) (μ := μ) hn hr fltK (x2 := 0) (fu := 4095) (by omega) hc ht (by simp)
  rw [show fU = 4095 + 1 from rfl, show (0 : Int32) = nI 0 from rfl, a1] at hx
  have tr3 : ∀ A B : XS, (tpS S A ∧ A.1 2 3 = S.1 2 3 ∧ A.2.1 3 = S.2.1 3) → (tpS A B ∧ B.1 2 3 = A.1 2 3 ∧ B.2.1 3 = A.2.1 3) → tpS S B ∧ B.1 2 3 = S.1 2 3 ∧ B.2.1 3 = S.2.1 3 := fun A B u v => ⟨u.1.tr v.1, v.2.1.trans u.2.1, v.2.2.trans u.2.2⟩
  have ta := tr3 _ _ tt a2
  rcases a4 with ⟨rfl, L2, p0⟩ | ⟨rfl, s0, X0, p0, rfl, gX0, c0, t0', l0, q0, qi0⟩
  · exact ⟨_, Sa, hx.trans ((flt_0 _ (by omega)).trans (flt_K0 a3.1)), ta, Or.inl ⟨sa, a3.2, rfl, Or.inl ⟨L2, p0⟩⟩⟩
  rw [List.nil_append] at p0 c0 l0
  obtain ⟨ok, Sb, sb, b1, b2, b3, b4⟩ := x_part (b := b) (μ := μ) hn hr fltK (x2 := 1) (fu := 4094) (by omega) c0 t0' l0
  have tb := tr3 _ _ ta b2
  rw [b1] at hx
  rcases b4 with ⟨rfl, L2, p1⟩ | ⟨rfl, s1, X1, p1, rfl, gX1, c1, t1', l1, q1, qi1⟩
  · exact ⟨_, Sb, hx.trans ((flt_0 _ (by omega)).trans (flt_K0 b3.1)), tb, Or.inl ⟨sb, b3.2, rfl, Or.inr (Or.inl ⟨s0, X0, L2, p0, p1⟩)⟩⟩
  obtain ⟨ok, Sc, sc, d1, d2, d3, d4⟩ := x_part (b := b) (μ := μ) hn hr fltK (x2 := 2) (fu := 4093) (by omega) c1 t1' l1
  have tc := tr3 _ _ tb d2
  rw [d1] at hx
  rcases d4 with ⟨rfl, L2, p2⟩ | ⟨rfl, s2, X2, p2, rfl, gX2, c2, t2', l2, q2, qi2⟩
  · exact ⟨_, Sc, hx.trans ((flt_0 _ (by omega)).trans (flt_K0 d3.1)), tc, Or.inl ⟨sc, d3.2, rfl, Or.inr (Or.inr (Or.inl ⟨s0, X0, s1, X0 ++ X1, L2, p0, p1, p2⟩))⟩⟩
  have hy : txY (S.2.1 3) n s0 s1 s2 X0 X1 X2 := ⟨p0, p1, p2, ⟨gX0, gX1, gX2⟩, by have := d3.2; omega⟩
  have hx := hx.trans ((flt_3 _ (by omega)).trans (flt_K1 d3.1))
  by_cases c : (lx (S.2.1 3) n s2.2.2.2).1 = 0
  · rw [if_pos c] at hx
    exact ⟨_, Sc, hx, tc, Or.inr ⟨rfl, s0, s1, s2, X0, X1, X2, hy, c, c2.2.2.2.1, c2.2.2.2.2, (qi2 1 (by omega)).trans q1, q2⟩⟩
  · rw [if_neg c] at hx
    exact ⟨_, Sc, hx, tc, Or.inl ⟨_, d3.2, rfl, Or.inr (Or.inr (Or.inr ⟨s0, s1, s2, X0, X1, X2, hy, rfl, c⟩))⟩⟩
end PA
