/-! text: the reference reads a whole text. -/
def txO (tc : Nat) (O O' : MS) : Prop := (∀ k, k < 22 ∨ 30 < k → O'.1 k = O.1 k) ∧ (∀ j, j ≠ 8 → j ≠ 9 → j ≠ 17 → O'.2 j = O.2 j) ∧ (∀ i, i < 200 * tc → O'.2 8 i = O.2 8 i) ∧ ∀ i, i < 4 * tc → O'.2 9 i = O.2 9 i
theorem txO.rf (tc : Nat) (O : MS) : txO tc O O := ⟨fun _ _ => rfl, fun _ _ _ _ => rfl, fun _ _ => rfl, fun _ _ => rfl⟩
theorem txO.tr {tc : Nat} {O1 O2 O3 : MS} (h : txO tc O1 O2) (h2 : txO tc O2 O3) : txO tc O1 O3 := ⟨fun k a => (h2.1 k a).trans (h.1 k a), fun k a c d => (h2.2.1 k a c d).trans (h.2.1 k a c d), fun i a => (h2.2.2.1 i a).trans (h.2.2.1 i a), fun i a => (h2.2.2.2 i a).trans (h.2.2.2 i a)⟩
theorem edO.t {tc : Nat} {O O' : MS} (h : edO tc O O') : txO tc O O' := ⟨h.1, fun j a _ c => h.2.1 j a c, fun i a => h.2.2 i (Or.inl a), fun i _ => by rw [h.2.1 9 (by omega) (by omega)]⟩
def rst (O : MS) (f : Nat → Int32) (n tc p : Nat) (L : List Int32) : Prop := (O.1 13 = nI tc ∧ O.1 10 = nI n ∧ (∀ k, k < n → O.2 7 k = f k) ∧ RWo O) ∧ O.1 22 = nI p ∧ O.1 30 = nI L.length ∧ ∀ k, k < L.length → O.2 8 (200 * tc + k) = cvt (L.getD k 0)
theorem key_m : ∀ x, x < 3 → ∀ t, t ∈ tkL → (t = nI (4 + x) → t = 4 + nI x ∧ mt t = 3) ∧ (mt t = 3 → t = 4 ∨ t = 5 ∨ t = 6) := by decide +kernel
section RT
variable {m n tc : Nat} {f : Nat → Int32} {μ : mS} {O : MS} {L : List Int32}
theorem m_starts {x : Nat} {v : Int32} (htc : tc < 6) (hx : x < 4) (h13 : O.1 13 = nI tc) : sI (memM m O μ) (m + (8 + 1)) (((4 : Int32) * nI tc) + nI x) v = some (memM m (smA O 9 (upd (O.2 9) (4 * tc + x) v)) μ) := by
  have i1 : ((4 : Int32) * nI tc) + nI x = nI (4 * tc + x) := by rw [show (4 : Int32) = nI 4 from rfl, pk_mul, nI_add]
  rw [i1, sM 8 (by omega) _ (by show _ < 24; omega) (by omega)]
theorem m_part (hn : n ≤ 160) (hr : ∀ k, k < n → rng 255 (f k)) (htc : tc < 6) (K : Nat → Int32 → mS → Option (Int32 × mS)) {x2 fu p : Nat} (hx2 : x2 < 3) {bo : Bool} {s' : TS} {L' : List Int32} (hp : p ≤ n) (h : rst O f n tc p L) (hl : L.length ≤ (lx f n p).2.2.1) (hP : prP f n x2 (lx f n p) L = some (bo, s', L')) : ∃ O', f_X6_text_26 K (fu + 1) m 1 (nI x2) (memM m O μ) = f_X6_text_26 K fu m (if bo = true then 1 else 0) (nI (x2 + 1)) (memM m O' μ) ∧ txO tc O O' ∧ O'.1 23 = nI s'.2.2.1 ∧ O'.2 9 (4 * tc + x2) = nI L.length ∧ (∀ i, i ≠ 4 * tc + x2 → O'.2 9 i = O.2 9 i) ∧ (bo = true → rst O' f n tc s'.2.2.2 L' ∧ L'.length ≤ (lx f n s'.2.2.2).2.2.1 ∧ s'.2.2.2 ≤ n) := by
  obtain ⟨⟨a1, a2, a3, a4⟩, a5, a6, a7⟩ := h
  obtain ⟨O1, e1, e2, e3⟩ := m_next (m := m) (μ := μ) hn hp a2 a5 a3 a4
  have htk : (lx f n p).1 ∈ tkL := lx_tk
  obtain ⟨y1, y2, y3, y4⟩ := lx_at (f := f) hp
  generalize lx f n p = s at *
  have y5 := (lx_at (f := f) y3).1
  have c13 : O1.1 13 = nI tc := (e2.1 13 (by omega)).trans a1
  have c30 : O1.1 30 = nI L.length := (e2.1 30 (by omega)).trans a6
  rw [f_X6_text_26.eq_2, if_neg (show ¬ (3 : Int32) ≤ nI x2 from nI_ge (show x2 < 3 by omega) (by decide)), if_neg (by decide), if_pos isO_M, e1, Option.bind_some, mI_24, Option.bind_some, e3.2.2.1]
  have g9 : (smA O1 9 (upd (O1.2 9) (4 * tc + x2) (nI L.length))).2 9 = upd (O1.2 9) (4 * tc + x2) (nI L.length) := by simp [smA, va_up]
  have g9' : ∀ j, j ≠ 9 → (smA O1 9 (upd (O1.2 9) (4 * tc + x2) (nI L.length))).2 j = O1.2 j := fun j hj => up_ne _ _ hj
  have t1 : txO tc O (smA O1 9 (upd (O1.2 9) (4 * tc + x2) (nI L.length))) := (e2.e (tc := tc)).t.tr ⟨fun _ _ => rfl, fun j _ q _ => up_ne _ _ q, fun i _ => by rw [g9' 8 (by omega)], fun i hi => by rw [g9, upd_ne _ _ (by omega)]⟩
  have s9 : ∀ O' : MS, (∀ j, j ≠ 8 → j ≠ 17 → O'.2 j = (smA O1 9 (upd (O1.2 9) (4 * tc + x2) (nI L.length))).2 j) → O'.2 9 (4 * tc + x2) = nI L.length ∧ ∀ i, i ≠ 4 * tc + x2 → O'.2 9 i = O.2 9 i := fun O' q => by
    rw [q 9 (by omega) (by omega), g9]
    exact ⟨upd_eq _ _ _, fun i hi => by rw [upd_ne _ _ hi, e2.2]⟩
  have h60 : ∀ s0, f_X6_text_60 (f_X6_text_26 K fu) m (nI x2) s0 (memM m O1 μ) = if s0 = 0 then f_X6_text_26 K fu m 0 (nI (x2 + 1)) (memM m (smA O1 9 (upd (O1.2 9) (4 * tc + x2) (nI L.length))) μ) else (f_X6_eRead m (memM m (smA O1 9 (upd (O1.2 9) (4 * tc + x2) (nI L.length))) μ)).bind fun q48 => vl (if q48.1 = 0 then (0 : Int32) else (1 : Int32)) fun v50 => f_X6_text_26 K fu m v50 (nI (x2 + 1)) q48.2 := fun s0 => by
    rw [f_X6_text_60.eq_1, mR_12, Option.bind_some, mI_13, Option.bind_some, mI_30, Option.bind_some, c13, c30, m_starts htc (by omega) c13, Option.bind_some]
    by_cases c : s0 = 0
    · rw [if_pos c, if_pos c, vl_eq, nI_1]
    · rw [if_neg c, if_neg c, if_pos isO_M]
      simp only [vl_eq, nI_1]
  have tot : (if mt s.1 = (3 : Int32) then (gI (memM m O1 μ) m 5 25).bind fun v58 => vl (if v58 = nI x2 then (1 : Int32) else (0 : Int32)) fun v60 => f_X6_text_60 (f_X6_text_26 K fu) m (nI x2) v60 (memM m O1 μ) else f_X6_text_60 (f_X6_text_26 K fu) m (nI x2) (0 : Int32) (memM m O1 μ)) = f_X6_text_60 (f_X6_text_26 K fu) m (nI x2) (if s.1 = nI (4 + x2) then 1 else 0) (memM m O1 μ) := by
    obtain ⟨k1, k2⟩ := key_m x2 hx2 s.1 htk
    by_cases c : mt s.1 = 3
    · rw [if_pos c, mI_25, Option.bind_some, vl_eq]
      have hx : x2 = 0 ∨ x2 = 1 ∨ x2 = 2 := by omega
      rcases k2 c with q | q | q
      · rw [e3.2.2.2.2.2.1 q, q]
        rcases hx with rfl | rfl | rfl <;> rfl
      · rw [e3.2.2.2.2.2.2.1 q, q]
        rcases hx with rfl | rfl | rfl <;> rfl
      · rw [e3.2.2.2.2.2.2.2 q, q]
        rcases hx with rfl | rfl | rfl <;> rfl
    · rw [if_neg c, if_neg (fun q => c (k1 q).2)]
  rw [tot, h60]
  rw [prP] at hP
  by_cases c : s.1 = nI (4 + x2)
  · rw [if_pos c] at hP
    rw [if_pos c, if_neg (by decide)]
    have hs0 : ¬ s.1 = 0 := by rw [c]; exact (key_v x2 hx2).2
    have hpl := y4 hs0
    have hest : est (smI (smI (smA O1 9 (upd (O1.2 9) (4 * tc + x2) (nI L.length))) 28 0) 29 0) f n tc s.2.2.2 [] 0 L := by
      refine ⟨⟨?_, ?_, fun k hk => ?_, fun k hk => ?_⟩, ?_, ?_, ?_, trivial, ?_, fun k hk => ?_⟩
      · rw [sm1, if_neg (by omega), sm1, if_neg (by omega)]; exact c13
      · rw [sm1, if_neg (by omega), sm1, if_neg (by omega)]; exact (e2.1 10 (by omega)).trans a2
      · rw [smI_2, smI_2, g9' 7 (by omega), e2.2]; exact a3 k hk
      · rw [smI_2, smI_2, g9' 16 (by omega), e2.2]; exact a4 k hk
      · rw [sm1, if_neg (by omega), sm1, if_neg (by omega)]; exact e3.1
      · rw [sm1, if_neg (by omega), sm1, if_pos rfl]; rfl
      · rw [sm1, if_pos rfl]; rfl
      · rw [sm1, if_neg (by omega), sm1, if_neg (by omega)]; exact c30
      · rw [smI_2, smI_2, g9' 8 (by omega), e2.2]; exact a7 k hk
    obtain ⟨O2, g1, g2, g3, g4, g5⟩ := m_eR (m := m) (μ := μ) hn hr htc 4096 2 (lx f n s.2.2.2) [] 0 L bo s' L' _ s.2.2.2 1 1 hP rfl y3 hest rfl (by omega) (fun x hx => absurd hx (by simp)) (show L.length + 0 ≤ _ by omega) (Or.inr (Or.inr ⟨rfl, rfl, rfl⟩))
    have he : f_X6_eRead m (memM m (smA O1 9 (upd (O1.2 9) (4 * tc + x2) (nI L.length))) μ) = some (if bo = true then 1 else 0, memM m O2 μ) := by
      rw [f_X6_eRead.eq_1, mp_28, Option.bind_some, mp_29, Option.bind_some]
      exact g1
    have g2' : edO tc (smA O1 9 (upd (O1.2 9) (4 * tc + x2) (nI L.length))) O2 := ((edO.i _ _ (by omega)).tr (edO.i _ _ (by omega))).tr g2
    obtain ⟨s1, s2⟩ := s9 O2 g2'.2.1
    refine ⟨O2, ?_, t1.tr g2'.t, g4, s1, s2, fun q => ?_⟩
    · rw [he, Option.bind_some, vl_eq]
      cases bo <;> rfl
    · obtain ⟨q1, q2, q3, q4⟩ := g5 q
      obtain ⟨z1, z2, z3⟩ := q3.at
      have z4 := (lx_at (f := f) z2).1
      refine ⟨⟨⟨?_, ?_, fun k hk => ?_, fun k hk => ?_⟩, g3, q1.1, q1.2⟩, by omega, z2⟩
      · exact (g2'.1 13 (by omega)).trans c13
      · exact (g2'.1 10 (by omega)).trans ((e2.1 10 (by omega)).trans a2)
      · rw [g2'.2.1 7 (by omega) (by omega), g9' 7 (by omega), e2.2]; exact a3 k hk
      · rw [g2'.2.1 16 (by omega) (by omega), g9' 16 (by omega), e2.2]; exact a4 k hk
  · rw [if_neg c] at hP
    rw [if_neg c, if_pos rfl]
    injection hP with hP
    injection hP with q6 q7
    injection q7 with q8 q9
    subst q6 q8 q9
    obtain ⟨s1, s2⟩ := s9 _ (fun j _ _ => rfl)
    exact ⟨_, rfl, t1, e3.2.1, s1, s2, fun q => absurd q (by decide)⟩
end RT
