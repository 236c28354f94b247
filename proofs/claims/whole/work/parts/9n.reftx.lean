/-! text: the reference's whole call. -/
def txF (tc : Nat) (O O' : MS) : Prop := (∀ k, k < 10 ∨ k = 14 ∨ k = 15 → O'.1 k = O.1 k) ∧ (∀ j, j ≠ 8 → j ≠ 9 → j ≠ 17 → O'.2 j = O.2 j) ∧ (∀ i, i < 200 * tc → O'.2 8 i = O.2 8 i) ∧ ∀ i, i < 4 * tc → O'.2 9 i = O.2 9 i
theorem txO.f {tc : Nat} {O O' : MS} (h : txO tc O O') : txF tc O O' := ⟨fun k a => h.1 k (by omega), h.2⟩
theorem txF.tr {tc : Nat} {O1 O2 O3 : MS} (h : txF tc O1 O2) (h2 : txF tc O2 O3) : txF tc O1 O3 := ⟨fun k a => (h2.1 k a).trans (h.1 k a), fun k a c d => (h2.2.1 k a c d).trans (h.2.1 k a c d), fun i a => (h2.2.2.1 i a).trans (h.2.2.1 i a), fun i a => (h2.2.2.2 i a).trans (h.2.2.2 i a)⟩
def txK : Nat → Int32 → mS → Option (Int32 × mS) := fun h0 x1 σ => if x1 = 0 then
f_X6_text_122 h0 x1 (σ)
else
if isO (σ) h0 5 = true then
(f_X6_next h0 (σ)).bind fun q77 =>
(gI q77 h0 5 24).bind fun v78 =>
vl (if v78 = 0 then (1 : Int32) else (0 : Int32)) fun v80 =>
f_X6_text_122 h0 v80 q77 else none
theorem tx_0 (K : Nat → Int32 → mS → Option (Int32 × mS)) {h0 : Nat} {x2 : Int32} {σ : mS} {fu : Nat} (hf : 0 < fu) : f_X6_text_26 K fu h0 0 x2 σ = K h0 0 σ := by
  obtain ⟨fu, rfl⟩ : ∃ q, fu = q + 1 := ⟨fu - 1, by omega⟩
  rw [f_X6_text_26.eq_2]
  split
  · rfl
  · rw [if_pos rfl]
theorem tx_3 (K : Nat → Int32 → mS → Option (Int32 × mS)) {h0 : Nat} {x1 : Int32} {σ : mS} {fu : Nat} (hf : 0 < fu) : f_X6_text_26 K fu h0 x1 (nI 3) σ = K h0 x1 σ := by
  obtain ⟨fu, rfl⟩ : ∃ q, fu = q + 1 := ⟨fu - 1, by omega⟩
  rw [f_X6_text_26.eq_2, if_pos (by decide)]
section RT
variable {m n tc : Nat} {f : Nat → Int32} {μ : mS} {O : MS} {L : List Int32}
theorem m_122 (htc : tc < 6) (h13 : O.1 13 = nI tc) (x1 : Int32) : ∃ O', f_X6_text_122 m x1 (memM m O μ) = some (if x1 = 0 then -100 - O.1 23 else nI tc, memM m O' μ) ∧ txF tc O O' ∧ O'.1 10 = 0 ∧ O'.1 13 = (if x1 = 0 then nI tc else nI (tc + 1)) ∧ O'.2 8 = O.2 8 ∧ O'.2 9 (4 * tc + 3) = O.1 30 ∧ ∀ i, i ≠ 4 * tc + 3 → O'.2 9 i = O.2 9 i := by
  have g9 : (smA O 9 (upd (O.2 9) (4 * tc + 3) (O.1 30))).2 9 = upd (O.2 9) (4 * tc + 3) (O.1 30) := by simp [smA, va_up]
  have g9' : ∀ j, j ≠ 9 → (smA O 9 (upd (O.2 9) (4 * tc + 3) (O.1 30))).2 j = O.2 j := fun j hj => up_ne _ _ hj
  rw [f_X6_text_122.eq_1, mR_12, Option.bind_some, mI_13, Option.bind_some, mI_30, Option.bind_some, h13, show (3 : Int32) = nI 3 from rfl, m_starts htc (by omega) h13, Option.bind_some, mp_10, Option.bind_some]
  by_cases c : x1 = 0
  · rw [if_pos c, if_pos c, if_pos c, mI_23, Option.bind_some, sm1, if_neg (by omega)]
    exact ⟨_, rfl, ⟨fun k a => by rw [sm1, if_neg (by omega)]; rfl, fun j _ q _ => up_ne _ _ q, fun i _ => by rw [smI_2, g9' 8 (by omega)], fun i hi => by rw [smI_2, g9, upd_ne _ _ (by omega)]⟩, by rw [sm1, if_pos rfl], by rw [sm1, if_neg (by omega)]; exact h13, by rw [smI_2, g9' 8 (by omega)], by rw [smI_2, g9, upd_eq], fun i hi => by rw [smI_2, g9, upd_ne _ _ hi]⟩
  · rw [if_neg c, if_neg c, if_neg c, mI_13, Option.bind_some, sm1, if_neg (by omega), smA_1, h13, nI_1, mp_13, Option.bind_some, mI_13, Option.bind_some, sm1, if_pos rfl, nI_pred]
    exact ⟨_, rfl, ⟨fun k a => by rw [sm1, if_neg (by omega), sm1, if_neg (by omega)]; rfl, fun j _ q _ => up_ne _ _ q, fun i _ => by rw [smI_2, smI_2, g9' 8 (by omega)], fun i hi => by rw [smI_2, smI_2, g9, upd_ne _ _ (by omega)]⟩, by rw [sm1, if_neg (by omega), sm1, if_pos rfl], by rw [sm1, if_pos rfl], by rw [smI_2, smI_2, g9' 8 (by omega)], by rw [smI_2, smI_2, g9, upd_eq], fun i hi => by rw [smI_2, smI_2, g9, upd_ne _ _ hi]⟩
def txB (O : MS) (f : Nat → Int32) (n tc : Nat) : Prop := O.1 13 = nI tc ∧ O.1 10 = nI n ∧ (∀ k, k < n → O.2 7 k = f k) ∧ RWo O
theorem m_textN (hn : n ≤ 160) (hr : ∀ k, k < n → rng 255 (f k)) (htc : tc < 6) (h : txB O f n tc) {s : TS} (hN : txN f n s) : ∃ O', f_X6_text m (memM m O μ) = some (-100 - nI s.2.2.1, memM m O' μ) ∧ txF tc O O' ∧ O'.1 10 = 0 ∧ O'.1 13 = nI tc := by
  have hx : f_X6_text m (memM m O μ) = f_X6_text_26 txK (4095 + 1) m 1 (nI 0) (memM m (smI (smI O 22 0) 30 0) μ) := by
    rw [f_X6_text.eq_1, mI_13, Option.bind_some, h.1, if_neg (show ¬ nI tc = (6 : Int32) from fun q => by have := (nI_eq (a := tc) (b := 6) (by omega) (by decide)).mp q; omega), mp_22, Option.bind_some, mp_30, Option.bind_some]
    rfl
  have h0 : rst (smI (smI O 22 0) 30 0) f n tc 0 [] := ⟨⟨by rw [sm1, if_neg (by omega), sm1, if_neg (by omega)]; exact h.1, by rw [sm1, if_neg (by omega), sm1, if_neg (by omega)]; exact h.2.1, h.2.2.1, h.2.2.2⟩, by rw [sm1, if_neg (by omega), sm1, if_pos rfl]; rfl, by rw [sm1, if_pos rfl]; rfl, fun k hk => absurd hk (by simp)⟩
  have f0 : txF tc O (smI (smI O 22 0) 30 0) := ⟨fun k a => by rw [sm1, if_neg (by omega), sm1, if_neg (by omega)], fun _ _ _ _ => rfl, fun _ _ => rfl, fun _ _ => rfl⟩
  rw [hx]
  -- behind a failing part
  have fin : ∀ O1, txF tc O O1 → O1.1 13 = nI tc → O1.1 23 = nI s.2.2.1 → ∃ O', txK m 0 (memM m O1 μ) = some (-100 - nI s.2.2.1, memM m O' μ) ∧ txF tc O O' ∧ O'.1 10 = 0 ∧ O'.1 13 = nI tc := fun O1 q1 q2 q3 => by
    obtain ⟨O', g1, g2, g3, g4, _⟩ := m_122 (m := m) (μ := μ) htc q2 0
    rw [if_pos rfl] at g1 g4
    rw [q3] at g1
    exact ⟨O', by rw [txK, if_pos rfl, g1], q1.tr g2, g3, g4⟩
  have k13 : ∀ {A B : MS}, txO tc A B → A.1 13 = nI tc → B.1 13 = nI tc := fun q1 q2 => (q1.1 13 (by omega)).trans q2
  have i13 : (smI (smI O 22 0) 30 0).1 13 = nI tc := h0.1.1
  rcases hN with ⟨L, p0⟩ | ⟨s0, X0, L, p0, p1⟩ | ⟨s0, X0, s1, X1, L, p0, p1, p2⟩ | ⟨s0, s1, s2, X0, X1, X2, hy, e, hne⟩
  · obtain ⟨O1, a1, a2, a3, a4, a5, a6⟩ := m_part (m := m) (μ := μ) hn hr htc txK (x2 := 0) (fu := 4095) (by omega) (by omega) h0 (by simp) p0
    obtain ⟨O', b1, b2⟩ := fin O1 (f0.tr a2.f) (k13 a2 i13) a3
    refine ⟨O', ?_, b2⟩
    rw [a1]
    exact (tx_0 _ (by omega)).trans b1
  · obtain ⟨O1, a1, a2, a3, a4, a5, a6⟩ := m_part (m := m) (μ := μ) hn hr htc txK (x2 := 0) (fu := 4095) (by omega) (by omega) h0 (by simp) p0
    obtain ⟨r1, l1, n1⟩ := a6 rfl
    obtain ⟨O2, c1, c2, c3, c4, c5, c6⟩ := m_part (m := m) (μ := μ) hn hr htc txK (x2 := 1) (fu := 4094) (by omega) n1 r1 l1 p1
    obtain ⟨O', b1, b2⟩ := fin O2 ((f0.tr a2.f).tr c2.f) (k13 c2 (k13 a2 i13)) c3
    refine ⟨O', ?_, b2⟩
    rw [a1]
    exact c1.trans ((tx_0 _ (by omega)).trans b1)
  · obtain ⟨O1, a1, a2, a3, a4, a5, a6⟩ := m_part (m := m) (μ := μ) hn hr htc txK (x2 := 0) (fu := 4095) (by omega) (by omega) h0 (by simp) p0
    obtain ⟨r1, l1, n1⟩ := a6 rfl
    obtain ⟨O2, c1, c2, c3, c4, c5, c6⟩ := m_part (m := m) (μ := μ) hn hr htc txK (x2 := 1) (fu := 4094) (by omega) n1 r1 l1 p1
    obtain ⟨r2, l2, n2⟩ := c6 rfl
    obtain ⟨O3, d1, d2, d3, d4, d5, d6⟩ := m_part (m := m) (μ := μ) hn hr htc txK (x2 := 2) (fu := 4093) (by omega) n2 r2 l2 p2
    obtain ⟨O', b1, b2⟩ := fin O3 (((f0.tr a2.f).tr c2.f).tr d2.f) (k13 d2 (k13 c2 (k13 a2 i13))) d3
    refine ⟨O', ?_, b2⟩
    rw [a1]
    exact c1.trans (d1.trans ((tx_0 _ (by omega)).trans b1))
  · obtain ⟨p0, p1, p2, _⟩ := hy
    obtain ⟨O1, a1, a2, a3, a4, a5, a6⟩ := m_part (m := m) (μ := μ) hn hr htc txK (x2 := 0) (fu := 4095) (by omega) (by omega) h0 (by simp) p0
    obtain ⟨r1, l1, n1⟩ := a6 rfl
    obtain ⟨O2, c1, c2, c3, c4, c5, c6⟩ := m_part (m := m) (μ := μ) hn hr htc txK (x2 := 1) (fu := 4094) (by omega) n1 r1 l1 p1
    obtain ⟨r2, l2, n2⟩ := c6 rfl
    obtain ⟨O3, d1, d2, d3, d4, d5, d6⟩ := m_part (m := m) (μ := μ) hn hr htc txK (x2 := 2) (fu := 4093) (by omega) n2 r2 l2 p2
    obtain ⟨r3, l3, n3⟩ := d6 rfl
    obtain ⟨O4, e1, e2, e3⟩ := m_next (m := m) (μ := μ) hn n3 r3.1.2.1 r3.2.1 r3.1.2.2.1 r3.1.2.2.2
    rw [← e] at e3
    have htk : s.1 ∈ tkL := by rw [e]; exact lx_tk
    have hm0 : ¬ mt s.1 = 0 := fun q => hne ((mt_facts s.1 htk).2.2.2.2.2.2.2.mp q)
    obtain ⟨O', g1, g2, g3, g4, _⟩ := m_122 (m := m) (μ := μ) (O := O4) htc ((e2.1 13 (by omega)).trans r3.1.1) 0
    rw [if_pos rfl] at g1 g4
    rw [e3.2.1] at g1
    refine ⟨O', ?_, ((((f0.tr a2.f).tr c2.f).tr d2.f).tr (e2.e (tc := tc)).t.f).tr g2, g3, g4⟩
    rw [a1]
    refine c1.trans (d1.trans ((tx_3 _ (by omega)).trans ?_))
    rw [if_pos rfl, txK, if_neg (by decide), if_pos isO_M, e1, Option.bind_some, mI_24, Option.bind_some, e3.2.2.1, vl_eq, if_neg hm0, g1]
theorem m_textY (hn : n ≤ 160) (hr : ∀ k, k < n → rng 255 (f k)) (htc : tc < 6) (h : txB O f n tc) {s0 s1 s2 : TS} {X0 X1 X2 : List Int32} (hy : txY f n s0 s1 s2 X0 X1 X2) (hend : (lx f n s2.2.2.2).1 = 0) : ∃ O', f_X6_text m (memM m O μ) = some (nI tc, memM m O' μ) ∧ txF tc O O' ∧ O'.1 10 = 0 ∧ O'.1 13 = nI (tc + 1) ∧ (∀ k, k < (X0 ++ X1 ++ X2).length → O'.2 8 (200 * tc + k) = cvt ((X0 ++ X1 ++ X2).getD k 0)) ∧ O'.2 9 (4 * tc) = 0 ∧ O'.2 9 (4 * tc + 1) = nI X0.length ∧ O'.2 9 (4 * tc + 2) = nI (X0 ++ X1).length ∧ O'.2 9 (4 * tc + 3) = nI (X0 ++ X1 ++ X2).length := by
  have hx : f_X6_text m (memM m O μ) = f_X6_text_26 txK (4095 + 1) m 1 (nI 0) (memM m (smI (smI O 22 0) 30 0) μ) := by
    rw [f_X6_text.eq_1, mI_13, Option.bind_some, h.1, if_neg (show ¬ nI tc = (6 : Int32) from fun q => by have := (nI_eq (a := tc) (b := 6) (by omega) (by decide)).mp q; omega), mp_22, Option.bind_some, mp_30, Option.bind_some]
    rfl
  have h0 : rst (smI (smI O 22 0) 30 0) f n tc 0 [] := ⟨⟨by rw [sm1, if_neg (by omega), sm1, if_neg (by omega)]; exact h.1, by rw [sm1, if_neg (by omega), sm1, if_neg (by omega)]; exact h.2.1, h.2.2.1, h.2.2.2⟩, by rw [sm1, if_neg (by omega), sm1, if_pos rfl]; rfl, by rw [sm1, if_pos rfl]; rfl, fun k hk => absurd hk (by simp)⟩
  have f0 : txF tc O (smI (smI O 22 0) 30 0) := ⟨fun k a => by rw [sm1, if_neg (by omega), sm1, if_neg (by omega)], fun _ _ _ _ => rfl, fun _ _ => rfl, fun _ _ => rfl⟩
  rw [hx]
  obtain ⟨p0, p1, p2, _⟩ := hy
  obtain ⟨O1, a1, a2, a3, a4, a5, a6⟩ := m_part (m := m) (μ := μ) hn hr htc txK (x2 := 0) (fu := 4095) (by omega) (by omega) h0 (by simp) p0
  obtain ⟨r1, l1, n1⟩ := a6 rfl
  obtain ⟨O2, c1, c2, c3, c4, c5, c6⟩ := m_part (m := m) (μ := μ) hn hr htc txK (x2 := 1) (fu := 4094) (by omega) n1 r1 l1 p1
  obtain ⟨r2, l2, n2⟩ := c6 rfl
  obtain ⟨O3, d1, d2, d3, d4, d5, d6⟩ := m_part (m := m) (μ := μ) hn hr htc txK (x2 := 2) (fu := 4093) (by omega) n2 r2 l2 p2
  obtain ⟨r3, l3, n3⟩ := d6 rfl
  obtain ⟨O4, e1, e2, e3⟩ := m_next (m := m) (μ := μ) hn n3 r3.1.2.1 r3.2.1 r3.1.2.2.1 r3.1.2.2.2
  have hm0 : mt (lx f n s2.2.2.2).1 = 0 := by rw [hend]; decide
  obtain ⟨O', g1, g2, g3, g4, g5, g6, g7⟩ := m_122 (m := m) (μ := μ) (O := O4) htc ((e2.1 13 (by omega)).trans r3.1.1) 1
  rw [if_neg (by decide)] at g1 g4
  refine ⟨O', ?_, ((((f0.tr a2.f).tr c2.f).tr d2.f).tr (e2.e (tc := tc)).t.f).tr g2, g3, g4, fun k hk => ?_, ?_, ?_, ?_, ?_⟩
  · rw [a1]
    refine c1.trans (d1.trans ((tx_3 _ (by omega)).trans ?_))
    rw [if_pos rfl, txK, if_neg (by decide), if_pos isO_M, e1, Option.bind_some, mI_24, Option.bind_some, e3.2.2.1, vl_eq, hm0, if_pos rfl, g1]
  · rw [g5, e2.2]; exact r3.2.2.2 k hk
  · rw [g7 _ (by omega), e2.2, d5 _ (by omega), c5 _ (by omega)]; exact a4
  · rw [g7 _ (by omega), e2.2, d5 _ (by omega)]; exact c4
  · rw [g7 _ (by omega), e2.2]; exact d4
  · rw [g6]; exact (e2.1 30 (by omega)).trans r3.2.2.1
end RT
