/-! text: the reference's stack. -/
def hst (g : Nat → Int32) : List Nat → Prop
  | [] => True
  | h :: H => g H.length = nI h ∧ hst g H
theorem hst_upd {g : Nat → Int32} {k : Nat} {v : Int32} : ∀ H : List Nat, H.length ≤ k → hst g H → hst (upd g k v) H
  | [], _, _ => trivial
  | h :: H, hk, e => ⟨by rw [upd_ne _ _ (show H.length ≠ k by have : H.length + 1 ≤ k := hk; omega)]; exact e.1, hst_upd H (by have : H.length + 1 ≤ k := hk; omega) e.2⟩
def opn : List Nat → Nat
  | [] => 0
  | h :: H => (if h = 0 ∨ h = 13 ∨ h = 19 then 1 else 0) + opn H
def hOk (H : List Nat) : Prop := ∀ h, h ∈ H → h = 0 ∨ (11 ≤ h ∧ h ≤ 19)
def edO (tc : Nat) (O O' : MS) : Prop := (∀ k, k < 22 ∨ 30 < k → O'.1 k = O.1 k) ∧ (∀ j, j ≠ 8 → j ≠ 17 → O'.2 j = O.2 j) ∧ ∀ i, i < 200 * tc ∨ 200 * tc + 200 ≤ i → O'.2 8 i = O.2 8 i
theorem edO.rf (tc : Nat) (O : MS) : edO tc O O := ⟨fun _ _ => rfl, fun _ _ _ => rfl, fun _ _ => rfl⟩
theorem edO.tr {tc : Nat} {O1 O2 O3 : MS} (h : edO tc O1 O2) (h2 : edO tc O2 O3) : edO tc O1 O3 := ⟨fun k a => (h2.1 k a).trans (h.1 k a), fun k a c => (h2.2.1 k a c).trans (h.2.1 k a c), fun i a => (h2.2.2 i a).trans (h.2.2 i a)⟩
theorem nxO.e {tc : Nat} {O O' : MS} (h : nxO O O') : edO tc O O' := ⟨fun k a => h.1 k (by omega), fun j _ _ => by rw [h.2], fun i _ => by rw [h.2]⟩
theorem edO.i {tc : Nat} (O : MS) {k : Nat} (v : Int32) (hk : 22 ≤ k ∧ k ≤ 30) : edO tc O (smI O k v) := ⟨fun j a => by rw [sm1, if_neg (by omega)], fun _ _ _ => rfl, fun _ _ => rfl⟩
def est (O : MS) (f : Nat → Int32) (n tc p : Nat) (H : List Nat) (o : Nat) (L : List Int32) : Prop := (O.1 13 = nI tc ∧ O.1 10 = nI n ∧ (∀ k, k < n → O.2 7 k = f k) ∧ RWo O) ∧ O.1 22 = nI p ∧ O.1 28 = nI H.length ∧ O.1 29 = nI o ∧ hst (O.2 17) H ∧ O.1 30 = nI L.length ∧ ∀ k, k < L.length → O.2 8 (200 * tc + k) = cvt (L.getD k 0)
section RF
variable {m n tc p o : Nat} {f : Nat → Int32} {O : MS} {μ : mS} {H : List Nat} {L : List Int32}
theorem est.ed {O' : MS} (h : est O f n tc p H o L) (he : nxO O O') {q : Nat} (hq : O'.1 22 = nI q) : est O' f n tc q H o L := by
  obtain ⟨⟨a1, a2, a3, a4⟩, a5, a6, a7, a8, a9, b1⟩ := h
  exact ⟨⟨(he.1 13 (by omega)).trans a1, (he.1 10 (by omega)).trans a2, fun k hk => by rw [he.2]; exact a3 k hk, fun k hk => by rw [he.2]; exact a4 k hk⟩, hq, (he.1 28 (by omega)).trans a6, (he.1 29 (by omega)).trans a7, by rw [he.2]; exact a8, (he.1 30 (by omega)).trans a9, fun k hk => by rw [he.2]; exact b1 k hk⟩
theorem m_puts {c x : Int32} (h : est O f n tc p H o L) (htc : tc < 6) (hl : L.length < 200) (hx : cvt c = x) : ∃ O', f_X6_puts m x (memM m O μ) = some (memM m O' μ) ∧ edO tc O O' ∧ est O' f n tc p H o (L ++ [c]) ∧ O'.1 23 = O.1 23 ∧ O'.1 24 = O.1 24 := by
  obtain ⟨⟨a1, a2, a3, a4⟩, a5, a6, a7, a8, a9, b1⟩ := h
  have i1 : ((200 : Int32) * nI tc) + nI L.length = nI (200 * tc + L.length) := by rw [show (200 : Int32) = nI 200 from rfl, pk_mul, nI_add]
  refine ⟨smI (smA O 8 (upd (O.2 8) (200 * tc + L.length) x)) 30 (nI (L.length + 1)), ?_, ⟨fun k a => by rw [sm1, if_neg (by omega)]; rfl, fun j h1 h2 => up_ne _ _ h1, fun i hi => ?_⟩, ⟨⟨?_, ?_, fun k hk => ?_, fun k hk => ?_⟩, ?_, ?_, ?_, ?_, ?_, fun k hk => ?_⟩, ?_, ?_⟩
  · rw [f_X6_puts.eq_1, mR_11, Option.bind_some, mI_13, Option.bind_some, mI_30, Option.bind_some, a1, a9, i1, sM 7 (by omega) _ (by show _ < 1200; omega) (by omega), Option.bind_some, mI_30, Option.bind_some, smA_1, a9, nI_1, mp_30, Option.bind_some]
  · rw [smI_2, smA_at, if_pos rfl, upd_at, if_neg (by omega)]
  · rw [sm1, if_neg (by omega)]; exact a1
  · rw [sm1, if_neg (by omega)]; exact a2
  · rw [smI_2, smA_at, if_neg (by omega)]; exact a3 k hk
  · rw [smI_2, smA_at, if_neg (by omega)]; exact a4 k hk
  · rw [sm1, if_neg (by omega)]; exact a5
  · rw [sm1, if_neg (by omega)]; exact a6
  · rw [sm1, if_neg (by omega)]; exact a7
  · exact a8
  · rw [sm1, if_pos rfl, List.length_append]; rfl
  · rw [smI_2, smA_at, if_pos rfl, upd_at, ← getD_app L c k hk]
    rw [List.length_append] at hk
    simp only [List.length_cons, List.length_nil] at hk
    by_cases e : k = L.length
    · rw [if_pos (by omega), if_pos e, hx]
    · rw [if_neg (by omega), if_neg e]; exact b1 k (by omega)
  · rw [sm1, if_neg (by omega)]; rfl
  · rw [sm1, if_neg (by omega)]; rfl
theorem m_holds {x : Nat} (h : est O f n tc p H o L) (hl : H.length < 200) : ∃ O', f_X6_holds m (nI x) (memM m O μ) = some (memM m O' μ) ∧ edO tc O O' ∧ est O' f n tc p (x :: H) o L ∧ O'.1 23 = O.1 23 ∧ O'.1 24 = O.1 24 := by
  obtain ⟨⟨a1, a2, a3, a4⟩, a5, a6, a7, a8, a9, b1⟩ := h
  refine ⟨smI (smA O 17 (upd (O.2 17) H.length (nI x))) 28 (nI (H.length + 1)), ?_, ⟨fun k a => by rw [sm1, if_neg (by omega)]; rfl, fun j h1 h2 => up_ne _ _ h2, fun i hi => ?_⟩, ⟨⟨?_, ?_, fun k hk => ?_, fun k hk => ?_⟩, ?_, ?_, ?_, ?_, ?_, fun k hk => ?_⟩, ?_, ?_⟩
  · rw [f_X6_holds.eq_1, mR_27, Option.bind_some, mI_28, Option.bind_some, a6, sM 16 (by omega) _ (by show _ < 200; omega) (by omega), Option.bind_some, mI_28, Option.bind_some, smA_1, a6, nI_1, mp_28, Option.bind_some]
  · rw [smI_2, smA_at, if_neg (by omega)]
  · rw [sm1, if_neg (by omega)]; exact a1
  · rw [sm1, if_neg (by omega)]; exact a2
  · rw [smI_2, smA_at, if_neg (by omega)]; exact a3 k hk
  · rw [smI_2, smA_at, if_neg (by omega)]; exact a4 k hk
  · rw [sm1, if_neg (by omega)]; exact a5
  · rw [sm1, if_pos rfl]; rfl
  · rw [sm1, if_neg (by omega)]; exact a7
  · have e : (smI (smA O 17 (upd (O.2 17) H.length (nI x))) 28 (nI (H.length + 1))).2 17 = upd (O.2 17) H.length (nI x) := by rw [smI_2]; simp [smA, va_up]
    rw [e]
    exact ⟨upd_eq _ _ _, hst_upd H (Nat.le_refl _) a8⟩
  · rw [sm1, if_neg (by omega)]; exact a9
  · rw [smI_2, smA_at, if_neg (by omega)]; exact b1 k hk
  · rw [sm1, if_neg (by omega)]; rfl
  · rw [sm1, if_neg (by omega)]; rfl
theorem rank_is : ∀ h, h < 20 → (h = 0 ∨ 11 ≤ h) → f_X6_rank (nI h) = nI (rk h) := by decide +kernel
theorem cvt_opc : ∀ h, h < 20 → 11 ≤ h → cvt (opc h) = nI h := by decide +kernel
theorem opn_v : ∀ h, h < 20 → (if nI h = (13 : Int32) then (1 : Int32) else if nI h = (19 : Int32) then (1 : Int32) else (0 : Int32)) = if h = 13 ∨ h = 19 then 1 else 0 := by decide +kernel
theorem hOk.c {h : Nat} (e : hOk (h :: H)) : (h < 20 ∧ (h = 0 ∨ 11 ≤ h)) ∧ hOk H := by
  refine ⟨?_, fun x hx => e x (List.mem_cons_of_mem _ hx)⟩
  have := e h (List.mem_cons_self)
  omega
theorem unw_inv {r : Nat} (hr : 1 ≤ r) : ∀ (H : List Nat) (o : Nat) (L : List Int32), o = opn H → hOk H → (unw r H o L).2.1 = opn (unw r H o L).1 ∧ hOk (unw r H o L).1 ∧ (unw r H o L).2.2.length + (unw r H o L).1.length = L.length + H.length := by
  intro H
  induction H with
  | nil => intro o L h1 h2; exact ⟨h1, h2, rfl⟩
  | cons h H ih =>
    intro o L h1 h2
    by_cases c : rk h < r
    · rw [unw_stop (H := h :: H) c]; exact ⟨h1, h2, rfl⟩
    · have hne : ¬ h = 0 := fun q => c (by rw [q]; show 0 < r; omega)
      rw [unw_go (by omega)]
      obtain ⟨i1, i2, i3⟩ := ih (if h = 13 ∨ h = 19 then o - 1 else o) (L ++ [opc h]) (by
        rw [h1, opn]
        by_cases d : h = 13 ∨ h = 19
        · rw [if_pos d, if_pos (Or.inr d)]; omega
        · rw [if_neg d, if_neg (by simp only [not_or] at d ⊢; exact ⟨hne, d⟩)]; omega) h2.c.2
      refine ⟨i1, i2, i3.trans ?_⟩
      rw [List.length_append]
      show L.length + 1 + H.length = L.length + (H.length + 1)
      omega
theorem m_unw {r : Nat} (hr : 1 ≤ r) (hr7 : r ≤ 7) (htc : tc < 6) : ∀ (H : List Nat) (o : Nat) (L : List Int32) (O : MS) (fu : Nat), H.length < fu → est O f n tc p H o L → o = opn H → hOk H → L.length + H.length ≤ 190 → ∃ O', f_X6_unwinds_0 fu m (nI r) (memM m O μ) = some (memM m O' μ) ∧ edO tc O O' ∧ est O' f n tc p (unw r H o L).1 (unw r H o L).2.1 (unw r H o L).2.2 ∧ O'.1 23 = O.1 23 ∧ O'.1 24 = O.1 24 := by
  intro H
  induction H with
  | nil =>
    intro o L O fu hf h ho hk hl
    obtain ⟨fu, rfl⟩ : ∃ q, fu = q + 1 := ⟨fu - 1, by have : (0 : Nat) < fu := hf; omega⟩
    refine ⟨O, ?_, edO.rf tc O, h, rfl, rfl⟩
    rw [f_X6_unwinds_0.eq_2, mI_28, Option.bind_some, h.2.2.1, if_pos (by decide)]
  | cons x H ih =>
    intro o L O fu hf h ho hk hl
    have hf : H.length + 1 < fu := hf
    have hl : L.length + (H.length + 1) ≤ 190 := hl
    obtain ⟨fu, rfl⟩ : ∃ q, fu = q + 1 := ⟨fu - 1, by omega⟩
    have h0 := h
    obtain ⟨⟨a1, a2, a3, a4⟩, a5, a6, a7, a8, a9, b1⟩ := h
    have a6 : O.1 28 = nI (H.length + 1) := a6
    have e1 : nI (H.length + 1) - (1 : Int32) = nI H.length := nI_pred _
    rw [f_X6_unwinds_0.eq_2, mI_28, Option.bind_some, a6, if_neg (show ¬ nI (H.length + 1) ≤ (0 : Int32) from nI_ge (show 0 < H.length + 1 by omega) (by omega)), mR_27, Option.bind_some, Option.bind_some, e1, aM 16 (by omega) _ (by show _ < 200; omega) (by omega), Option.bind_some, a8.1, rank_is x hk.c.1.1 hk.c.1.2]
    have h7 := rk_le x
    by_cases c : rk x < r
    · rw [if_pos (nI_lt c (by omega)), unw_stop (H := x :: H) c]
      exact ⟨O, rfl, edO.rf tc O, h0, rfl, rfl⟩
    · have hne : ¬ x = 0 := fun q => c (by rw [q]; show 0 < r; omega)
      rw [if_neg (nI_nlt (by omega) (by omega)), Option.bind_some, e1, mp_28, Option.bind_some, mR_27, Option.bind_some, mI_28, Option.bind_some, sm1, if_pos rfl, aM 16 (by omega) _ (by show _ < 200; omega) (by omega), Option.bind_some, smI_2, a8.1, mI_29, Option.bind_some, sm1, if_neg (show ¬ (29 : Nat) = 28 by omega), a7, vl_eq, opn_v x hk.c.1.1, mp_29, Option.bind_some, if_pos isO_M, unw_go (by omega)]
      have ho2 : (if x = 13 ∨ x = 19 then o - 1 else o) = opn H := by
        rw [ho, opn]
        by_cases d : x = 13 ∨ x = 19
        · rw [if_pos d, if_pos (Or.inr d)]; omega
        · rw [if_neg d, if_neg (by simp only [not_or] at d ⊢; exact ⟨hne, d⟩)]; omega
      have e2 : nI o - (if x = 13 ∨ x = 19 then 1 else 0) = nI (if x = 13 ∨ x = 19 then o - 1 else o) := by
        by_cases d : x = 13 ∨ x = 19
        · have : 1 ≤ o := by rw [ho, opn, if_pos (Or.inr d)]; omega
          rw [if_pos d, if_pos d]
          exact pk_sub (b := 1) this
        · rw [if_neg d, if_neg d, Int32.sub_zero]
      rw [e2]
      generalize (if x = 13 ∨ x = 19 then o - 1 else o) = o2 at *
      have h1 : est (smI (smI O 28 (nI H.length)) 29 (nI o2)) f n tc p H o2 L := by
        refine ⟨⟨?_, ?_, a3, a4⟩, ?_, ?_, ?_, a8.2, ?_, b1⟩
        · rw [sm1, if_neg (by omega), sm1, if_neg (by omega)]; exact a1
        · rw [sm1, if_neg (by omega), sm1, if_neg (by omega)]; exact a2
        · rw [sm1, if_neg (by omega), sm1, if_neg (by omega)]; exact a5
        · rw [sm1, if_neg (by omega), sm1, if_pos rfl]
        · rw [sm1, if_pos rfl]
        · rw [sm1, if_neg (by omega), sm1, if_neg (by omega)]; exact a9
      obtain ⟨O2, f1, f2, f3, f4, f5⟩ := m_puts (m := m) (μ := μ) h1 htc (by omega) (cvt_opc x hk.c.1.1 (by have := hk.c.1.2; omega))
      obtain ⟨O3, g1, g2, g3, g4, g5⟩ := ih o2 (L ++ [opc x]) O2 fu (by omega) f3 ho2 hk.c.2 (by rw [List.length_append]; show L.length + 1 + H.length ≤ 190; omega)
      refine ⟨O3, ?_, (((edO.i O _ (by omega)).tr (edO.i _ _ (by omega))).tr f2).tr g2, g3, ?_, ?_⟩
      · rw [f1, Option.bind_some, g1]
      · rw [g4, f4, sm1, if_neg (by omega), sm1, if_neg (by omega)]
      · rw [g5, f5, sm1, if_neg (by omega), sm1, if_neg (by omega)]
end RF
