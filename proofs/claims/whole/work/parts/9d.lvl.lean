/-! text: what a level of the class's reader does, beside the machine. -/
def tgS (S S' : XS) : Prop := tpS S S' ∧ S'.1 2 3 = S.1 2 3 ∧ S'.2.1 3 = S.2.1 3 ∧ S'.2.1 5 = S.2.1 5
theorem tgS.rf (S : XS) : tgS S S := ⟨tpS.rf S, rfl, rfl, rfl⟩
theorem tgS.tr {S1 S2 S3 : XS} (h : tgS S1 S2) (h2 : tgS S2 S3) : tgS S1 S3 := ⟨h.1.tr h2.1, h2.2.1.trans h.2.1, h2.2.2.1.trans h.2.2.1, h2.2.2.2.trans h.2.2.2⟩
theorem tqS.g {S S' : XS} (h : tqS S S') : tgS S S' := ⟨⟨h.1, fun j _ => by rw [h.2.2], by rw [h.2.2]⟩, h.2.1 3 (by omega), by rw [h.2.2], by rw [h.2.2]⟩
def cst (f : Nat → Int32) (n : Nat) (S : XS) (s : TS) (L : List Int32) : Prop := S.2.1 3 = f ∧ S.1 2 3 = nI n ∧ ctk S s ∧ S.1 2 8 = nI L.length ∧ ∀ k, k < L.length → S.2.1 4 k = L.getD k 0
def tok (f : Nat → Int32) (n : Nat) (s : TS) : Prop := ∃ p, p ≤ n ∧ s = lx f n p
theorem tok.at {f : Nat → Int32} {n : Nat} {s : TS} (h : tok f n s) : s.2.2.1 ≤ s.2.2.2 ∧ s.2.2.2 ≤ n ∧ (¬ s.1 = 0 → s.2.2.1 < s.2.2.2) := by
  obtain ⟨p, hp, rfl⟩ := h
  exact (lx_at hp).2
theorem tok.go {f : Nat → Int32} {n : Nat} {s : TS} (h : tok f n s) : tok f n (lx f n s.2.2.2) ∧ (¬ s.1 = 0 → s.2.2.1 < (lx f n s.2.2.2).2.2.1) := by
  obtain ⟨a1, a2, a3⟩ := h.at
  refine ⟨⟨_, a2, rfl⟩, fun q => ?_⟩
  have := (lx_at (f := f) a2).1
  have := a3 q
  omega
theorem rk_le (h : Nat) : rk h ≤ 7 := by
  rw [rk]
  repeat' split
  all_goals omega
theorem topR_le (H : List Nat) : topR H ≤ 7 := by
  cases H with
  | nil => exact Nat.zero_le _
  | cons h H => exact rk_le h
theorem unw_stop {r : Nat} {H : List Nat} {o : Nat} {L : List Int32} (h : topR H < r) : unw r H o L = (H, o, L) := by
  cases H with
  | nil => rfl
  | cons x H => rw [unw, if_pos (show rk x < r from h)]
theorem unw_go {r x : Nat} {H : List Nat} {o : Nat} {L : List Int32} (h : r ≤ rk x) : unw r (x :: H) o L = unw r H (if x = 13 ∨ x = 19 then o - 1 else o) (L ++ [opc x]) := by
  rw [unw, if_neg (by omega)]
theorem unw_unw {r r' : Nat} (h : r' ≤ r) : ∀ (H : List Nat) (o : Nat) (L : List Int32), unw r' (unw r H o L).1 (unw r H o L).2.1 (unw r H o L).2.2 = unw r' H o L := by
  intro H
  induction H with
  | nil => intro o L; rfl
  | cons x H ih =>
    intro o L
    by_cases c : rk x < r
    · rw [unw_stop (r := r) (H := x :: H) c]
    · rw [unw_go (r := r) (by omega), unw_go (r := r') (by omega)]
      exact ih _ _
def AG (r : Nat) (H1 : List Nat) (o1 : Nat) (L1 : List Int32) (H : List Nat) (o : Nat) (L : List Int32) : Prop := ∀ r', 1 ≤ r' → r' ≤ r → r' ≤ 7 → unw r' H1 o1 L1 = unw r' H o L
def side (r : Nat) (s : TS) (H1 : List Nat) (o1 : Nat) (L1 : List Int32) : Prop := (r ≤ 6 → ¬ s.1 = 42) ∧ (r ≤ 5 → ¬ s.1 = 43 ∧ ¬ s.1 = 45) ∧ (r ≤ 4 → (s.1 = 60 ∨ s.1 = 61) → topR (unw 5 H1 o1 L1).1 = 4) ∧ (r ≤ 2 → ¬ s.1 = 7) ∧ (r ≤ 1 → ¬ s.1 = 8)
def preL (r o md : Nat) (s : TS) : Prop := (md = 1 ∨ md = 2) ∧ (r ≤ 3 → md = 2) ∧ (4 ≤ r → s.1 = 9 → md = 1 ∨ o = 5) ∧ (r = 8 → s.1 = 45 → o = 5)
def failR (f : Nat → Int32) (n md : Nat) (s : TS) (H : List Nat) (o : Nat) (L : List Int32) (s' : TS) : Prop := ∃ k L2, k + s.2.2.1 ≤ s'.2.2.1 + 1 ∧ ∀ i, mR f n (i + k) md s H o L = some (false, s', L2)
def runR (f : Nat → Int32) (n md : Nat) (s : TS) (H : List Nat) (o : Nat) (L : List Int32) (s' : TS) (H1 : List Nat) (o1 : Nat) (L1 : List Int32) : Prop := ∃ k, k + s.2.2.1 ≤ s'.2.2.1 ∧ ∀ i, mR f n (i + k) md s H o L = mR f n i 0 s' H1 o1 L1
def goodX (X : List Int32) : Prop := evO X ∧ ∀ x, x ∈ X → okOp x
def LVL (b n : Nat) (f : Nat → Int32) (μ : mS) (r o : Nat) (g : mS → Option (Int32 × mS)) : Prop := ∀ S s L H md, cst f n S s L → tok f n s → L.length ≤ s.2.2.1 → topR H < r → preL r o md s → ∃ ok S' s' X, g (memX b S μ) = some (ok, memX b S' μ) ∧ tgS S S' ∧ cst f n S' s' (L ++ X) ∧ tok f n s' ∧ X.length + s.2.2.1 ≤ s'.2.2.1 ∧ ((ok = 0 ∧ failR f n md s H o L s') ∨ (ok = 1 ∧ goodX X ∧ ∃ H1 o1 L1, runR f n md s H o L s' H1 o1 L1 ∧ AG r H1 o1 L1 H o (L ++ X) ∧ side r s' H1 o1 L1))
theorem failR.step {f : Nat → Int32} {n md md2 : Nat} {s s2 s' : TS} {H H2 : List Nat} {o o2 : Nat} {L L2 : List Int32} (h : failR f n md2 s2 H2 o2 L2 s') (hs : s.2.2.1 < s2.2.2.1) (he : ∀ i, mR f n (i + 1) md s H o L = mR f n i md2 s2 H2 o2 L2) : failR f n md s H o L s' := by
  obtain ⟨k, L3, h1, h2⟩ := h
  exact ⟨k + 1, L3, by omega, fun i => by rw [← Nat.add_assoc, he, h2]⟩
theorem runR.step {f : Nat → Int32} {n md md2 : Nat} {s s2 s' : TS} {H H2 H1 : List Nat} {o o2 o1 : Nat} {L L2 L1 : List Int32} (h : runR f n md2 s2 H2 o2 L2 s' H1 o1 L1) (hs : s.2.2.1 < s2.2.2.1) (he : ∀ i, mR f n (i + 1) md s H o L = mR f n i md2 s2 H2 o2 L2) : runR f n md s H o L s' H1 o1 L1 := by
  obtain ⟨k, h1, h2⟩ := h
  exact ⟨k + 1, by omega, fun i => by rw [← Nat.add_assoc, he, h2]⟩
theorem runR.rf {f : Nat → Int32} {n : Nat} {s : TS} {H : List Nat} {o : Nat} {L : List Int32} : runR f n 0 s H o L s H o L := ⟨0, by omega, fun _ => rfl⟩
theorem runR.fail {f : Nat → Int32} {n md : Nat} {s s1 s' : TS} {H H1 : List Nat} {o o1 : Nat} {L L1 : List Int32} (h : runR f n md s H o L s1 H1 o1 L1) (h2 : failR f n 0 s1 H1 o1 L1 s') : failR f n md s H o L s' := by
  obtain ⟨k, a1, a2⟩ := h
  obtain ⟨j, L3, b1, b2⟩ := h2
  exact ⟨j + k, L3, by omega, fun i => by rw [← Nat.add_assoc, a2, b2]⟩
theorem runR.tr {f : Nat → Int32} {n md : Nat} {s s1 s' : TS} {H H1 H2 : List Nat} {o o1 o2 : Nat} {L L1 L2 : List Int32} (h : runR f n md s H o L s1 H1 o1 L1) (h2 : runR f n 0 s1 H1 o1 L1 s' H2 o2 L2) : runR f n md s H o L s' H2 o2 L2 := by
  obtain ⟨k, a1, a2⟩ := h
  obtain ⟨j, b1, b2⟩ := h2
  exact ⟨j + k, by omega, fun i => by rw [← Nat.add_assoc, a2, b2]⟩
theorem failR.now {f : Nat → Int32} {n md : Nat} {s : TS} {H : List Nat} {o : Nat} {L L2 : List Int32} (h : ∀ i, mR f n (i + 1) md s H o L = some (false, s, L2)) : failR f n md s H o L s := ⟨1, L2, by omega, h⟩
/-- behind a whole text's part no other sign goes on -/
theorem stuck {f : Nat → Int32} {n : Nat} {s : TS} {H1 : List Nat} {o1 : Nat} {L1 : List Int32} (h : side 1 s H1 o1 L1) (h41 : ¬ s.1 = 41) (h59 : s.1 = 59 → ¬ (unw 1 H1 o1 L1).1 = []) : failR f n 0 s H1 o1 L1 s := by
  obtain ⟨a1, a2, a3, a4, a5⟩ := h
  by_cases c59 : s.1 = 59
  · refine failR.now (L2 := (unw 1 H1 o1 L1).2.2) fun i => ?_
    rw [mR, if_pos rfl, if_pos c59, decide_eq_false (h59 c59)]
  by_cases c60 : s.1 = 60 ∨ s.1 = 61
  · refine failR.now (L2 := (unw 5 H1 o1 L1).2.2) fun i => ?_
    have e : ¬ sgOf s.1 = 0 ∧ rk (sgOf s.1) = 4 := by
      rcases c60 with c | c <;> rw [c] <;> decide
    rw [mR, if_pos rfl, if_neg c59, if_neg h41, if_neg e.1, if_pos e.2, if_pos (a3 (by omega) c60)]
  · refine failR.now (L2 := L1) fun i => ?_
    have e : sgOf s.1 = 0 := by
      rw [sgOf, if_neg (a5 (by omega)), if_neg (a4 (by omega)), if_neg (fun q => c60 (Or.inl q)), if_neg (fun q => c60 (Or.inr q)), if_neg (a2 (by omega)).1, if_neg (a2 (by omega)).2, if_neg (a1 (by omega))]
    rw [mR, if_pos rfl, if_neg c59, if_neg h41, if_pos e]
