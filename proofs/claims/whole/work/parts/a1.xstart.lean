section LMS
variable {b : Nat} {l : List mE} {μ : mS}
theorem ls_1 : (LM b l μ).1 = b + l.length := rfl
theorem ls_pV {k ci j : Nat} {v : Value} (hk : k < l.length) : pV (LM b l μ) (b + k) ci j v = (l[k]?).bind fun e => (xO ci e).bind fun fs => if j < fs.length then some (LM b (l.set k (.inr (ci, fs.set j v))) μ) else none := by
  rw [pV, lm_get hk]
  cases h : l[k]? with
  | none => rfl
  | some e =>
    rw [Option.bind_some, Option.bind_some]
    cases h2 : xO ci e with
    | none => rfl
    | some fs =>
      rw [Option.bind_some, Option.bind_some]
      split
      · exact congrArg some (lm_set hk _)
      · rfl
theorem ls_pV0 {ci j : Nat} {v : Value} (hk : 0 < l.length) : pV (LM b l μ) b ci j v = (l[0]?).bind fun e => (xO ci e).bind fun fs => if j < fs.length then some (LM b (l.set 0 (.inr (ci, fs.set j v))) μ) else none := ls_pV (k := 0) hk
theorem ls_x4 {μ : mS} {b : Nat} {e0 e1 : mE} : f_X4_init (b + 2) (LM b [e0, e1, .inr (3, df_X4)] μ) = some (LM b [e0, e1, .inr (3, [.ref (b + 3), .ref (b + 4), .ref (b + 5), .int 0, .int 0, .int 0, .int 0, .int 0, .int 0]), iArr 160 fun _ => 0, iArr 160 fun _ => 0, iArr 3 fun _ => 0] μ) := by
  rw [f_X4_init.eq_1]
  simp [vl_eq, lm_nI, ls_1, pR, ls_pV, df_X4, xO]
theorem ls_fill5 {k n : Nat} {x : Int32} (hn : n ≤ 160) : ∀ d i fu (l : List mE) (g : Nat → Int32), i + d = n → d < fu → l[k]? = some (iArr n g) → f_J7_fill_5 fu (b + k) x (nI i) (nI n) (LM b l μ) = some (LM b (l.set k (iArr n (fun j => if i ≤ j ∧ j < n then x else g j))) μ) := by
  intro d
  induction d with
  | zero =>
    intro i fu l g hi hf h
    obtain ⟨fu, rfl⟩ : ∃ q, fu = q + 1 := ⟨fu - 1, by omega⟩
    rw [f_J7_fill_5.eq_2, if_pos (nI_le (by omega) (by omega))]
    have e : (fun j => if i ≤ j ∧ j < n then x else g j) = g := funext fun j => if_neg (by omega)
    rw [e]
    have : l.set k (iArr n g) = l := by
      apply List.ext_getElem?
      intro j
      by_cases c : j = k
      · subst c; rw [List.getElem?_set_self (lm_lt h), h]
      · rw [List.getElem?_set_ne (by omega)]
    rw [this]
  | succ d ih =>
    intro i fu l g hi hf h
    obtain ⟨fu, rfl⟩ : ∃ q, fu = q + 1 := ⟨fu - 1, by omega⟩
    rw [f_J7_fill_5.eq_2, if_neg (nI_ge (by omega) (by omega)), lm_sI h (nI_in (by omega) (by omega)), nI_clamp (by omega), Option.bind_some, vl_eq, nI_1]
    rw [ih (i + 1) fu _ (upd g i x) (by omega) (by omega) (List.getElem?_set_self (lm_lt h)), List.set_set]
    congr 4
    funext j
    rw [upd_at]
    by_cases c : j = i
    · rw [if_neg (by omega), if_pos c, if_pos (by omega)]
    · by_cases c2 : i + 1 ≤ j ∧ j < n
      · rw [if_pos c2, if_pos (by omega)]
      · rw [if_neg c2, if_neg c, if_neg (by omega)]
theorem ls_fill {k n : Nat} {x : Int32} {g : Nat → Int32} (hn : n ≤ 160) (h : l[k]? = some (iArr n g)) : f_J7_fill (b + k) x (LM b l μ) = some (LM b (l.set k (iArr n (fun j => if j < n then x else g j))) μ) := by
  rw [f_J7_fill.eq_1, aL, lm_get (lm_lt h), h, Option.bind_some, xI_i, Option.bind_some, Option.bind_some]
  have e := ls_fill5 (b := b) (μ := μ) (x := x) hn n 0 fU l g (by omega) (fU_lt (by omega)) h
  refine e.trans ?_
  congr 4
  funext j
  by_cases c : j < n
  · rw [if_pos ⟨Nat.zero_le _, c⟩, if_pos c]
  · rw [if_neg (fun q => c q.2), if_neg c]
theorem ls_pVz {ci j : Nat} {v : Value} {x : mE} {X : List mE} : pV (LM b (l ++ x :: X) μ) (b + l.length) ci j v = (xO ci x).bind fun fs => if j < fs.length then some (LM b (l ++ (.inr (ci, fs.set j v)) :: X) μ) else none := by
  rw [ls_pV (k := l.length) (by simp)]
  simp
theorem ls_gRz {ci j y : Nat} {fs : List Value} {X : List mE} (h : fs[j]? = some (.ref y)) : gR (LM b (l ++ .inr (ci, fs) :: X) μ) (b + l.length) ci j = some y := lm_gR (by simp) h
/-- an assize's eleven cells -/
def zCells (b k q h2 : Nat) : List mE := [.inr (0, [.ref (b + (k + 1)), .ref (b + (k + 2)), .ref (b + (k + 3)), .ref (b + (k + 4)), .ref (b + (k + 5)), .ref (b + (k + 6)), .ref (b + (k + 7)), .ref (b + (k + 8)), .ref (b + (k + 9)), .ref (b + (k + 10)), .ref h2, .int 0, .int 0, .int 0, .ref q]), iArr 10 fun _ => 0, iArr 6 fun j => if j < 6 then 50 else 0, iArr 6 fun _ => 0, iArr 6 fun _ => 0, iArr 6 fun _ => 0, iArr 6 fun _ => 0, iArr 6 fun _ => 0, iArr 8 fun j => if j < 8 then -1 else 0, iArr 8 fun _ => 0, iArr 8 fun _ => 0]
theorem ls_z (q h2 : Nat) : f_X0_init (b + l.length) q h2 (LM b (l ++ [.inr (0, df_X0)]) μ) = some (LM b (l ++ zCells b l.length q h2) μ) := by
  rw [f_X0_init.eq_1]
  simp only [vl_eq, lm_nI, ls_1, pR, List.length_append, List.length_cons, List.length_nil, List.append_assoc, List.cons_append, List.nil_append, ls_pVz, xO, df_X0, if_true, Option.bind_some, List.set_cons_zero, List.set_cons_succ, Nat.reduceLT, Nat.reduceAdd]
  rw [ls_gRz (y := b + (l.length + 2)) rfl, Option.bind_some, ls_fill (k := l.length + 2) (n := 6) (g := fun _ => 0) (by omega) (by simp), Option.bind_some]
  have n2 : ¬ l.length + 2 < l.length := by omega
  have n8 : ¬ l.length + 8 < l.length := by omega
  simp only [List.set_append, if_neg n2, Nat.add_sub_cancel_left, List.set_cons_succ, List.set_cons_zero]
  rw [ls_gRz (y := b + (l.length + 8)) rfl, Option.bind_some, ls_fill (k := l.length + 8) (n := 8) (g := fun _ => 0) (by omega) (by simp), Option.bind_some]
  simp only [List.set_append, if_neg n8, Nat.add_sub_cancel_left, List.set_cons_succ, List.set_cons_zero]
  rfl
/-- a sheet's two cells -/
theorem ls_s : f_X3_init (b + l.length) (LM b (l ++ [.inr (2, df_X3)]) μ) = some (LM b (l ++ [.inr (2, [.ref (b + (l.length + 1)), .int (-1), .int 0]), iArr 40 fun _ => 0]) μ) := by
  rw [f_X3_init.eq_1]
  simp only [vl_eq, lm_nI, ls_1, pR, pI, List.length_append, List.length_cons, List.length_nil, List.append_assoc, List.cons_append, List.nil_append, ls_pVz, xO, df_X3, if_true, Option.bind_some, List.set_cons_zero, List.set_cons_succ, Nat.reduceLT, Nat.reduceAdd]
end LMS
