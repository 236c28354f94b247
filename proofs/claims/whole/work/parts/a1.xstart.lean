section LMS
variable {b : Nat} {l : List mE} {μ : mS}
theorem ls_1 : (LM b l μ).1 = b + l.length := rfl
theorem ls_pV {k ci j : Nat} {v : Value} (hk : k < l.length) : pV (LM b l μ) (b + k) ci j v = (l[k]?).bind fun e => (xO ci e).bind fun fs => if j < fs.length then some (LM b (l.set k (.inr (ci, fs.set j v))) μ) else none := by
  rw [pV, lm_get hk]
  cases h : l[k]? with
  | none => rfl
  | some e =>
    rw [Option.bind_some, Option.bind_some]
    cases h2 : xO ci e with
    | none => rfl
    | some fs =>
      rw [Option.bind_some, Option.bind_some]
      split
      · exact congrArg some (lm_set hk _)
      · rfl
theorem ls_pV0 {ci j : Nat} {v : Value} (hk : 0 < l.length) : pV (LM b l μ) b ci j v = (l[0]?).bind fun e => (xO ci e).bind fun fs => if j < fs.length then some (LM b (l.set 0 (.inr (ci, fs.set j v))) μ) else none := ls_pV (k := 0) hk
theorem ls_x4 {μ : mS} {b : Nat} {e0 e1 : mE} : f_X4_init (b + 2) (LM b [e0, e1, .inr (3, df_X4)] μ) = some (LM b [e0, e1, .inr (3, [.ref (b + 3), .ref (b + 4), .ref (b + 5), .int 0, .int 0, .int 0, .int 0, .int 0, .int 0]), iArr 160 fun _ => 0, iArr 160 fun _ => 0, iArr 3 fun _ => 0] μ) := by
  rw [f_X4_init.eq_1]
  simp [vl_eq, lm_nI, ls_1, pR, ls_pV, df_X4, xO]
end LMS
