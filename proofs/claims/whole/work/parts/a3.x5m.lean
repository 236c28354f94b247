/-! THE START: the class's cells are the picture. -/
def xI0 : List (Nat → Int32) := [aw [0, 0, 0, 0, 0, 0, 0, 1], fun _ => 0, fun _ => 0, fun _ => 0, fun _ => 0, fun _ => 0, fun _ => 0, fun _ => 0, aw [0, 0, 1, 2], fun _ => 0, fun _ => 0, fun _ => 0, fun _ => 0, fun _ => 0, fun _ => 0, fun _ => 0, fun _ => 0, fun _ => 0, fun _ => 0, fun _ => 0, fun _ => 0, fun _ => 0, fun _ => 0, fun _ => 0, fun _ => 0, fun _ => 0, fun _ => 0, fun _ => 0, fun _ => 0, fun _ => 0, fun _ => 0, fun _ => 0, fun _ => 0, fun _ => 0, fun _ => 0, fun _ => 0, fun _ => 0, fun _ => 0, fun _ => 0, fun _ => 0, fun _ => 0, fun _ => 0, fun _ => 0, fun _ => 0, fun _ => 0, fun _ => 0, fun _ => 0, fun _ => 0, fun _ => 0, fun _ => 0, fun _ => 0, fun _ => 0, fun _ => 0, fun _ => 0, fun _ => 0, fun _ => 0, fun _ => 0, fun _ => 0, fun _ => 0, fun _ => 0, fun _ => 0, fun _ => 0, fun _ => 0, fun _ => 0, fun _ => 0, fun _ => 0, fun _ => 0, fun _ => 0, fun _ => 0, fun _ => 0, fun _ => 0, fun _ => 0, fun _ => 0, fun _ => 0, fun _ => 0, fun _ => 0, fun _ => 0, aw [0, -1, 0], fun _ => 0, aw [0, -1, 0], fun _ => 0, aw [0, -1, 0], fun _ => 0, aw [0, -1, 0], fun _ => 0]
def xA0 : List (Nat → Int32) := [fun _ => 0, fun _ => 0, fun _ => 0, fun _ => 0, fun _ => 0, fun _ => 0, fun _ => 0, fun _ => 0, fun _ => 0, aw [-1, 6, -3], fun _ => 0, fun _ => 0, fun _ => 0, fun j => if j < 6 then 50 else 0, fun _ => 0, fun _ => 0, fun _ => 0, fun _ => 0, fun _ => 0, fun j => if j < 8 then -1 else 0, fun _ => 0, fun _ => 0, fun _ => 0, fun _ => 0, fun j => if j < 6 then 50 else 0, fun _ => 0, fun _ => 0, fun _ => 0, fun _ => 0, fun _ => 0, fun j => if j < 8 then -1 else 0, fun _ => 0, fun _ => 0, fun _ => 0, fun _ => 0, fun j => if j < 6 then 50 else 0, fun _ => 0, fun _ => 0, fun _ => 0, fun _ => 0, fun _ => 0, fun j => if j < 8 then -1 else 0, fun _ => 0, fun _ => 0, fun _ => 0, fun _ => 0, fun j => if j < 6 then 50 else 0, fun _ => 0, fun _ => 0, fun _ => 0, fun _ => 0, fun _ => 0, fun j => if j < 8 then -1 else 0, fun _ => 0, fun _ => 0, fun _ => 0, fun _ => 0, fun j => if j < 6 then 50 else 0, fun _ => 0, fun _ => 0, fun _ => 0, fun _ => 0, fun _ => 0, fun j => if j < 8 then -1 else 0, fun _ => 0, fun _ => 0, fun _ => 0, fun _ => 0, fun j => if j < 6 then 50 else 0, fun _ => 0, fun _ => 0, fun _ => 0, fun _ => 0, fun _ => 0, fun j => if j < 8 then -1 else 0, fun _ => 0, fun _ => 0, fun _ => 0, fun _ => 0, fun _ => 0, fun _ => 0, fun _ => 0, fun _ => 0, fun _ => 0, fun _ => 0]
def xS0 (b : Nat) : XS := (fun k => xI0.getD k (fun _ => 0), fun k => xA0.getD k (fun _ => 0), fun _ => b + 8, va_up (fun _ => none) 0 (some (b + 8)))
theorem sh_fin (b : Nat) : va_up (va_up (va_up (va_up (fun _ => none) 0 (some (b + 77))) 1 (some (b + 79))) 2 (some (b + 81))) 3 (some (b + 83)) = shOf b := by
  funext j
  match j with
  | 0 => rfl
  | 1 => rfl
  | 2 => rfl
  | 3 => rfl
  | j + 4 => simp [va_up, shOf]
theorem bh_fin (b : Nat) : va_up (va_up (va_up (va_up (fun _ => none) 0 (some (b + 11))) 1 (some (b + 44))) 2 (some (b + 55))) 3 (some (b + 66)) = bhOf b := by
  funext j
  match j with
  | 0 => rfl
  | 1 => rfl
  | 2 => rfl
  | 3 => rfl
  | j + 4 => simp [va_up, bhOf]
def xPk (b k : Nat) : Prop := (xFin b)[k]? = some (cellX b k ((xS0 b).1 k) ((xS0 b).2.1 k) ((xS0 b).2.2.1 k) (xS0 b).2.2.2)
theorem x5_c0 (b : Nat) : xPk b 0 := rfl
theorem x5_c1 (b : Nat) : xPk b 1 := rfl
theorem x5_c2 (b : Nat) : xPk b 2 := rfl
theorem x5_c3 (b : Nat) : xPk b 3 := rfl
theorem x5_c4 (b : Nat) : xPk b 4 := rfl
theorem x5_c5 (b : Nat) : xPk b 5 := rfl
theorem x5_c6 (b : Nat) : xPk b 6 := by unfold xPk; rw [show (xFin b)[6]? = some (rArr 2 4 (va_up (va_up (va_up (va_up (fun _ => none) 0 (some (b + 77))) 1 (some (b + 79))) 2 (some (b + 81))) 3 (some (b + 83)))) from rfl, sh_fin]; rfl
theorem x5_c7 (b : Nat) : xPk b 7 := by unfold xPk; rw [show (xFin b)[7]? = some (rArr 3 4 (va_up (va_up (va_up (va_up (fun _ => none) 0 (some (b + 11))) 1 (some (b + 44))) 2 (some (b + 55))) 3 (some (b + 66)))) from rfl, bh_fin]; rfl
theorem x5_c8 (b : Nat) : xPk b 8 := rfl
theorem x5_c9 (b : Nat) : xPk b 9 := rfl
theorem x5_c10 (b : Nat) : xPk b 10 := rfl
theorem x5_c11 (b : Nat) : xPk b 11 := rfl
theorem x5_c12 (b : Nat) : xPk b 12 := rfl
theorem x5_c13 (b : Nat) : xPk b 13 := rfl
theorem x5_c14 (b : Nat) : xPk b 14 := rfl
theorem x5_c15 (b : Nat) : xPk b 15 := rfl
theorem x5_c16 (b : Nat) : xPk b 16 := rfl
theorem x5_c17 (b : Nat) : xPk b 17 := rfl
theorem x5_c18 (b : Nat) : xPk b 18 := rfl
theorem x5_c19 (b : Nat) : xPk b 19 := rfl
theorem x5_c20 (b : Nat) : xPk b 20 := rfl
theorem x5_c21 (b : Nat) : xPk b 21 := rfl
theorem x5_c22 (b : Nat) : xPk b 22 := rfl
theorem x5_c23 (b : Nat) : xPk b 23 := rfl
theorem x5_c24 (b : Nat) : xPk b 24 := rfl
theorem x5_c25 (b : Nat) : xPk b 25 := rfl
theorem x5_c26 (b : Nat) : xPk b 26 := rfl
theorem x5_c27 (b : Nat) : xPk b 27 := rfl
theorem x5_c28 (b : Nat) : xPk b 28 := rfl
theorem x5_c29 (b : Nat) : xPk b 29 := rfl
theorem x5_c30 (b : Nat) : xPk b 30 := rfl
theorem x5_c31 (b : Nat) : xPk b 31 := rfl
theorem x5_c32 (b : Nat) : xPk b 32 := rfl
theorem x5_c33 (b : Nat) : xPk b 33 := rfl
theorem x5_c34 (b : Nat) : xPk b 34 := rfl
theorem x5_c35 (b : Nat) : xPk b 35 := rfl
theorem x5_c36 (b : Nat) : xPk b 36 := rfl
theorem x5_c37 (b : Nat) : xPk b 37 := rfl
theorem x5_c38 (b : Nat) : xPk b 38 := rfl
theorem x5_c39 (b : Nat) : xPk b 39 := rfl
theorem x5_c40 (b : Nat) : xPk b 40 := rfl
theorem x5_c41 (b : Nat) : xPk b 41 := rfl
theorem x5_c42 (b : Nat) : xPk b 42 := rfl
theorem x5_c43 (b : Nat) : xPk b 43 := rfl
theorem x5_c44 (b : Nat) : xPk b 44 := rfl
theorem x5_c45 (b : Nat) : xPk b 45 := rfl
theorem x5_c46 (b : Nat) : xPk b 46 := rfl
theorem x5_c47 (b : Nat) : xPk b 47 := rfl
theorem x5_c48 (b : Nat) : xPk b 48 := rfl
theorem x5_c49 (b : Nat) : xPk b 49 := rfl
theorem x5_c50 (b : Nat) : xPk b 50 := rfl
theorem x5_c51 (b : Nat) : xPk b 51 := rfl
theorem x5_c52 (b : Nat) : xPk b 52 := rfl
theorem x5_c53 (b : Nat) : xPk b 53 := rfl
theorem x5_c54 (b : Nat) : xPk b 54 := rfl
theorem x5_c55 (b : Nat) : xPk b 55 := rfl
theorem x5_c56 (b : Nat) : xPk b 56 := rfl
theorem x5_c57 (b : Nat) : xPk b 57 := rfl
theorem x5_c58 (b : Nat) : xPk b 58 := rfl
theorem x5_c59 (b : Nat) : xPk b 59 := rfl
theorem x5_c60 (b : Nat) : xPk b 60 := rfl
theorem x5_c61 (b : Nat) : xPk b 61 := rfl
theorem x5_c62 (b : Nat) : xPk b 62 := rfl
theorem x5_c63 (b : Nat) : xPk b 63 := rfl
theorem x5_c64 (b : Nat) : xPk b 64 := rfl
theorem x5_c65 (b : Nat) : xPk b 65 := rfl
theorem x5_c66 (b : Nat) : xPk b 66 := rfl
theorem x5_c67 (b : Nat) : xPk b 67 := rfl
theorem x5_c68 (b : Nat) : xPk b 68 := rfl
theorem x5_c69 (b : Nat) : xPk b 69 := rfl
theorem x5_c70 (b : Nat) : xPk b 70 := rfl
theorem x5_c71 (b : Nat) : xPk b 71 := rfl
theorem x5_c72 (b : Nat) : xPk b 72 := rfl
theorem x5_c73 (b : Nat) : xPk b 73 := rfl
theorem x5_c74 (b : Nat) : xPk b 74 := rfl
theorem x5_c75 (b : Nat) : xPk b 75 := rfl
theorem x5_c76 (b : Nat) : xPk b 76 := rfl
theorem x5_c77 (b : Nat) : xPk b 77 := rfl
theorem x5_c78 (b : Nat) : xPk b 78 := rfl
theorem x5_c79 (b : Nat) : xPk b 79 := rfl
theorem x5_c80 (b : Nat) : xPk b 80 := rfl
theorem x5_c81 (b : Nat) : xPk b 81 := rfl
theorem x5_c82 (b : Nat) : xPk b 82 := rfl
theorem x5_c83 (b : Nat) : xPk b 83 := rfl
theorem x5_c84 (b : Nat) : xPk b 84 := rfl
set_option maxRecDepth 20000 in
theorem x5_cell (b : Nat) : ∀ k, k < 85 → xPk b k := (lt_s (lt_s (lt_s (lt_s (lt_s (lt_s (lt_s (lt_s (lt_s (lt_s (lt_s (lt_s (lt_s (lt_s (lt_s (lt_s (lt_s (lt_s (lt_s (lt_s (lt_s (lt_s (lt_s (lt_s (lt_s (lt_s (lt_s (lt_s (lt_s (lt_s (lt_s (lt_s (lt_s (lt_s (lt_s (lt_s (lt_s (lt_s (lt_s (lt_s (lt_s (lt_s (lt_s (lt_s (lt_s (lt_s (lt_s (lt_s (lt_s (lt_s (lt_s (lt_s (lt_s (lt_s (lt_s (lt_s (lt_s (lt_s (lt_s (lt_s (lt_s (lt_s (lt_s (lt_s (lt_s (lt_s (lt_s (lt_s (lt_s (lt_s (lt_s (lt_s (lt_s (lt_s (lt_s (lt_s (lt_s (lt_s (lt_s (lt_s (lt_s (lt_s (lt_s (lt_s (lt_s lt_0 (x5_c0 b)) (x5_c1 b)) (x5_c2 b)) (x5_c3 b)) (x5_c4 b)) (x5_c5 b)) (x5_c6 b)) (x5_c7 b)) (x5_c8 b)) (x5_c9 b)) (x5_c10 b)) (x5_c11 b)) (x5_c12 b)) (x5_c13 b)) (x5_c14 b)) (x5_c15 b)) (x5_c16 b)) (x5_c17 b)) (x5_c18 b)) (x5_c19 b)) (x5_c20 b)) (x5_c21 b)) (x5_c22 b)) (x5_c23 b)) (x5_c24 b)) (x5_c25 b)) (x5_c26 b)) (x5_c27 b)) (x5_c28 b)) (x5_c29 b)) (x5_c30 b)) (x5_c31 b)) (x5_c32 b)) (x5_c33 b)) (x5_c34 b)) (x5_c35 b)) (x5_c36 b)) (x5_c37 b)) (x5_c38 b)) (x5_c39 b)) (x5_c40 b)) (x5_c41 b)) (x5_c42 b)) (x5_c43 b)) (x5_c44 b)) (x5_c45 b)) (x5_c46 b)) (x5_c47 b)) (x5_c48 b)) (x5_c49 b)) (x5_c50 b)) (x5_c51 b)) (x5_c52 b)) (x5_c53 b)) (x5_c54 b)) (x5_c55 b)) (x5_c56 b)) (x5_c57 b)) (x5_c58 b)) (x5_c59 b)) (x5_c60 b)) (x5_c61 b)) (x5_c62 b)) (x5_c63 b)) (x5_c64 b)) (x5_c65 b)) (x5_c66 b)) (x5_c67 b)) (x5_c68 b)) (x5_c69 b)) (x5_c70 b)) (x5_c71 b)) (x5_c72 b)) (x5_c73 b)) (x5_c74 b)) (x5_c75 b)) (x5_c76 b)) (x5_c77 b)) (x5_c78 b)) (x5_c79 b)) (x5_c80 b)) (x5_c81 b)) (x5_c82 b)) (x5_c83 b)) (x5_c84 b))
theorem xFin_len (b : Nat) : (xFin b).length = 85 := rfl
theorem x5_mem (b : Nat) (μ : mS) : LM b (xFin b) μ = memX b (xS0 b) (b + 85, μ.2) := by
  refine Prod.ext (by show b + (xFin b).length = b + 85; rw [xFin_len]) (funext fun a => ?_)
  show (if b ≤ a ∧ a < b + (xFin b).length then (xFin b)[a - b]? else μ.2 a) = if b ≤ a ∧ a < b + 85 then some _ else μ.2 a
  rw [xFin_len]
  by_cases c : b ≤ a ∧ a < b + 85
  · rw [if_pos c, if_pos c]; exact x5_cell b (a - b) (by omega)
  · rw [if_neg c, if_neg c]
