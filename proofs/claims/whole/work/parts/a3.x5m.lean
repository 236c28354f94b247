/-! THE START: the class's cells are the picture. -/
def xI0 : List (Nat → Int32) := [aw [0, 0, 0, 0, 0, 0, 0, 1], fun _ => 0, fun _ => 0, fun _ => 0, fun _ => 0, fun _ => 0, fun _ => 0, fun _ => 0, aw [0, 0, 1, 2], fun _ => 0, fun _ => 0, fun _ => 0, fun _ => 0, fun _ => 0, fun _ => 0, fun _ => 0, fun _ => 0, fun _ => 0, fun _ => 0, fun _ => 0, fun _ => 0, fun _ => 0, fun _ => 0, fun _ => 0, fun _ => 0, fun _ => 0, fun _ => 0, fun _ => 0, fun _ => 0, fun _ => 0, fun _ => 0, fun _ => 0, fun _ => 0, fun _ => 0, fun _ => 0, fun _ => 0, fun _ => 0, fun _ => 0, fun _ => 0, fun _ => 0, fun _ => 0, fun _ => 0, fun _ => 0, fun _ => 0, fun _ => 0, fun _ => 0, fun _ => 0, fun _ => 0, fun _ => 0, fun _ => 0, fun _ => 0, fun _ => 0, fun _ => 0, fun _ => 0, fun _ => 0, fun _ => 0, fun _ => 0, fun _ => 0, fun _ => 0, fun _ => 0, fun _ => 0, fun _ => 0, fun _ => 0, fun _ => 0, fun _ => 0, fun _ => 0, fun _ => 0, fun _ => 0, fun _ => 0, fun _ => 0, fun _ => 0, fun _ => 0, fun _ => 0, fun _ => 0, fun _ => 0, fun _ => 0, fun _ => 0, aw [0, -1, 0], fun _ => 0, aw [0, -1, 0], fun _ => 0, aw [0, -1, 0], fun _ => 0, aw [0, -1, 0], fun _ => 0]
def xA0 : List (Nat → Int32) := [fun _ => 0, fun _ => 0, fun _ => 0, fun _ => 0, fun _ => 0, fun _ => 0, fun _ => 0, fun _ => 0, fun _ => 0, aw [-1, 6, -3], fun _ => 0, fun _ => 0, fun _ => 0, fun j => if j < 6 then 50 else 0, fun _ => 0, fun _ => 0, fun _ => 0, fun _ => 0, fun _ => 0, fun j => if j < 8 then -1 else 0, fun _ => 0, fun _ => 0, fun _ => 0, fun _ => 0, fun j => if j < 6 then 50 else 0, fun _ => 0, fun _ => 0, fun _ => 0, fun _ => 0, fun _ => 0, fun j => if j < 8 then -1 else 0, fun _ => 0, fun _ => 0, fun _ => 0, fun _ => 0, fun j => if j < 6 then 50 else 0, fun _ => 0, fun _ => 0, fun _ => 0, fun _ => 0, fun _ => 0, fun j => if j < 8 then -1 else 0, fun _ => 0, fun _ => 0, fun _ => 0, fun _ => 0, fun j => if j < 6 then 50 else 0, fun _ => 0, fun _ => 0, fun _ => 0, fun _ => 0, fun _ => 0, fun j => if j < 8 then -1 else 0, fun _ => 0, fun _ => 0, fun _ => 0, fun _ => 0, fun j => if j < 6 then 50 else 0, fun _ => 0, fun _ => 0, fun _ => 0, fun _ => 0, fun _ => 0, fun j => if j < 8 then -1 else 0, fun _ => 0, fun _ => 0, fun _ => 0, fun _ => 0, fun j => if j < 6 then 50 else 0, fun _ => 0, fun _ => 0, fun _ => 0, fun _ => 0, fun _ => 0, fun j => if j < 8 then -1 else 0, fun _ => 0, fun _ => 0, fun _ => 0, fun _ => 0, fun _ => 0, fun _ => 0, fun _ => 0, fun _ => 0, fun _ => 0, fun _ => 0]
def xS0 (b : Nat) : XS := (fun k => xI0.getD k (fun _ => 0), fun k => xA0.getD k (fun _ => 0), fun _ => b + 8, va_up (fun _ => none) 0 (some (b + 8)))
theorem sh_fin (b : Nat) : va_up (va_up (va_up (va_up (fun _ => none) 0 (some (b + 77))) 1 (some (b + 79))) 2 (some (b + 81))) 3 (some (b + 83)) = shOf b := by
  funext j
  match j with
  | 0 => rfl
  | 1 => rfl
  | 2 => rfl
  | 3 => rfl
  | j + 4 => simp [va_up, shOf]
theorem bh_fin (b : Nat) : va_up (va_up (va_up (va_up (fun _ => none) 0 (some (b + 11))) 1 (some (b + 44))) 2 (some (b + 55))) 3 (some (b + 66)) = bhOf b := by
  funext j
  match j with
  | 0 => rfl
  | 1 => rfl
  | 2 => rfl
  | 3 => rfl
  | j + 4 => simp [va_up, bhOf]
set_option maxHeartbeats 4000000 in
set_option maxRecDepth 20000 in
theorem x5_cell (b : Nat) : ∀ k, k < 85 → (xFin b)[k]? = some (cellX b k ((xS0 b).1 k) ((xS0 b).2.1 k) ((xS0 b).2.2.1 k) (xS0 b).2.2.2) := by
  intro k hk
  match k, hk with
  | 0, _ => exact rfl
  | 1, _ => exact rfl
  | 2, _ => exact rfl
  | 3, _ => exact rfl
  | 4, _ => exact rfl
  | 5, _ => exact rfl
  | 6, _ => exact by rw [show (xFin b)[6]? = some (rArr 2 4 (va_up (va_up (va_up (va_up (fun _ => none) 0 (some (b + 77))) 1 (some (b + 79))) 2 (some (b + 81))) 3 (some (b + 83)))) from rfl, sh_fin]; rfl
  | 7, _ => exact by rw [show (xFin b)[7]? = some (rArr 3 4 (va_up (va_up (va_up (va_up (fun _ => none) 0 (some (b + 11))) 1 (some (b + 44))) 2 (some (b + 55))) 3 (some (b + 66)))) from rfl, bh_fin]; rfl
  | 8, _ => exact rfl
  | 9, _ => exact rfl
  | 10, _ => exact rfl
  | 11, _ => exact rfl
  | 12, _ => exact rfl
  | 13, _ => exact rfl
  | 14, _ => exact rfl
  | 15, _ => exact rfl
  | 16, _ => exact rfl
  | 17, _ => exact rfl
  | 18, _ => exact rfl
  | 19, _ => exact rfl
  | 20, _ => exact rfl
  | 21, _ => exact rfl
  | 22, _ => exact rfl
  | 23, _ => exact rfl
  | 24, _ => exact rfl
  | 25, _ => exact rfl
  | 26, _ => exact rfl
  | 27, _ => exact rfl
  | 28, _ => exact rfl
  | 29, _ => exact rfl
  | 30, _ => exact rfl
  | 31, _ => exact rfl
  | 32, _ => exact rfl
  | 33, _ => exact rfl
  | 34, _ => exact rfl
  | 35, _ => exact rfl
  | 36, _ => exact rfl
  | 37, _ => exact rfl
  | 38, _ => exact rfl
  | 39, _ => exact rfl
  | 40, _ => exact rfl
  | 41, _ => exact rfl
  | 42, _ => exact rfl
  | 43, _ => exact rfl
  | 44, _ => exact rfl
  | 45, _ => exact rfl
  | 46, _ => exact rfl
  | 47, _ => exact rfl
  | 48, _ => exact rfl
  | 49, _ => exact rfl
  | 50, _ => exact rfl
  | 51, _ => exact rfl
  | 52, _ => exact rfl
  | 53, _ => exact rfl
  | 54, _ => exact rfl
  | 55, _ => exact rfl
  | 56, _ => exact rfl
  | 57, _ => exact rfl
  | 58, _ => exact rfl
  | 59, _ => exact rfl
  | 60, _ => exact rfl
  | 61, _ => exact rfl
  | 62, _ => exact rfl
  | 63, _ => exact rfl
  | 64, _ => exact rfl
  | 65, _ => exact rfl
  | 66, _ => exact rfl
  | 67, _ => exact rfl
  | 68, _ => exact rfl
  | 69, _ => exact rfl
  | 70, _ => exact rfl
  | 71, _ => exact rfl
  | 72, _ => exact rfl
  | 73, _ => exact rfl
  | 74, _ => exact rfl
  | 75, _ => exact rfl
  | 76, _ => exact rfl
  | 77, _ => exact rfl
  | 78, _ => exact rfl
  | 79, _ => exact rfl
  | 80, _ => exact rfl
  | 81, _ => exact rfl
  | 82, _ => exact rfl
  | 83, _ => exact rfl
  | 84, _ => exact rfl
theorem xFin_len (b : Nat) : (xFin b).length = 85 := rfl
theorem x5_mem (b : Nat) (μ : mS) : LM b (xFin b) μ = memX b (xS0 b) (b + 85, μ.2) := by
  refine Prod.ext (by show b + (xFin b).length = b + 85; rw [xFin_len]) (funext fun a => ?_)
  show (if b ≤ a ∧ a < b + (xFin b).length then (xFin b)[a - b]? else μ.2 a) = if b ≤ a ∧ a < b + 85 then some _ else μ.2 a
  rw [xFin_len]
  by_cases c : b ≤ a ∧ a < b + 85
  · rw [if_pos c, if_pos c, x5_cell b (a - b) (by omega)]
  · rw [if_neg c, if_neg c]
