/-! THE TWO MEMORIES AS PICTURES: 85 cells of the class at b, 21 of the reference at m. -/
abbrev XS : Type := (Nat → Nat → Int32) × (Nat → Nat → Int32) × (Nat → Nat) × (Nat → Option Nat)
def zLen : Nat → Nat
  | 0 => 10 | 1 => 6 | 2 => 6 | 3 => 6 | 4 => 6 | 5 => 6 | 6 => 6 | 7 => 8 | 8 => 8 | _ => 8
def iArr (n : Nat) (f : Nat → Int32) : mE := .inl (0, n, .inl f)
def rArr (t n : Nat) (f : Nat → Option Nat) : mE := .inl (t, n, .inr (.inr (.inr (.inr f))))
def shOf (b j : Nat) : Option Nat := if 4 ≤ j then none else some (b + (77 + 2 * j))
def bhOf (b j : Nat) : Option Nat := if 4 ≤ j then none else if j = 0 then some (b + 11) else some (b + (33 + 11 * j))
def zObj (b k : Nat) (i : Nat → Int32) (q : Nat) : mE := .inr (0, [.ref (b + (k + 1)), .ref (b + (k + 2)), .ref (b + (k + 3)), .ref (b + (k + 4)), .ref (b + (k + 5)), .ref (b + (k + 6)), .ref (b + (k + 7)), .ref (b + (k + 8)), .ref (b + (k + 9)), .ref (b + (k + 10)), .ref (b + 10), .int (i 11), .int (i 12), .int (i 13), .ref q])
def cellX (b k : Nat) (i f : Nat → Int32) (q : Nat) (t : Nat → Option Nat) : mE := match k with
  | 0 => .inr (4, [.ref (b + 1), .ref (b + 2), .ref (b + 6), .ref (b + 11), .ref (b + 22), .ref (b + 33), .ref (b + 7), .int (i 7), .int (i 8), .int (i 9), .int (i 10)])
  | 1 => rArr 1 6 t
  | 2 => .inr (3, [.ref (b + 3), .ref (b + 4), .ref (b + 5), .int (i 3), .int (i 4), .int (i 5), .int (i 6), .int (i 7), .int (i 8)])
  | 3 => iArr 160 f
  | 4 => iArr 160 f
  | 5 => iArr 3 f
  | 6 => rArr 2 4 (shOf b)
  | 7 => rArr 3 4 (bhOf b)
  | 8 => .inr (1, [.int (i 0), .ref (b + 9), .int (i 2), .int (i 3)])
  | 9 => iArr 3 f
  | 10 => iArr 160 f
  | n + 11 => if n < 66 then (if n % 11 = 0 then zObj b (n + 11) i q else iArr (zLen (n % 11 - 1)) f) else (if n % 2 = 0 then .inr (2, [.ref (b + (n + 12)), .int (i 1), .int (i 2)]) else iArr 40 f)
def memX (b : Nat) (S : XS) (μ : mS) : mS := (μ.1, fun a => if b ≤ a ∧ a < b + 85 then some (cellX b (a - b) (S.1 (a - b)) (S.2.1 (a - b)) (S.2.2.1 (a - b)) S.2.2.2) else μ.2 a)
def sxI (S : XS) (k f : Nat) (v : Int32) : XS := (va_up S.1 k (upd (S.1 k) f v), S.2)
def sxA (S : XS) (k : Nat) (g : Nat → Int32) : XS := (S.1, va_up S.2.1 k g, S.2.2)
def sxL (S : XS) (k q : Nat) : XS := (S.1, S.2.1, va_up S.2.2.1 k q, S.2.2.2)
def sxT (S : XS) (t : Nat → Option Nat) : XS := (S.1, S.2.1, S.2.2.1, t)
theorem mx_get {b k : Nat} {S : XS} {μ : mS} (hk : k < 85) : (memX b S μ).2 (b + k) = some (cellX b k (S.1 k) (S.2.1 k) (S.2.2.1 k) S.2.2.2) := by
  simp only [memX]
  rw [if_pos ⟨by omega, by omega⟩, Nat.add_sub_cancel_left]
theorem mx_out {b a : Nat} {S : XS} {μ : mS} (h : a < b ∨ b + 85 ≤ a) : (memX b S μ).2 a = μ.2 a := by
  simp only [memX]
  rw [if_neg (by omega)]
theorem mx_set {b k : Nat} {S S' : XS} {μ : mS} {e : mE} (hk : k < 85) (he : cellX b k (S'.1 k) (S'.2.1 k) (S'.2.2.1 k) S'.2.2.2 = e) (ho : ∀ j, j ≠ k → cellX b j (S'.1 j) (S'.2.1 j) (S'.2.2.1 j) S'.2.2.2 = cellX b j (S.1 j) (S.2.1 j) (S.2.2.1 j) S.2.2.2) : ((memX b S μ).1, va_up (memX b S μ).2 (b + k) (some e)) = memX b S' μ := by
  refine Prod.ext rfl (funext fun a => ?_)
  show va_up _ _ _ a = _
  by_cases ha : a = b + k
  · subst ha
    rw [mx_get hk, he]
    simp [va_up]
  · simp only [va_up, if_neg ha, memX]
    by_cases hr : b ≤ a ∧ a < b + 85
    · rw [if_pos hr, if_pos hr, ho (a - b) (by omega)]
    · rw [if_neg hr, if_neg hr]
theorem up_eq {α : Type} (f : Nat → α) (k : Nat) (v : α) : va_up f k v k = v := by simp [va_up]
theorem up_ne {α : Type} (f : Nat → α) {k j : Nat} (v : α) (h : j ≠ k) : va_up f k v j = f j := by simp [va_up, h]
theorem upd_eq (f : Nat → Int32) (k : Nat) (v : Int32) : upd f k v k = v := by simp [upd]
theorem upd_ne (f : Nat → Int32) {k j : Nat} (v : Int32) (h : j ≠ k) : upd f k v j = f j := by simp [upd, h]
/-- which offsets are rows of numbers, and how long -/
def xArr (k : Nat) : Option Nat := match k with
  | 3 => some 160 | 4 => some 160 | 5 => some 3 | 9 => some 3 | 10 => some 160
  | 0 => none | 1 => none | 2 => none | 6 => none | 7 => none | 8 => none
  | n + 11 => if n < 66 then (if n % 11 = 0 then none else some (zLen (n % 11 - 1))) else (if n % 2 = 0 then none else some 40)
theorem cx_arr {b k n : Nat} (h : xArr k = some n) (i f : Nat → Int32) (q : Nat) (t : Nat → Option Nat) : cellX b k i f q t = iArr n f := by
  match k, h with
  | 0, h => cases h
  | 1, h => cases h
  | 2, h => cases h
  | 3, h => cases h; rfl
  | 4, h => cases h; rfl
  | 5, h => cases h; rfl
  | 6, h => cases h
  | 7, h => cases h
  | 8, h => cases h
  | 9, h => cases h; rfl
  | 10, h => cases h; rfl
  | k + 11, h =>
    simp only [xArr] at h
    simp only [cellX]
    split at h
    · rename_i h1
      rw [if_pos h1]
      split at h
      · cases h
      · rename_i h2
        rw [if_neg h2]
        cases h
        rfl
    · rename_i h1
      rw [if_neg h1]
      split at h
      · cases h
      · rename_i h2
        rw [if_neg h2]
        cases h
        rfl
theorem xI_i (n : Nat) (f : Nat → Int32) : xI (iArr n f) = some (n, f) := rfl
theorem xR_r (t n : Nat) (f : Nat → Option Nat) : xR t (rArr t n f) = some (n, f) := by simp [xR, rArr]
theorem aI_X {b k n : Nat} {S : XS} {μ : mS} {i : Int32} (hk : k < 85) (h : xArr k = some n) : aI (memX b S μ) (b + k) i = if i < 0 ∨ n ≤ i.toNatClampNeg then none else some (S.2.1 k i.toNatClampNeg) := by
  simp only [aI, mx_get hk, cx_arr h, xI_i, Option.bind_some]
theorem aL_X {b k n : Nat} {S : XS} {μ : mS} (hk : k < 85) (h : xArr k = some n) : aL (memX b S μ) (b + k) = some (Int32.ofNat n) := by
  simp only [aL, mx_get hk, cx_arr h, xI_i, Option.bind_some]
theorem setA_X {b k n : Nat} {S : XS} {μ : mS} {g : Nat → Int32} (hk : k < 85) (h : xArr k = some n) : ((memX b S μ).1, va_up (memX b S μ).2 (b + k) (some (iArr n g))) = memX b (sxA S k g) μ := by
  refine mx_set hk ?_ (fun j hj => ?_)
  · rw [cx_arr h]
    simp [sxA, up_eq]
  · simp [sxA, up_ne _ _ hj]
theorem sI_X {b k n : Nat} {S : XS} {μ : mS} {i v : Int32} (hk : k < 85) (h : xArr k = some n) : sI (memX b S μ) (b + k) i v = if i < 0 ∨ n ≤ i.toNatClampNeg then none else some (memX b (sxA S k (upd (S.2.1 k) i.toNatClampNeg v)) μ) := by
  simp only [sI, mx_get hk, cx_arr h, xI_i, Option.bind_some]
  rw [← setA_X hk h]
  rfl
theorem cP_X {b k n j n2 : Nat} {S : XS} {μ : mS} {p q c : Int32} (hk : k < 85) (h : xArr k = some n) (hj : j < 85) (h2 : xArr j = some n2) : cP (memX b S μ) (b + k) p (b + j) q c = if p < 0 ∨ q < 0 ∨ c < 0 ∨ n < p.toNatClampNeg + c.toNatClampNeg ∨ n2 < q.toNatClampNeg + c.toNatClampNeg then none else some (memX b (sxA S j (va_cpy (S.2.1 k) (S.2.1 j) p.toNatClampNeg q.toNatClampNeg c.toNatClampNeg)) μ) := by
  simp only [cP, mx_get hk, mx_get hj, cx_arr h, cx_arr h2, xI_i, Option.bind_some]
  rw [← setA_X hj h2]
  rfl
/-- an assize's offset -/
def zo (o : Nat) : Prop := o = 11 ∨ o = 22 ∨ o = 33 ∨ o = 44 ∨ o = 55 ∨ o = 66
theorem zo_lt {o j : Nat} (h : zo o) (hj : j < 11) : o + j < 85 := by rcases h with rfl | rfl | rfl | rfl | rfl | rfl <;> omega
theorem zo_arr {o j : Nat} (h : zo o) (hj : j < 10) : xArr (o + (j + 1)) = some (zLen j) := by
  rcases h with rfl | rfl | rfl | rfl | rfl | rfl <;> (
    match j, hj with
    | 0, _ => rfl | 1, _ => rfl | 2, _ => rfl | 3, _ => rfl | 4, _ => rfl | 5, _ => rfl | 6, _ => rfl | 7, _ => rfl | 8, _ => rfl | 9, _ => rfl)
theorem cx_z {b o : Nat} (h : zo o) (i f : Nat → Int32) (q : Nat) (t : Nat → Option Nat) : cellX b o i f q t = zObj b o i q := by rcases h with rfl | rfl | rfl | rfl | rfl | rfl <;> rfl
theorem gI_Z {b o : Nat} {S : XS} {μ : mS} (h : zo o) (k : Nat) (hk : k = 11 ∨ k = 12 ∨ k = 13) : gI (memX b S μ) (b + o) 0 k = some (S.1 o k) := by
  have h1 := zo_lt h (j := 0) (by omega)
  simp only [gI, gV, mx_get (k := o) (by omega), cx_z h, zObj, xO, Option.bind_some, if_pos]
  rcases hk with rfl | rfl | rfl <;> rfl
theorem gR_Z {b o : Nat} {S : XS} {μ : mS} (h : zo o) (j : Nat) (hj : j < 10) : gR (memX b S μ) (b + o) 0 j = some (b + (o + (j + 1))) := by
  have h1 := zo_lt h (j := 0) (by omega)
  simp only [gR, gV, mx_get (k := o) (by omega), cx_z h, zObj, xO, Option.bind_some, if_pos]
  match j, hj with
  | 0, _ => rfl | 1, _ => rfl | 2, _ => rfl | 3, _ => rfl | 4, _ => rfl | 5, _ => rfl | 6, _ => rfl | 7, _ => rfl | 8, _ => rfl | 9, _ => rfl
theorem gS_Z {b o : Nat} {S : XS} {μ : mS} (h : zo o) : gR (memX b S μ) (b + o) 0 10 = some (b + 10) := by
  have h1 := zo_lt h (j := 0) (by omega)
  simp only [gR, gV, mx_get (k := o) (by omega), cx_z h, zObj, xO, Option.bind_some, if_pos]
  rfl
theorem gL_Z {b o : Nat} {S : XS} {μ : mS} (h : zo o) : gR (memX b S μ) (b + o) 0 14 = some (S.2.2.1 o) := by
  have h1 := zo_lt h (j := 0) (by omega)
  simp only [gR, gV, mx_get (k := o) (by omega), cx_z h, zObj, xO, Option.bind_some, if_pos]
  rfl
theorem isO_Z {b o : Nat} {S : XS} {μ : mS} (h : zo o) : isO (memX b S μ) (b + o) 0 = true := by
  have h1 := zo_lt h (j := 0) (by omega)
  simp only [isO, mx_get (k := o) (by omega), cx_z h, zObj, xO, Option.bind_some, if_pos]
  rfl
theorem pI_Z {b o : Nat} {S : XS} {μ : mS} {v : Int32} (h : zo o) (k : Nat) (hk : k = 11 ∨ k = 12 ∨ k = 13) : pI (memX b S μ) (b + o) 0 k v = some (memX b (sxI S o k v) μ) := by
  have h1 := zo_lt h (j := 0) (by omega)
  have e : ((memX b S μ).1, va_up (memX b S μ).2 (b + o) (some (zObj b o (upd (S.1 o) k v) (S.2.2.1 o)))) = memX b (sxI S o k v) μ := by
    refine mx_set (by omega) ?_ (fun j hj => ?_)
    · rw [cx_z h]
      simp [sxI, up_eq]
    · simp [sxI, up_ne _ _ hj]
  simp only [pI, pV, mx_get (k := o) (by omega), cx_z h, zObj, xO, Option.bind_some, if_pos]
  rw [← e]
  rcases hk with rfl | rfl | rfl <;> rfl
theorem pL_Z {b o q : Nat} {S : XS} {μ : mS} (h : zo o) : pR (memX b S μ) (b + o) 0 14 q = some (memX b (sxL S o q) μ) := by
  have h1 := zo_lt h (j := 0) (by omega)
  have e : ((memX b S μ).1, va_up (memX b S μ).2 (b + o) (some (zObj b o (S.1 o) q))) = memX b (sxL S o q) μ := by
    refine mx_set (by omega) ?_ (fun j hj => ?_)
    · rw [cx_z h]
      simp [sxL, up_eq]
    · simp [sxL, up_ne _ _ hj]
  simp only [pR, pV, mx_get (k := o) (by omega), cx_z h, zObj, xO, Option.bind_some, if_pos]
  rw [← e]
  rfl
theorem cx_0 (b : Nat) (i f : Nat → Int32) (q : Nat) (t : Nat → Option Nat) : cellX b 0 i f q t = .inr (4, [.ref (b + 1), .ref (b + 2), .ref (b + 6), .ref (b + 11), .ref (b + 22), .ref (b + 33), .ref (b + 7), .int (i 7), .int (i 8), .int (i 9), .int (i 10)]) := rfl
theorem cx_2 (b : Nat) (i f : Nat → Int32) (q : Nat) (t : Nat → Option Nat) : cellX b 2 i f q t = .inr (3, [.ref (b + 3), .ref (b + 4), .ref (b + 5), .int (i 3), .int (i 4), .int (i 5), .int (i 6), .int (i 7), .int (i 8)]) := rfl
theorem mx_get0 {b : Nat} {S : XS} {μ : mS} : (memX b S μ).2 b = some (.inr (4, [.ref (b + 1), .ref (b + 2), .ref (b + 6), .ref (b + 11), .ref (b + 22), .ref (b + 33), .ref (b + 7), .int (S.1 0 7), .int (S.1 0 8), .int (S.1 0 9), .int (S.1 0 10)])) := mx_get (b := b) (k := 0) (S := S) (μ := μ) (by omega)
def hRef (k : Nat) : Nat := match k with
  | 0 => 1 | 1 => 2 | 2 => 6 | 3 => 11 | 4 => 22 | 5 => 33 | _ => 7
theorem gR_H {b : Nat} {S : XS} {μ : mS} (k : Nat) (hk : k < 7) : gR (memX b S μ) b 4 k = some (b + hRef k) := by
  simp only [gR, gV, mx_get0, xO, Option.bind_some, if_pos]
  match k, hk with
  | 0, _ => rfl | 1, _ => rfl | 2, _ => rfl | 3, _ => rfl | 4, _ => rfl | 5, _ => rfl | 6, _ => rfl
theorem gI_H {b : Nat} {S : XS} {μ : mS} (k : Nat) (hk : k = 7 ∨ k = 8 ∨ k = 9 ∨ k = 10) : gI (memX b S μ) b 4 k = some (S.1 0 k) := by
  simp only [gI, gV, mx_get0, xO, Option.bind_some, if_pos]
  rcases hk with rfl | rfl | rfl | rfl <;> rfl
theorem pI_H {b : Nat} {S : XS} {μ : mS} {v : Int32} (k : Nat) (hk : k = 7 ∨ k = 8 ∨ k = 9 ∨ k = 10) : pI (memX b S μ) b 4 k v = some (memX b (sxI S 0 k v) μ) := by
  have e : ((memX b S μ).1, va_up (memX b S μ).2 (b + 0) (some (.inr (4, [.ref (b + 1), .ref (b + 2), .ref (b + 6), .ref (b + 11), .ref (b + 22), .ref (b + 33), .ref (b + 7), .int (upd (S.1 0) k v 7), .int (upd (S.1 0) k v 8), .int (upd (S.1 0) k v 9), .int (upd (S.1 0) k v 10)])))) = memX b (sxI S 0 k v) μ := by
    refine mx_set (by omega) ?_ (fun j hj => ?_)
    · rw [cx_0]
      simp [sxI, up_eq]
    · simp [sxI, up_ne _ _ hj]
  simp only [pI, pV, mx_get0, xO, Option.bind_some, if_pos]
  rw [← e]
  rcases hk with rfl | rfl | rfl | rfl <;> rfl
theorem isO_H {b : Nat} {S : XS} {μ : mS} : isO (memX b S μ) b 4 = true := by
  simp only [isO, mx_get0, xO, Option.bind_some, if_pos]
  rfl
theorem gR_T {b : Nat} {S : XS} {μ : mS} (k : Nat) (hk : k < 3) : gR (memX b S μ) (b + 2) 3 k = some (b + (k + 3)) := by
  simp only [gR, gV, mx_get (k := 2) (by omega), cx_2, xO, Option.bind_some, if_pos]
  match k, hk with
  | 0, _ => rfl | 1, _ => rfl | 2, _ => rfl
theorem gI_T {b : Nat} {S : XS} {μ : mS} (k : Nat) (hk : 3 ≤ k ∧ k < 9) : gI (memX b S μ) (b + 2) 3 k = some (S.1 2 k) := by
  simp only [gI, gV, mx_get (k := 2) (by omega), cx_2, xO, Option.bind_some, if_pos]
  match k, hk with
  | 3, _ => rfl | 4, _ => rfl | 5, _ => rfl | 6, _ => rfl | 7, _ => rfl | 8, _ => rfl
theorem pI_T {b : Nat} {S : XS} {μ : mS} {v : Int32} (k : Nat) (hk : 3 ≤ k ∧ k < 9) : pI (memX b S μ) (b + 2) 3 k v = some (memX b (sxI S 2 k v) μ) := by
  have e : ((memX b S μ).1, va_up (memX b S μ).2 (b + 2) (some (.inr (3, [.ref (b + 3), .ref (b + 4), .ref (b + 5), .int (upd (S.1 2) k v 3), .int (upd (S.1 2) k v 4), .int (upd (S.1 2) k v 5), .int (upd (S.1 2) k v 6), .int (upd (S.1 2) k v 7), .int (upd (S.1 2) k v 8)])))) = memX b (sxI S 2 k v) μ := by
    refine mx_set (by omega) ?_ (fun j hj => ?_)
    · rw [cx_2]
      simp [sxI, up_eq]
    · simp [sxI, up_ne _ _ hj]
  simp only [pI, pV, mx_get (k := 2) (by omega), cx_2, xO, Option.bind_some, if_pos]
  rw [← e]
  match k, hk with
  | 3, _ => rfl | 4, _ => rfl | 5, _ => rfl | 6, _ => rfl | 7, _ => rfl | 8, _ => rfl
theorem isO_T {b : Nat} {S : XS} {μ : mS} : isO (memX b S μ) (b + 2) 3 = true := by
  simp only [isO, mx_get (k := 2) (by omega), cx_2, xO, Option.bind_some, if_pos]
  rfl
/-- a sheet's offset -/
def so (o : Nat) : Prop := o = 77 ∨ o = 79 ∨ o = 81 ∨ o = 83
theorem so_lt {o : Nat} (h : so o) : o + 1 < 85 := by rcases h with rfl | rfl | rfl | rfl <;> omega
theorem so_of {s : Nat} (h : s < 4) : so (77 + 2 * s) := by unfold so; omega
theorem so_arr {o : Nat} (h : so o) : xArr (o + 1) = some 40 := by rcases h with rfl | rfl | rfl | rfl <;> rfl
theorem cx_s {b o : Nat} (h : so o) (i f : Nat → Int32) (q : Nat) (t : Nat → Option Nat) : cellX b o i f q t = .inr (2, [.ref (b + (o + 1)), .int (i 1), .int (i 2)]) := by rcases h with rfl | rfl | rfl | rfl <;> rfl
theorem gR_S {b o : Nat} {S : XS} {μ : mS} (h : so o) : gR (memX b S μ) (b + o) 2 0 = some (b + (o + 1)) := by
  have h1 := so_lt h
  simp only [gR, gV, mx_get (k := o) (by omega), cx_s h, xO, Option.bind_some, if_pos]
  rfl
theorem gI_S {b o : Nat} {S : XS} {μ : mS} (h : so o) (k : Nat) (hk : k = 1 ∨ k = 2) : gI (memX b S μ) (b + o) 2 k = some (S.1 o k) := by
  have h1 := so_lt h
  simp only [gI, gV, mx_get (k := o) (by omega), cx_s h, xO, Option.bind_some, if_pos]
  rcases hk with rfl | rfl <;> rfl
theorem pI_S {b o : Nat} {S : XS} {μ : mS} {v : Int32} (h : so o) (k : Nat) (hk : k = 1 ∨ k = 2) : pI (memX b S μ) (b + o) 2 k v = some (memX b (sxI S o k v) μ) := by
  have h1 := so_lt h
  have e : ((memX b S μ).1, va_up (memX b S μ).2 (b + o) (some (.inr (2, [.ref (b + (o + 1)), .int (upd (S.1 o) k v 1), .int (upd (S.1 o) k v 2)])))) = memX b (sxI S o k v) μ := by
    refine mx_set (by omega) ?_ (fun j hj => ?_)
    · rw [cx_s h]
      simp [sxI, up_eq]
    · simp [sxI, up_ne _ _ hj]
  simp only [pI, pV, mx_get (k := o) (by omega), cx_s h, xO, Option.bind_some, if_pos]
  rw [← e]
  rcases hk with rfl | rfl <;> rfl
theorem isO_S {b o : Nat} {S : XS} {μ : mS} (h : so o) : isO (memX b S μ) (b + o) 2 = true := by
  have h1 := so_lt h
  simp only [isO, mx_get (k := o) (by omega), cx_s h, xO, Option.bind_some, if_pos]
  rfl
theorem aR_S {b : Nat} {S : XS} {μ : mS} {i : Int32} : aR (memX b S μ) (b + 6) 2 i = if i < 0 ∨ 4 ≤ i.toNatClampNeg then none else some (b + (77 + 2 * i.toNatClampNeg)) := by
  have e : cellX b 6 (S.1 6) (S.2.1 6) (S.2.2.1 6) S.2.2.2 = rArr 2 4 (shOf b) := rfl
  simp only [aR, mx_get (k := 6) (by omega), e, xR_r, Option.bind_some, shOf]
  split
  · rfl
  · rename_i h
    exact if_neg (fun q => h (Or.inr q))
theorem aR_B {b : Nat} {S : XS} {μ : mS} {i : Int32} : aR (memX b S μ) (b + 7) 3 i = if i < 0 ∨ 4 ≤ i.toNatClampNeg then none else bhOf b i.toNatClampNeg := by
  have e : cellX b 7 (S.1 7) (S.2.1 7) (S.2.2.1 7) S.2.2.2 = rArr 3 4 (bhOf b) := rfl
  simp only [aR, mx_get (k := 7) (by omega), e, xR_r, Option.bind_some]
theorem rL_B {b : Nat} {S : XS} {μ : mS} : rL (memX b S μ) (b + 7) 3 = some 4 := by
  have e : cellX b 7 (S.1 7) (S.2.1 7) (S.2.2.1 7) S.2.2.2 = rArr 3 4 (bhOf b) := rfl
  simp only [rL, mx_get (k := 7) (by omega), e, xR_r, Option.bind_some]
  rfl
theorem aR_X {b : Nat} {S : XS} {μ : mS} {i : Int32} : aR (memX b S μ) (b + 1) 1 i = if i < 0 ∨ 6 ≤ i.toNatClampNeg then none else S.2.2.2 i.toNatClampNeg := by
  have e : cellX b 1 (S.1 1) (S.2.1 1) (S.2.2.1 1) S.2.2.2 = rArr 1 6 S.2.2.2 := rfl
  simp only [aR, mx_get (k := 1) (by omega), e, xR_r, Option.bind_some]
theorem sR_X {b q : Nat} {S : XS} {μ : mS} {i : Int32} : sR (memX b S μ) (b + 1) 1 i q = if i < 0 ∨ 6 ≤ i.toNatClampNeg then none else some (memX b (sxT S (va_up S.2.2.2 i.toNatClampNeg (some q))) μ) := by
  have e : cellX b 1 (S.1 1) (S.2.1 1) (S.2.2.1 1) S.2.2.2 = rArr 1 6 S.2.2.2 := rfl
  have e2 : ((memX b S μ).1, va_up (memX b S μ).2 (b + 1) (some (rArr 1 6 (va_up S.2.2.2 i.toNatClampNeg (some q))))) = memX b (sxT S (va_up S.2.2.2 i.toNatClampNeg (some q))) μ := by
    refine mx_set (by omega) rfl (fun j hj => ?_)
    match j, hj with
    | 0, _ => rfl | 2, _ => rfl | 3, _ => rfl | 4, _ => rfl | 5, _ => rfl | 6, _ => rfl | 7, _ => rfl | 8, _ => rfl | 9, _ => rfl | 10, _ => rfl | n + 11, _ => rfl
  simp only [sR, mx_get (k := 1) (by omega), e, xR_r, Option.bind_some]
  rw [← e2]
  rfl
-- the reference
abbrev MS : Type := (Nat → Int32) × (Nat → Nat → Int32)
/-- the places of the reference's rows: by field -/
def mPos (k : Nat) : Nat := match k with
  | 1 => 1 | 2 => 2 | 3 => 3 | 4 => 4 | 5 => 5 | 6 => 6 | 9 => 7 | 11 => 8 | 12 => 9 | 16 => 10 | 17 => 11 | 18 => 12 | 19 => 13 | 20 => 14 | 21 => 15 | 26 => 16 | 27 => 17 | 31 => 18 | 32 => 19 | _ => 20
def mLen (k : Nat) : Nat := match k with
  | 1 => 6 | 2 => 6 | 3 => 18 | 4 => 24 | 5 => 10 | 6 => 6 | 7 => 160 | 8 => 1200 | 9 => 24 | 10 => 58 | 11 => 4 | 12 => 4 | 13 => 4 | 14 => 160 | 15 => 35 | 16 => 96 | 17 => 200 | 18 => 200 | 19 => 6 | _ => 44
def mObj (m : Nat) (i : Nat → Int32) : mE := .inr (5, [.int (i 0), .ref (m + 1), .ref (m + 2), .ref (m + 3), .ref (m + 4), .ref (m + 5), .ref (m + 6), .int (i 7), .int (i 8), .ref (m + 7), .int (i 10), .ref (m + 8), .ref (m + 9), .int (i 13), .int (i 14), .int (i 15), .ref (m + 10), .ref (m + 11), .ref (m + 12), .ref (m + 13), .ref (m + 14), .ref (m + 15), .int (i 22), .int (i 23), .int (i 24), .int (i 25), .ref (m + 16), .ref (m + 17), .int (i 28), .int (i 29), .int (i 30), .ref (m + 18), .ref (m + 19), .ref (m + 20), .int (i 34), .int (i 35), .int (i 36), .int (i 37)])
def cellM (m k : Nat) (O : MS) : mE := match k with
  | 0 => mObj m O.1
  | n + 1 => iArr (mLen (n + 1)) (O.2 (n + 1))
def memM (m : Nat) (O : MS) (μ : mS) : mS := (μ.1, fun a => if m ≤ a ∧ a < m + 21 then some (cellM m (a - m) O) else μ.2 a)
def smI (O : MS) (k : Nat) (v : Int32) : MS := (upd O.1 k v, O.2)
def smA (O : MS) (k : Nat) (g : Nat → Int32) : MS := (O.1, va_up O.2 k g)
theorem mm_get {m k : Nat} {O : MS} {μ : mS} (hk : k < 21) : (memM m O μ).2 (m + k) = some (cellM m k O) := by
  simp only [memM]
  rw [if_pos ⟨by omega, by omega⟩, Nat.add_sub_cancel_left]
theorem mm_get0 {m : Nat} {O : MS} {μ : mS} : (memM m O μ).2 m = some (mObj m O.1) := mm_get (m := m) (k := 0) (O := O) (μ := μ) (by omega)
theorem mm_out {m a : Nat} {O : MS} {μ : mS} (h : a < m ∨ m + 21 ≤ a) : (memM m O μ).2 a = μ.2 a := by
  simp only [memM]
  rw [if_neg (by omega)]
theorem mm_set {m k : Nat} {O O' : MS} {μ : mS} {e : mE} (hk : k < 21) (he : cellM m k O' = e) (ho : ∀ j, j ≠ k → cellM m j O' = cellM m j O) : ((memM m O μ).1, va_up (memM m O μ).2 (m + k) (some e)) = memM m O' μ := by
  refine Prod.ext rfl (funext fun a => ?_)
  show va_up _ _ _ a = _
  by_cases ha : a = m + k
  · subst ha
    rw [mm_get hk, he]
    simp [va_up]
  · simp only [va_up, if_neg ha, memM]
    by_cases hr : m ≤ a ∧ a < m + 21
    · rw [if_pos hr, if_pos hr, ho (a - m) (by omega)]
    · rw [if_neg hr, if_neg hr]
def mIsI (k : Nat) : Prop := k = 0 ∨ k = 7 ∨ k = 8 ∨ k = 10 ∨ k = 13 ∨ k = 14 ∨ k = 15 ∨ k = 22 ∨ k = 23 ∨ k = 24 ∨ k = 25 ∨ k = 28 ∨ k = 29 ∨ k = 30 ∨ k = 34 ∨ k = 35 ∨ k = 36 ∨ k = 37
def mIsR (k : Nat) : Prop := k = 1 ∨ k = 2 ∨ k = 3 ∨ k = 4 ∨ k = 5 ∨ k = 6 ∨ k = 9 ∨ k = 11 ∨ k = 12 ∨ k = 16 ∨ k = 17 ∨ k = 18 ∨ k = 19 ∨ k = 20 ∨ k = 21 ∨ k = 26 ∨ k = 27 ∨ k = 31 ∨ k = 32 ∨ k = 33
theorem gI_M {m : Nat} {O : MS} {μ : mS} (k : Nat) (hk : mIsI k) : gI (memM m O μ) m 5 k = some (O.1 k) := by
  simp only [gI, gV, mm_get0, mObj, xO, Option.bind_some, if_pos]
  rcases hk with rfl | rfl | rfl | rfl | rfl | rfl | rfl | rfl | rfl | rfl | rfl | rfl | rfl | rfl | rfl | rfl | rfl | rfl <;> rfl
theorem gR_M {m : Nat} {O : MS} {μ : mS} (k : Nat) (hk : mIsR k) : gR (memM m O μ) m 5 k = some (m + mPos k) := by
  simp only [gR, gV, mm_get0, mObj, xO, Option.bind_some, if_pos]
  rcases hk with rfl | rfl | rfl | rfl | rfl | rfl | rfl | rfl | rfl | rfl | rfl | rfl | rfl | rfl | rfl | rfl | rfl | rfl | rfl | rfl <;> rfl
theorem isO_M {m : Nat} {O : MS} {μ : mS} : isO (memM m O μ) m 5 = true := by
  simp only [isO, mm_get0, mObj, xO, Option.bind_some, if_pos]
  rfl
theorem pI_M {m : Nat} {O : MS} {μ : mS} {v : Int32} (k : Nat) (hk : mIsI k) : pI (memM m O μ) m 5 k v = some (memM m (smI O k v) μ) := by
  have e : ((memM m O μ).1, va_up (memM m O μ).2 (m + 0) (some (mObj m (upd O.1 k v)))) = memM m (smI O k v) μ := by
    refine mm_set (by omega) rfl (fun j hj => ?_)
    match j, hj with
    | n + 1, _ => rfl
  simp only [pI, pV, mm_get0, mObj, xO, Option.bind_some, if_pos]
  rw [← e]
  rcases hk with rfl | rfl | rfl | rfl | rfl | rfl | rfl | rfl | rfl | rfl | rfl | rfl | rfl | rfl | rfl | rfl | rfl | rfl <;> rfl
theorem aI_M {m : Nat} {O : MS} {μ : mS} {i : Int32} (k : Nat) (hk : k < 20) : aI (memM m O μ) (m + (k + 1)) i = if i < 0 ∨ mLen (k + 1) ≤ i.toNatClampNeg then none else some (O.2 (k + 1) i.toNatClampNeg) := by
  simp only [aI, mm_get (k := k + 1) (by omega), cellM, xI_i, Option.bind_some]
theorem sI_M {m : Nat} {O : MS} {μ : mS} {i v : Int32} (k : Nat) (hk : k < 20) : sI (memM m O μ) (m + (k + 1)) i v = if i < 0 ∨ mLen (k + 1) ≤ i.toNatClampNeg then none else some (memM m (smA O (k + 1) (upd (O.2 (k + 1)) i.toNatClampNeg v)) μ) := by
  have e : ((memM m O μ).1, va_up (memM m O μ).2 (m + (k + 1)) (some (iArr (mLen (k + 1)) (upd (O.2 (k + 1)) i.toNatClampNeg v)))) = memM m (smA O (k + 1) (upd (O.2 (k + 1)) i.toNatClampNeg v)) μ := by
    refine mm_set (by omega) (by simp [cellM, smA, up_eq]) (fun j hj => ?_)
    match j, hj with
    | 0, _ => rfl
    | n + 1, h => simp [cellM, smA, up_ne _ _ h]
  simp only [sI, mm_get (k := k + 1) (by omega), cellM, xI_i, Option.bind_some]
  rw [← e]
  rfl
/-- both memories lie apart: their order doesn't matter -/
theorem mem_comm {b m : Nat} {S : XS} {O : MS} {μ : mS} (h : b + 85 ≤ m) : memX b S (memM m O μ) = memM m O (memX b S μ) := by
  refine Prod.ext rfl (funext fun a => ?_)
  simp only [memX, memM]
  by_cases h1 : b ≤ a ∧ a < b + 85
  · rw [if_pos h1, if_neg (by omega), if_pos h1]
  · rw [if_neg h1, if_neg h1]
