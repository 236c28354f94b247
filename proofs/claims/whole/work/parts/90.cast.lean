/-! cast: the rows as a list, in the order of the search. -/
def rowsP {α : Type} (f : Nat → List α) : Nat → Nat → List α
  | 0, _ => []
  | m + 1, p => f p ++ rowsP f m (p + 1)
theorem rowsP_add {α : Type} (f : Nat → List α) : ∀ a c p, rowsP f (a + c) p = rowsP f a p ++ rowsP f c (p + a) := by
  intro a
  induction a with
  | zero => intro c p; rw [Nat.zero_add, rowsP]; rfl
  | succ a ih =>
    intro c p
    rw [show a + 1 + c = (a + c) + 1 by omega, rowsP, rowsP, ih, List.append_assoc, show p + 1 + a = p + (a + 1) by omega]
theorem rowsP_congr {α : Type} {f g : Nat → List α} : ∀ m p q, (∀ i, i < m → f (p + i) = g (q + i)) → rowsP f m p = rowsP g m q := by
  intro m
  induction m with
  | zero => intro p q _; rfl
  | succ m ih =>
    intro p q h
    rw [rowsP, rowsP, ih (p + 1) (q + 1) (fun i hi => by rw [show p + 1 + i = p + (i + 1) by omega, show q + 1 + i = q + (i + 1) by omega]; exact h (i + 1) (by omega)), show f p = g q from h 0 (by omega)]
theorem rowsP_nil {α : Type} {f : Nat → List α} : ∀ m p, (∀ i, i < m → f (p + i) = []) → rowsP f m p = [] := by
  intro m
  induction m with
  | zero => intro p _; rfl
  | succ m ih =>
    intro p h
    rw [rowsP, ih (p + 1) (fun i hi => by rw [show p + 1 + i = p + (i + 1) by omega]; exact h (i + 1) (by omega)), show f p = [] from h 0 (by omega)]
    rfl
def usedB (u : Int32) (p : Nat) : Int32 := (u >>> (nI p &&& 31)) &&& 1
def useB (u : Int32) (p : Nat) : Int32 := u ||| ((1 : Int32) <<< (nI p &&& 31))
def okR (w : Nat) (u : Int32) (W : Zt) (p : Nat) : Bool := decide (p < w) && decide (usedB u p = 0) && !decide (clS W p = 0)
def stR (L : Lw) (W : Zt) (p : Nat) : Zt := hZ L (lfS L W p).2
def dgR (g : Int32) (p : Nat) : Int32 := 10 * g + nI p + 1
def rowsD (L : Lw) (w : Nat) : Nat → Int32 → Int32 → Zt → List (Int32 × Zt)
  | 0, _, g, W => [(g, W)]
  | d + 1, u, g, W => (g, W) :: rowsP (fun p => if okR w u W p = true then rowsD L w d (useB u p) (dgR g p) (stR L W p) else []) 6 0
/-- one number's digits -/
def cbS (L : Lw) (w : Nat) : Nat → Nat → Int32 → Int32 → Zt → Bool → Option (Int32 × Zt)
  | 0, _, _, g, W, _ => some (g, W)
  | d + 1, n, u, g, W, e => if n / 7 ^ d = 0 then cbS L w d (n % 7 ^ d) u g W true else if e = true then none else if okR w u W (n / 7 ^ d - 1) = true then cbS L w d (n % 7 ^ d) (useB u (n / 7 ^ d - 1)) (dgR g (n / 7 ^ d - 1)) (stR L W (n / 7 ^ d - 1)) false else none
theorem cb_end (L : Lw) (w : Nat) : ∀ d u g W n, n < 7 ^ d → cbS L w d n u g W true = if n = 0 then some (g, W) else none := by
  intro d
  induction d with
  | zero => intro u g W n h; rw [cbS, if_pos (by omega)]
  | succ d ih =>
    intro u g W n h
    have h7 : 0 < 7 ^ d := Nat.pow_pos (by omega)
    rw [cbS]
    by_cases c : n / 7 ^ d = 0
    · have hn : n < 7 ^ d := by
        rcases Nat.lt_or_ge n (7 ^ d) with z | z
        · exact z
        · have := Nat.div_pos z h7; omega
      rw [if_pos c, Nat.mod_eq_of_lt hn]
      exact ih u g W n hn
    · rw [if_neg c, if_pos rfl, if_neg]
      intro z
      apply c
      rw [z, Nat.zero_div]
theorem blk_end (L : Lw) (w d : Nat) (u g : Int32) (W : Zt) : rowsP (fun n => (cbS L w d n u g W true).toList) (7 ^ d) 0 = [(g, W)] := by
  have h7 : 0 < 7 ^ d := Nat.pow_pos (by omega)
  obtain ⟨m, hm⟩ : ∃ m, 7 ^ d = m + 1 := ⟨7 ^ d - 1, by omega⟩
  rw [hm, rowsP, rowsP_nil, cb_end L w d u g W 0 h7, if_pos rfl]
  · rfl
  · intro i hi
    rw [cb_end L w d u g W (0 + 1 + i) (by omega), if_neg (by omega)]
    rfl
theorem blk (L : Lw) (w : Nat) : ∀ d u g W, rowsP (fun n => (cbS L w d n u g W false).toList) (7 ^ d) 0 = rowsD L w d u g W := by
  intro d
  induction d with
  | zero => intro u g W; rfl
  | succ d ih =>
    intro u g W
    have h7 : 0 < 7 ^ d := Nat.pow_pos (by omega)
    have dig : ∀ c i, i < 7 ^ d → (c * 7 ^ d + i) / 7 ^ d = c ∧ (c * 7 ^ d + i) % 7 ^ d = i := fun c i hi => by
      refine ⟨?_, ?_⟩
      · rw [Nat.mul_comm, Nat.mul_add_div h7, Nat.div_eq_of_lt hi, Nat.add_zero]
      · rw [Nat.mul_comm, Nat.mul_add_mod, Nat.mod_eq_of_lt hi]
    have b0 : rowsP (fun n => (cbS L w (d + 1) n u g W false).toList) (7 ^ d) 0 = [(g, W)] := by
      rw [← blk_end L w d u g W]
      refine rowsP_congr _ _ _ fun i hi => ?_
      obtain ⟨q1, q2⟩ := dig 0 i hi
      rw [Nat.zero_mul] at q1 q2
      rw [cbS, q1, q2, if_pos rfl, Nat.zero_add]
    have bp : ∀ p, rowsP (fun n => (cbS L w (d + 1) n u g W false).toList) (7 ^ d) ((p + 1) * 7 ^ d) = if okR w u W p = true then rowsD L w d (useB u p) (dgR g p) (stR L W p) else [] := fun p => by
      by_cases c : okR w u W p = true
      · rw [if_pos c, ← ih]
        refine rowsP_congr _ _ _ fun i hi => ?_
        obtain ⟨q1, q2⟩ := dig (p + 1) i hi
        rw [cbS, q1, q2, if_neg (by omega), if_neg (by decide), Nat.add_sub_cancel, if_pos c, Nat.zero_add]
      · rw [if_neg c]
        refine rowsP_nil _ _ fun i hi => ?_
        obtain ⟨q1, q2⟩ := dig (p + 1) i hi
        rw [cbS, q1, q2, if_neg (by omega), if_neg (by decide), Nat.add_sub_cancel, if_neg c]
        rfl
    have sum : ∀ m p, rowsP (fun n => (cbS L w (d + 1) n u g W false).toList) (m * 7 ^ d) ((p + 1) * 7 ^ d) = rowsP (fun p => if okR w u W p = true then rowsD L w d (useB u p) (dgR g p) (stR L W p) else []) m p := by
      intro m
      induction m with
      | zero => intro p; rw [Nat.zero_mul]; rfl
      | succ m ihm =>
        intro p
        rw [show (m + 1) * 7 ^ d = 7 ^ d + m * 7 ^ d by rw [Nat.succ_mul, Nat.add_comm], rowsP_add, bp, show (p + 1) * 7 ^ d + 7 ^ d = (p + 1 + 1) * 7 ^ d by rw [Nat.succ_mul (p + 1)], ihm, rowsP]
    rw [show (7 : Nat) ^ (d + 1) = 7 ^ d + 6 * 7 ^ d by rw [Nat.pow_succ]; omega, rowsP_add, b0, Nat.zero_add, show (7 : Nat) ^ d = (0 + 1) * 7 ^ d by omega, show 6 * ((0 + 1) * 7 ^ d) = 6 * 7 ^ d by omega, sum 6 0, rowsD]
    rfl
def vaR (L : Lw) (W : Zt) : Int32 := wtA (hN L W 12 0) (hN L W 12 10 0) 10
def beR (L : Lw) (a : Int32 × Int32) (x : Int32 × Zt) : Int32 × Int32 := if vaR L x.2 ≤ a.2 then a else (x.1, vaR L x.2)
/-- the rows of like states give like numbers -/
theorem zEq.va {Z Y : Zt} {L : Lw} (h : zEq Z Y) (hg : gZ Z) : vaR L Z = vaR L Y := (h.cN hg 12).ver
