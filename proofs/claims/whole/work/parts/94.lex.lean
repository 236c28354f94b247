/-! text: a token. -/
abbrev TS : Type := Int32 × Int32 × Nat × Nat
def wl (j : Nat) : Nat := ([5, 5, 5, 3, 2, 3, 4, 5, 4, 5, 8, 4] : List Nat).getD j 0
def wst (j : Nat) : Nat := ([0, 6, 12, 18, 22, 25, 29, 34, 40, 45, 51, 60, 65] : List Nat).getD j 0
def wc (j i : Nat) : Int32 := ([108, 111, 111, 107, 115, 32, 119, 97, 105, 116, 115, 32, 100, 114, 111, 112, 115, 32, 97, 110, 100, 32, 111, 114, 32, 110, 111, 116, 32, 102, 97, 99, 101, 32, 107, 110, 111, 119, 110, 32, 104, 111, 117, 114, 32, 108, 121, 105, 110, 103, 32, 97, 100, 109, 105, 116, 116, 101, 100, 32, 109, 111, 114, 101, 32] : List Int32).getD (wst j + i) 0
theorem cA_1 : ∀ k, k < 65 → f_J0_charAt_k1 (nI k) = some (([108, 111, 111, 107, 115, 32, 119, 97, 105, 116, 115, 32, 100, 114, 111, 112, 115, 32, 97, 110, 100, 32, 111, 114, 32, 110, 111, 116, 32, 102, 97, 99, 101, 32, 107, 110, 111, 119, 110, 32, 104, 111, 117, 114, 32, 108, 121, 105, 110, 103, 32, 97, 100, 109, 105, 116, 116, 101, 100, 32, 109, 111, 114, 101, 32] : List Int32).getD k 0) := by decide +kernel
def sgB (x : Int32) : Bool := x == 40 || x == 41 || x == 59 || x == 43 || x == 45 || x == 42 || x == 60 || x == 61
theorem idx_0 : ∀ k, k < 256 → f_J0_indexOf_k0 ((((nI k).toUInt32 % 65536).toInt32)) = some (match f_J0_indexOf_k0 ((((nI k).toUInt32 % 65536).toInt32)) with | some x => x | none => 0) ∧ (decide ((match f_J0_indexOf_k0 ((((nI k).toUInt32 % 65536).toInt32)) with | some x => x | none => 0) < 0)) = !(sgB (nI k)) := by decide +kernel
def uptoF (P : Int32 → Bool) (f : Nat → Int32) (n : Nat) : Nat → Nat → Nat
  | 0, p => p
  | k + 1, p => if n ≤ p then p else if P (f p) = true then uptoF P f n k (p + 1) else p
def upto (P : Int32 → Bool) (f : Nat → Int32) (n p : Nat) : Nat := uptoF P f n (n - p) p
theorem upto_ge {P : Int32 → Bool} {f : Nat → Int32} {n p : Nat} (h : n ≤ p) : upto P f n p = p := by
  rw [upto, Nat.sub_eq_zero_of_le h, uptoF]
theorem upto_no {P : Int32 → Bool} {f : Nat → Int32} {n p : Nat} (h : ¬ P (f p) = true) : upto P f n p = p := by
  rcases Nat.lt_or_ge p n with q | q
  · rw [upto, show n - p = (n - (p + 1)) + 1 by omega, uptoF, if_neg h]
    split <;> rfl
  · exact upto_ge q
theorem upto_go {P : Int32 → Bool} {f : Nat → Int32} {n p : Nat} (q : p < n) (h : P (f p) = true) : upto P f n p = upto P f n (p + 1) := by
  rw [upto, show n - p = (n - (p + 1)) + 1 by omega, uptoF, if_neg (by omega), if_pos h]
  rfl
theorem upto_le {P : Int32 → Bool} {f : Nat → Int32} {n : Nat} : ∀ d p, p + d = n → p ≤ upto P f n p ∧ upto P f n p ≤ n := by
  intro d
  induction d with
  | zero => intro p h; rw [upto_ge (by omega)]; omega
  | succ d ih =>
    intro p h
    by_cases c : P (f p) = true
    · rw [upto_go (by omega) c]
      have := ih (p + 1) (by omega)
      omega
    · rw [upto_no c]; omega
theorem upto_mem {P : Int32 → Bool} {f : Nat → Int32} {n : Nat} : ∀ d p, p + d = n → ∀ i, p ≤ i → i < upto P f n p → P (f i) = true := by
  intro d
  induction d with
  | zero => intro p h i h1 h2; rw [upto_ge (by omega)] at h2; omega
  | succ d ih =>
    intro p h i h1 h2
    by_cases c : P (f p) = true
    · rw [upto_go (by omega) c] at h2
      rcases Nat.eq_or_lt_of_le h1 with e | e
      · rw [← e]; exact c
      · exact ih (p + 1) (by omega) i e h2
    · rw [upto_no c] at h2; omega
theorem upto_end {P : Int32 → Bool} {f : Nat → Int32} {n : Nat} : ∀ d p, p + d = n → upto P f n p < n → ¬ P (f (upto P f n p)) = true := by
  intro d
  induction d with
  | zero => intro p h h2; rw [upto_ge (by omega)] at h2; omega
  | succ d ih =>
    intro p h h2
    by_cases c : P (f p) = true
    · rw [upto_go (by omega) c] at h2 ⊢
      exact ih (p + 1) (by omega) h2
    · rw [upto_no c]; exact c
def blB (x : Int32) : Bool := decide (x = 32) || decide (x = 10)
def ltB (x : Int32) : Bool := decide (97 ≤ x) && decide (x ≤ 122)
def dgB (x : Int32) : Bool := decide (48 ≤ x) && decide (x ≤ 57)
/-- the number of the digits from p on -/
def nmV (f : Nat → Int32) (p : Nat) : Nat → Int32
  | 0 => 0
  | k + 1 => (nmV f p k * 10 + f (p + k)) - 48
def wm (f : Nat → Int32) (p len j : Nat) : Bool := decide (len = wl j) && (List.range len).all fun i => f (p + i) == wc j i
def wdF (f : Nat → Int32) (p len : Nat) : Nat → Nat → Nat
  | 0, _ => 12
  | k + 1, j => if wm f p len j = true then j else wdF f p len k (j + 1)
def wdI (f : Nat → Int32) (p len : Nat) : Nat := wdF f p len 12 0
def lxW (f : Nat → Int32) (s e : Nat) : TS := if wdI f s (e - s) = 12 then (1, 0, s, e) else if 6 ≤ wdI f s (e - s) then (3, -1 - nI (wdI f s (e - s) - 6), s, e) else (nI (4 + wdI f s (e - s)), 0, s, e)
def lxN (f : Nat → Int32) (s e : Nat) : TS := if e - s ≤ 4 then (2, nmV f s (e - s), s, e) else (1, 0, s, e)
def lxA (f : Nat → Int32) (n s : Nat) : TS := if n ≤ s then (0, 0, s, s) else if ltB (f s) = true then lxW f s (upto ltB f n s) else if dgB (f s) = true then lxN f s (upto dgB f n s) else (if sgB (f s) = true then f s else 1, 0, s, s + 1)
def lx (f : Nat → Int32) (n p : Nat) : TS := lxA f n (upto blB f n p)
theorem lt_is (x : Int32) : f_X4_isLetter x = 0 ↔ ¬ ltB x = true := by
  rw [f_X4_isLetter, ltB]
  simp only [Bool.and_eq_true, decide_eq_true_eq]
  split
  · rename_i h
    constructor
    · intro _ q; exact absurd h (Int32.not_lt.mpr q.1)
    · intro _; rfl
  · rename_i h
    split
    · rename_i h2
      constructor
      · intro _ q; exact absurd h2 (Int32.not_lt.mpr q.2)
      · intro _; rfl
    · rename_i h2
      constructor
      · intro q; exact absurd q (by decide)
      · intro q; exact absurd ⟨Int32.not_lt.mp h, Int32.not_lt.mp h2⟩ q
theorem dg_is (x : Int32) : f_X4_isDigit x = 0 ↔ ¬ dgB x = true := by
  rw [f_X4_isDigit, dgB]
  simp only [Bool.and_eq_true, decide_eq_true_eq]
  split
  · rename_i h
    constructor
    · intro _ q; exact absurd h (Int32.not_lt.mpr q.1)
    · intro _; rfl
  · rename_i h
    split
    · rename_i h2
      constructor
      · intro _ q; exact absurd h2 (Int32.not_lt.mpr q.2)
      · intro _; rfl
    · rename_i h2
      constructor
      · intro q; exact absurd q (by decide)
      · intro q; exact absurd ⟨Int32.not_lt.mp h, Int32.not_lt.mp h2⟩ q
theorem lt_m (x : Int32) : f_X6_in x 97 122 = 0 ↔ ¬ ltB x = true := by
  rw [ltB]
  simp only [Bool.and_eq_true, decide_eq_true_eq]
  by_cases h : x < 97 <;> by_cases h2 : 122 < x <;> simp [f_X6_in, h, h2, Int32.not_lt]
theorem dg_m (x : Int32) : f_X6_in x 48 57 = 0 ↔ ¬ dgB x = true := by
  rw [dgB]
  simp only [Bool.and_eq_true, decide_eq_true_eq]
  by_cases h : x < 48 <;> by_cases h2 : 57 < x <;> simp [f_X6_in, h, h2, Int32.not_lt]
