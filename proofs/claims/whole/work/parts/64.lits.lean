/-! Bounds told by literals: both sides' tests. -/
theorem in_bel {x : Int32} {w : Nat} (hw : w < 2 ^ 31) : f_X6_in x 0 (nI w - 1) = f_X5_isBelow x (nI w) := by
  rw [f_X6_in.eq_1, f_X5_isBelow.eq_1]
  by_cases h0 : x < 0
  · rw [if_pos h0, if_pos h0]
  · rw [if_neg h0, if_neg h0]
    obtain ⟨k, hk, rfl⟩ := nI_of h0
    by_cases c : w = 0
    · subst c
      rw [if_pos (show nI 0 ≤ nI k from nI_le (Nat.zero_le k) hk), if_pos]
      rw [Int32.lt_iff_toInt_lt, nI_toInt hk]
      have : (nI 0 - 1 : Int32).toInt = -1 := by decide
      omega
    · obtain ⟨w, rfl⟩ : ∃ q, w = q + 1 := ⟨w - 1, by omega⟩
      rw [nI_pred]
      by_cases c2 : w < k
      · rw [if_pos (nI_lt c2 hk), if_pos (nI_le (by omega) hk)]
      · rw [if_neg (nI_nlt (by omega) (by omega)), if_neg (nI_ge (by omega) (by omega))]
theorem bel_01 (x y : Int32) : f_X5_isBelow x y = 0 ∨ f_X5_isBelow x y = 1 := by
  rw [f_X5_isBelow.eq_1]
  split
  · exact Or.inl rfl
  · split
    · exact Or.inl rfl
    · exact Or.inr rfl
theorem bel_k {x : Int32} {w : Nat} (hw : w < 2 ^ 31) (h : ¬ f_X5_isBelow x (nI w) = 0) : ∃ k, k < w ∧ x = nI k := by
  rw [f_X5_isBelow.eq_1] at h
  by_cases h0 : x < 0
  · rw [if_pos h0] at h
    exact absurd rfl h
  · rw [if_neg h0] at h
    obtain ⟨k, hk, rfl⟩ := nI_of h0
    by_cases c : w ≤ k
    · rw [if_pos (nI_le c hk)] at h
      exact absurd rfl h
    · exact ⟨k, by omega, rfl⟩
theorem bel_y {k w : Nat} (hw : w < 2 ^ 31) (h : k < w) : f_X5_isBelow (nI k) (nI w) = 1 := by
  rw [f_X5_isBelow.eq_1, if_neg (nI_pos (by omega)), if_neg (nI_ge h hw)]
theorem i_2 (x : Int32) : f_X6_in x (0 : Int32) (1 : Int32) = f_X5_isBelow x (2 : Int32) := in_bel (w := 2) (by decide)
theorem b_2 (x : Int32) (h : ¬ f_X5_isBelow x (2 : Int32) = 0) : ∃ k, k < 2 ∧ x = nI k := bel_k (w := 2) (by decide) h
theorem i_3 (x : Int32) : f_X6_in x (0 : Int32) (2 : Int32) = f_X5_isBelow x (3 : Int32) := in_bel (w := 3) (by decide)
theorem b_3 (x : Int32) (h : ¬ f_X5_isBelow x (3 : Int32) = 0) : ∃ k, k < 3 ∧ x = nI k := bel_k (w := 3) (by decide) h
theorem i_4 (x : Int32) : f_X6_in x (0 : Int32) (3 : Int32) = f_X5_isBelow x (4 : Int32) := in_bel (w := 4) (by decide)
theorem b_4 (x : Int32) (h : ¬ f_X5_isBelow x (4 : Int32) = 0) : ∃ k, k < 4 ∧ x = nI k := bel_k (w := 4) (by decide) h
theorem i_5 (x : Int32) : f_X6_in x (0 : Int32) (4 : Int32) = f_X5_isBelow x (5 : Int32) := in_bel (w := 5) (by decide)
theorem b_5 (x : Int32) (h : ¬ f_X5_isBelow x (5 : Int32) = 0) : ∃ k, k < 5 ∧ x = nI k := bel_k (w := 5) (by decide) h
theorem i_6 (x : Int32) : f_X6_in x (0 : Int32) (5 : Int32) = f_X5_isBelow x (6 : Int32) := in_bel (w := 6) (by decide)
theorem b_6 (x : Int32) (h : ¬ f_X5_isBelow x (6 : Int32) = 0) : ∃ k, k < 6 ∧ x = nI k := bel_k (w := 6) (by decide) h
theorem i_7 (x : Int32) : f_X6_in x (0 : Int32) (6 : Int32) = f_X5_isBelow x (7 : Int32) := in_bel (w := 7) (by decide)
theorem b_7 (x : Int32) (h : ¬ f_X5_isBelow x (7 : Int32) = 0) : ∃ k, k < 7 ∧ x = nI k := bel_k (w := 7) (by decide) h
theorem i_8 (x : Int32) : f_X6_in x (0 : Int32) (7 : Int32) = f_X5_isBelow x (8 : Int32) := in_bel (w := 8) (by decide)
theorem b_8 (x : Int32) (h : ¬ f_X5_isBelow x (8 : Int32) = 0) : ∃ k, k < 8 ∧ x = nI k := bel_k (w := 8) (by decide) h
theorem i_10 (x : Int32) : f_X6_in x (0 : Int32) (9 : Int32) = f_X5_isBelow x (10 : Int32) := in_bel (w := 10) (by decide)
theorem b_10 (x : Int32) (h : ¬ f_X5_isBelow x (10 : Int32) = 0) : ∃ k, k < 10 ∧ x = nI k := bel_k (w := 10) (by decide) h
theorem i_11 (x : Int32) : f_X6_in x (0 : Int32) (10 : Int32) = f_X5_isBelow x (11 : Int32) := in_bel (w := 11) (by decide)
theorem b_11 (x : Int32) (h : ¬ f_X5_isBelow x (11 : Int32) = 0) : ∃ k, k < 11 ∧ x = nI k := bel_k (w := 11) (by decide) h
theorem i_14 (x : Int32) : f_X6_in x (0 : Int32) (13 : Int32) = f_X5_isBelow x (14 : Int32) := in_bel (w := 14) (by decide)
theorem b_14 (x : Int32) (h : ¬ f_X5_isBelow x (14 : Int32) = 0) : ∃ k, k < 14 ∧ x = nI k := bel_k (w := 14) (by decide) h
theorem i_21 (x : Int32) : f_X6_in x (0 : Int32) (20 : Int32) = f_X5_isBelow x (21 : Int32) := in_bel (w := 21) (by decide)
theorem b_21 (x : Int32) (h : ¬ f_X5_isBelow x (21 : Int32) = 0) : ∃ k, k < 21 ∧ x = nI k := bel_k (w := 21) (by decide) h
theorem i_41 (x : Int32) : f_X6_in x (0 : Int32) (40 : Int32) = f_X5_isBelow x (41 : Int32) := in_bel (w := 41) (by decide)
theorem b_41 (x : Int32) (h : ¬ f_X5_isBelow x (41 : Int32) = 0) : ∃ k, k < 41 ∧ x = nI k := bel_k (w := 41) (by decide) h
theorem i_60 (x : Int32) : f_X6_in x (0 : Int32) (59 : Int32) = f_X5_isBelow x (60 : Int32) := in_bel (w := 60) (by decide)
theorem b_60 (x : Int32) (h : ¬ f_X5_isBelow x (60 : Int32) = 0) : ∃ k, k < 60 ∧ x = nI k := bel_k (w := 60) (by decide) h
theorem i_100 (x : Int32) : f_X6_in x (0 : Int32) (99 : Int32) = f_X5_isBelow x (100 : Int32) := in_bel (w := 100) (by decide)
theorem b_100 (x : Int32) (h : ¬ f_X5_isBelow x (100 : Int32) = 0) : ∃ k, k < 100 ∧ x = nI k := bel_k (w := 100) (by decide) h
theorem i_256 (x : Int32) : f_X6_in x (0 : Int32) (255 : Int32) = f_X5_isBelow x (256 : Int32) := in_bel (w := 256) (by decide)
theorem b_256 (x : Int32) (h : ¬ f_X5_isBelow x (256 : Int32) = 0) : ∃ k, k < 256 ∧ x = nI k := bel_k (w := 256) (by decide) h
theorem i_1000 (x : Int32) : f_X6_in x (0 : Int32) (999 : Int32) = f_X5_isBelow x (1000 : Int32) := in_bel (w := 1000) (by decide)
theorem b_1000 (x : Int32) (h : ¬ f_X5_isBelow x (1000 : Int32) = 0) : ∃ k, k < 1000 ∧ x = nI k := bel_k (w := 1000) (by decide) h
theorem i_1024 (x : Int32) : f_X6_in x (0 : Int32) (1023 : Int32) = f_X5_isBelow x (1024 : Int32) := in_bel (w := 1024) (by decide)
theorem b_1024 (x : Int32) (h : ¬ f_X5_isBelow x (1024 : Int32) = 0) : ∃ k, k < 1024 ∧ x = nI k := bel_k (w := 1024) (by decide) h
theorem i_100000 (x : Int32) : f_X6_in x (0 : Int32) (99999 : Int32) = f_X5_isBelow x (100000 : Int32) := in_bel (w := 100000) (by decide)
theorem b_100000 (x : Int32) (h : ¬ f_X5_isBelow x (100000 : Int32) = 0) : ∃ k, k < 100000 ∧ x = nI k := bel_k (w := 100000) (by decide) h
/-- sort of a sheet, missing counted -/
theorem i_m (x : Int32) (n : Int32) : f_X6_in x (-1) n = if x < -1 then 0 else if n < x then 0 else 1 := rfl
