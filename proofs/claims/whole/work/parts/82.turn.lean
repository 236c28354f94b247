/-! Lowest terms; mean; turn. -/
theorem lN_div {a d : Nat} (ha : a < 2 ^ 31) (h0 : 0 < d) (hd : d < 2 ^ 31) : lN a / lN d = lN (a / d) := by
  have h : a / d ≤ a := Nat.div_le_self a d
  refine Int64.toInt_inj.mp ?_
  rw [Jvm.Kit.i64_div (by rw [lN_toInt ha]; omega), lN_toInt ha, lN_toInt hd, lN_toInt (by omega), Int.tdiv_eq_ediv_of_nonneg (by omega)]
  rfl
theorem lN_rem {a d : Nat} (ha : a < 2 ^ 31) (h0 : 0 < d) (hd : d < 2 ^ 31) : lN a - lN a / lN d * lN d = lN (a % d) := by
  have h : a / d * d ≤ a := Nat.div_mul_le_self a d
  rw [lN_div ha h0 hd, lN_mul, lN_sub h]
  congr 1
  have := Nat.div_add_mod a d
  rw [Nat.mul_comm] at this
  omega
theorem gcd_x : ∀ c a i n, c < 2 ^ 20 → a < 2 ^ 20 → c + i < 64 → c < n → f_X5_commonDivisor_7 n (nI a) (nI c) (nI i) = some (nI (Nat.gcd a c)) := by
  intro c
  induction c using Nat.strongRecOn with
  | ind c ih =>
    intro a i n hc ha hi hn
    obtain ⟨n, rfl⟩ : ∃ z, n = z + 1 := ⟨n - 1, by omega⟩
    rw [f_X5_commonDivisor_7.eq_2, if_neg (show ¬ (64 : Int32) ≤ nI i from nI_ge (b := 64) (by omega) (by decide))]
    by_cases c0 : c = 0
    · subst c0
      rw [if_pos (show nI 0 = 0 from rfl), Nat.gcd_zero_right]
    · have hl : a % c < c := Nat.mod_lt _ (by omega)
      rw [if_neg (nI_ne0 (by omega) (by omega)), if_neg (nI_ne0 (by omega) (by omega))]
      simp only [vl]
      rw [pk_rem (by omega) (by omega) (by omega), nI_1, ih (a % c) hl c (i + 1) n (by omega) (by omega) (by omega) (by omega), Nat.gcd_comm c (a % c), ← Nat.gcd_rec, Nat.gcd_comm]
theorem gcd_m (x0 x2 : Int64) (x4 : Int32) : ∀ c a n, c < 2 ^ 20 → a < 2 ^ 20 → c < n → 0 < Nat.gcd a c → f_X6_lowest_17 n x0 x2 x4 (lN a) (lN c) = some ((if x4 = 0 then x0 else x2) / lN (Nat.gcd a c)) := by
  intro c
  induction c using Nat.strongRecOn with
  | ind c ih =>
    intro a n hc ha hn hg
    obtain ⟨n, rfl⟩ : ∃ z, n = z + 1 := ⟨n - 1, by omega⟩
    have z0 : (lN c = 0) ↔ c = 0 := lN_eq (b := 0) (by omega) (by omega)
    rw [f_X6_lowest_17.eq_2]
    by_cases c0 : c = 0
    · subst c0
      rw [if_pos ((lg_cmp_eq (lN 0) 0).mpr rfl)]
      simp only [vl]
      rw [Nat.gcd_zero_right] at hg ⊢
      rw [if_neg (fun z => by have := (lN_eq (a := a) (b := 0) (by omega) (by omega)).mp z; omega)]
    · have hl : a % c < c := Nat.mod_lt _ (by omega)
      have e : Nat.gcd c (a % c) = Nat.gcd a c := by rw [Nat.gcd_comm c (a % c), ← Nat.gcd_rec, Nat.gcd_comm]
      rw [if_neg (fun z => c0 (z0.mp ((lg_cmp_eq _ _).mp z))), if_neg (fun z => c0 (z0.mp z))]
      simp only [vl]
      rw [lN_rem (by omega) (by omega) (by omega), ih (a % c) hl c n (by omega) (by omega) (by omega) (by rw [e]; exact hg), e]
/-- a small number's absolute value -/
theorem abs_x {v : Int32} (h1 : -2000 ≤ v.toInt) (h2 : v.toInt ≤ 2000) : (if 0 ≤ v then v else 0 - v) = nI v.toInt.natAbs := by
  refine Int32.toInt_inj.mp ?_
  have e0 : ((0 : Int32)).toInt = 0 := by decide
  by_cases c : 0 ≤ v
  · have := Int32.le_iff_toInt_le.mp c
    rw [if_pos c, nI_toInt (by omega)]
    omega
  · have := Int32.lt_iff_toInt_lt.mp (Int32.not_le.mp c)
    rw [if_neg c, Int32.toInt_sub, nI_toInt (by omega), e0, Int.bmod_eq_of_le (by omega) (by omega)]
    omega
theorem abs_m {v : Int32} (h1 : -2000 ≤ v.toInt) (h2 : v.toInt ≤ 2000) : (if 0 ≤ lg_cmp v.toInt64 0 then v.toInt64 else -v.toInt64) = lN v.toInt.natAbs := by
  refine Int64.toInt_inj.mp ?_
  have e0 : ((0 : Int64)).toInt = 0 := by decide
  by_cases c : 0 ≤ lg_cmp v.toInt64 0
  · have c2 := (lg_cmp_ge _ _).mp c
    have := Int64.le_iff_toInt_le.mp c2
    rw [Int32.toInt_toInt64, e0] at this
    rw [if_pos c, lN_toInt (by omega), Int32.toInt_toInt64]
    omega
  · have c2 : ¬ (0 : Int64) ≤ v.toInt64 := fun z => c ((lg_cmp_ge _ _).mpr z)
    have := Int64.lt_iff_toInt_lt.mp (Int64.not_le.mp c2)
    rw [Int32.toInt_toInt64, e0] at this
    rw [if_neg c, Int64.toInt_neg, lN_toInt (by omega), Int32.toInt_toInt64, Int.bmod_eq_of_le (by omega) (by omega)]
    omega
theorem div_l {v : Int32} (h1 : -2000 ≤ v.toInt) (h2 : v.toInt ≤ 2000) {g : Nat} (hg0 : 0 < g) (hg : g < 2 ^ 20) : (v / nI g).toInt64 = v.toInt64 / lN g := by
  refine Int64.toInt_inj.mp ?_
  rw [Int32.toInt_toInt64, Jvm.Kit.i32_div (by omega), Jvm.Kit.i64_div (by rw [Int32.toInt_toInt64]; omega), Int32.toInt_toInt64, nI_toInt (by omega), lN_toInt (by omega)]
def lowV (v : Int32) (n : Nat) (part : Int32) : Int64 := (if part = 0 then v.toInt64 else lN n) / lN (Nat.gcd v.toInt.natAbs n)
theorem low_x {v : Int32} {n : Nat} (h1 : -2000 ≤ v.toInt) (h2 : v.toInt ≤ 2000) (hn0 : 0 < n) (hn : n ≤ 40) (part : Int32) : f_X5_lowest v (nI n) part = some (if f_X5_isBelow part 2 = 0 then -4611686018427387904 else lowV v n part) := by
  have hg0 : 0 < Nat.gcd v.toInt.natAbs n := Nat.gcd_pos_of_pos_right _ hn0
  have hgn : Nat.gcd v.toInt.natAbs n ≤ n := Nat.gcd_le_right _ hn0
  rw [f_X5_lowest.eq_1, f_X5_commonDivisor.eq_1, abs_x h1 h2, show f_X5_commonDivisor_7 fU (nI v.toInt.natAbs) (nI n) 0 = some (nI (Nat.gcd v.toInt.natAbs n)) from gcd_x n v.toInt.natAbs 0 fU (by omega) (by omega) (by omega) (fU_lt (by omega)), Option.bind_some]
  by_cases q : f_X5_isBelow part 2 = 0
  · rw [if_pos q, if_pos q]
  · rw [if_neg q, if_neg q, if_pos (show (0 : Int32) < nI (Nat.gcd v.toInt.natAbs n) from nI_lt (a := 0) hg0 (by omega))]
    simp only [vl]
    rw [if_neg (nI_ne0 hg0 (by omega)), lowV]
    by_cases c : part = 0
    · rw [if_pos c, if_pos c, div_l h1 h2 hg0 (by omega)]
    · rw [if_neg c, if_neg c, div_l (by rw [nI_toInt (by omega)]; omega) (by rw [nI_toInt (by omega)]; omega) hg0 (by omega), nI_l (by omega)]
theorem low_m {v : Int32} {n : Nat} (h1 : -2000 ≤ v.toInt) (h2 : v.toInt ≤ 2000) (hn0 : 0 < n) (hn : n ≤ 40) (part : Int32) : f_X6_lowest v.toInt64 (lN n) part = some (lowV v n part) := by
  have hg0 : 0 < Nat.gcd v.toInt.natAbs n := Nat.gcd_pos_of_pos_right _ hn0
  rw [f_X6_lowest.eq_1]
  simp only [vl]
  rw [abs_m h1 h2, gcd_m _ _ _ n v.toInt.natAbs fU (by omega) (by omega) (fU_lt (by omega)) hg0, lowV]
theorem vl_eq {α β : Type} (a : α) (k : α → β) : vl a k = k a := rfl
theorem bc_nil : bc 0 = nI 0 := by decide +kernel
section TU
variable {b m : Nat} {S : XS} {O O' : MS} {μ : mS} {Z : Zt} {g : Nat → Int32}
theorem wt_rng (hg : gZ Z) (s : Int32) : ∀ k : Nat, k ≤ 10 → -99 * (k : Int) ≤ (wtA (Z 0) s k).toInt ∧ (wtA (Z 0) s k).toInt ≤ 99 * (k : Int) := by
  intro k
  induction k with
  | zero =>
    intro _
    have e : wtA (Z 0) s 0 = 0 := rfl
    have e0 : ((0 : Int32)).toInt = 0 := by decide
    rw [e, e0]
    omega
  | succ k ih =>
    intro hk
    obtain ⟨i1, i2⟩ := ih (by omega)
    obtain ⟨w1, w2⟩ := hg.2.2.1 k (by omega)
    have a1 := Int32.le_iff_toInt_le.mp w1
    have a2 := Int32.le_iff_toInt_le.mp w2
    have e1 : ((-99 : Int32)).toInt = -99 := by decide
    have e2 : ((99 : Int32)).toInt = 99 := by decide
    have e0 : ((0 : Int32)).toInt = 0 := by decide
    rw [wtA, Int32.toInt_add]
    split
    · rw [Int.bmod_eq_of_le (by omega) (by omega)]; omega
    · rw [e0, Int.bmod_eq_of_le (by omega) (by omega)]; omega
theorem ver_rng (hg : gZ Z) (s : Int32) : -2000 ≤ (wtA (Z 0) s 10).toInt ∧ (wtA (Z 0) s 10).toInt ≤ 2000 := by
  obtain ⟨i1, i2⟩ := wt_rng hg s 10 (Nat.le_refl 10)
  omega
theorem k_mean (x1 : Int32) : CallR b m (f_X5_mean b x1) (f_X6_mean m x1) := by
  refine CallR.now fun S O μ Z g hz hg hh => ?_
  obtain ⟨n, hn, en⟩ := bc_of (set_ad hg)
  obtain ⟨s, hs, es⟩ := set_ad hg
  obtain ⟨r1, r2⟩ := ver_rng hg (Z 10 0)
  have e0 : f_J6_bitCount (Z 10 0) = nI n := en
  by_cases n0 : n = 0
  · have s0 : Z 10 0 = 0 := by
      have := (bc_rng s hs).2.2 (by rw [← es, en, n0]; rfl)
      rw [es, this]; rfl
    refine ⟨-4611686018427387904, ?_, fun μ1 => ?_⟩
    · rw [f_X5_mean.eq_1, h3, Option.bind_some, gA_A zo11, Option.bind_some, vl_eq, e0, if_pos (by rw [n0]; rfl)]
    · rw [f_X6_mean.eq_1, i_2]
      by_cases q : f_X5_isBelow x1 2 = 0
      · rw [if_pos q]
      · rw [if_neg q, mI_7, Option.bind_some, hz.ad, if_pos s0]
  · have s0 : ¬ Z 10 0 = 0 := by
      intro z
      apply n0
      rw [z] at en
      exact ((nI_eq (a := 0) (by omega) (by omega)).mp (bc_nil.symm.trans en)).symm
    refine ⟨if f_X5_isBelow x1 2 = 0 then -4611686018427387904 else lowV (wtA (Z 0) (Z 10 0) 10) n x1, ?_, fun μ1 => ?_⟩
    · rw [f_X5_mean.eq_1, h3, Option.bind_some, gA_A zo11, Option.bind_some, vl_eq, e0, if_neg (nI_ne0 (by omega) (by omega)), Option.bind_some, if_pos (isO_A zo11), x_verdict zo11, Option.bind_some, low_x r1 r2 (by omega) (by omega), Option.bind_some]
    · rw [f_X6_mean.eq_1, i_2]
      by_cases q : f_X5_isBelow x1 2 = 0
      · rw [if_pos q, if_pos q]
      · rw [if_neg q, if_neg q, mI_7, Option.bind_some, hz.ad, if_neg s0, Option.bind_some, if_pos isO_M, m_verdictOf hz, Option.bind_some, Option.bind_some, ones_bc (set_ad hg), Option.bind_some, en, nI_l (by omega), low_m r1 r2 (by omega) (by omega), Option.bind_some]
theorem ones_k {k : Nat} (hk : k < 1024) : f_X6_onesOf (nI k) = some (bc (nI k)) := ones_bc ⟨k, hk, rfl⟩
theorem turnL (hz : MZ O Z) (x1 x2 : Int32) (μ1 : mS) : ∀ d k n n2 best few, k + d = 1024 → 1 ≤ k → d < n → d < n2 → (best = -1 ↔ few = -1) → ∃ v, f_X5_turn_35 (AZ b 11 S μ Z g) n b x1 x2 best few (nI k) = some v ∧ f_X6_turn_37 (memM m O μ1) n2 m x1 x2 best few (nI k) = some v := by
  intro d
  induction d with
  | zero =>
    intro k n n2 best few hk h1 hn hn2 hb
    obtain ⟨n, rfl⟩ : ∃ z, n = z + 1 := ⟨n - 1, by omega⟩
    obtain ⟨n2, rfl⟩ : ∃ z, n2 = z + 1 := ⟨n2 - 1, by omega⟩
    have : k = 1024 := by omega
    subst this
    rw [f_X5_turn_35.eq_2, f_X6_turn_37.eq_2, if_pos (show (1023 : Int32) < nI 1024 by decide), if_pos (show (1023 : Int32) < nI 1024 by decide)]
    by_cases c : x1 = 0
    · exact ⟨best, if_pos c, if_pos c⟩
    · exact ⟨few, if_neg c, if_neg c⟩
  | succ d ih =>
    intro k n n2 best few hk h1 hn hn2 hb
    obtain ⟨n, rfl⟩ : ∃ z, n = z + 1 := ⟨n - 1, by omega⟩
    obtain ⟨n2, rfl⟩ : ∃ z, n2 = z + 1 := ⟨n2 - 1, by omega⟩
    have hb7 : ∃ c, c ≤ 10 ∧ bc (nI k) = nI c := bc_of ⟨k, by omega, rfl⟩
    obtain ⟨c7, hc7, ec7⟩ := hb7
    have hx : f_X5_turn_35 (AZ b 11 S μ Z g) (n + 1) b x1 x2 best few (nI k) = _ := f_X5_turn_35.eq_2 _ _ _ _ _ _ _ _
    have hm : f_X6_turn_37 (memM m O μ1) (n2 + 1) m x1 x2 best few (nI k) = _ := f_X6_turn_37.eq_2 _ _ _ _ _ _ _ _
    rw [if_neg (show ¬ (1023 : Int32) < nI k from nI_nlt (a := 1023) (by omega) (by decide))] at hx hm
    simp only [vl, h3, Option.bind_some, gA_A zo11, show f_J6_bitCount (nI k) = nI c7 from ec7, isO_A zo11, if_true, x_weightOf zo11] at hx
    simp only [mI_7, Option.bind_some, hz.ad] at hm
    have nb : ¬ nI k = -1 := neg1_ne (by omega)
    have nf : ¬ nI c7 = -1 := neg1_ne (by omega)
    rw [nI_1] at hx
    have next : ∀ best few, (best = -1 ↔ few = -1) → ∃ v, f_X5_turn_35 (AZ b 11 S μ Z g) n b x1 x2 best few (nI (k + 1)) = some v ∧ f_X6_turn_37 (memM m O μ1) n2 m x1 x2 best few (nI (k + 1)) = some v := fun best few h => ih (k + 1) n n2 best few (by omega) (by omega) (by omega) (by omega) h
    by_cases c : (nI k &&& Z 10 0) = 0
    · rw [if_pos c] at hx hm
      -- once it's fewer
      have try_ : f_X5_turn_35 (AZ b 11 S μ Z g) (n + 1) b x1 x2 best few (nI k) = f_X5_turn_35 (AZ b 11 S μ Z g) n b x1 x2 (if (if wtA (Z 0) (Z 10 0 ||| nI k) 10 ≤ 0 then (0 : Int32) else 1) = x2 then best else nI k) (if (if wtA (Z 0) (Z 10 0 ||| nI k) 10 ≤ 0 then (0 : Int32) else 1) = x2 then few else nI c7) (nI (k + 1)) → f_X6_turn_37 (memM m O μ1) (n2 + 1) m x1 x2 best few (nI k) = f_X6_turn_75 (memM m O μ1) (f_X6_turn_37 (memM m O μ1) n2) m x1 x2 best few (nI k) 1 → ∃ v, f_X5_turn_35 (AZ b 11 S μ Z g) (n + 1) b x1 x2 best few (nI k) = some v ∧ f_X6_turn_37 (memM m O μ1) (n2 + 1) m x1 x2 best few (nI k) = some v := by
        intro e1 e2
        rw [f_X6_turn_75.eq_1, if_neg (by decide), mI_7, Option.bind_some, hz.ad, if_pos isO_M, m_verdictOf hz, Option.bind_some] at e2
        simp only [vl] at e2
        rw [nI_1] at e2
        by_cases c3 : (if wtA (Z 0) (Z 10 0 ||| nI k) 10 ≤ 0 then (0 : Int32) else 1) = x2
        · rw [if_pos c3] at e2
          rw [if_pos c3, if_pos c3] at e1
          rw [e1, e2]
          exact next best few hb
        · rw [if_neg c3, ones_k (by omega), Option.bind_some, ec7] at e2
          rw [if_neg c3, if_neg c3] at e1
          rw [e1, e2]
          exact next (nI k) (nI c7) ⟨fun z => absurd z nb, fun z => absurd z nf⟩
      by_cases c2 : few = -1
      · rw [if_pos c2, if_neg (by decide)] at hx
        rw [if_pos (hb.mpr c2)] at hm
        exact try_ hx hm
      · rw [if_neg c2] at hx
        rw [if_neg (fun z => c2 (hb.mp z)), ones_k (by omega), Option.bind_some, ec7] at hm
        simp only [vl] at hm
        by_cases c4 : few ≤ nI c7
        · rw [if_pos c4, if_pos rfl] at hx
          rw [if_pos c4, f_X6_turn_75.eq_1, if_pos rfl] at hm
          simp only [vl] at hm
          rw [nI_1] at hm
          rw [hx, hm]
          exact next best few hb
        · rw [if_neg c4, if_neg (by decide)] at hx
          rw [if_neg c4] at hm
          exact try_ hx hm
    · rw [if_neg c, if_pos rfl] at hx
      rw [if_neg c] at hm
      simp only [vl] at hm
      rw [nI_1] at hm
      rw [hx, hm]
      exact next best few hb
theorem k_turn (x1 : Int32) : CallR b m (f_X5_turn b x1) (f_X6_turn m x1) := by
  refine CallR.now fun S O μ Z g hz hg hh => ?_
  by_cases q : f_X5_isBelow x1 2 = 0
  · exact ⟨-2, by rw [f_X5_turn.eq_1, if_pos q], fun μ1 => by rw [f_X6_turn.eq_1, i_2, if_pos q]⟩
  have x0 : ∀ μ1, ∃ v, f_X5_turn b x1 (AZ b 11 S (memM m O μ) Z g) = some v ∧ f_X6_turn m x1 (memM m O μ1) = some v := by
    intro μ1
    rw [f_X5_turn.eq_1, if_neg q, h3, Option.bind_some, if_pos (isO_A zo11), x_verdict zo11, Option.bind_some, f_X6_turn.eq_1, i_2, if_neg q, mI_7, Option.bind_some, if_pos isO_M, hz.ad, m_verdictOf hz, Option.bind_some, vl_eq, vl_eq]
    -- the empty set changes nothing
    have e : f_X6_turn_37 (memM m O μ1) fU m x1 (if wtA (Z 0) (Z 10 0) 10 ≤ 0 then (0 : Int32) else 1) (-1) (-1) 0 = f_X6_turn_37 (memM m O μ1) 4095 m x1 (if wtA (Z 0) (Z 10 0) 10 ≤ 0 then (0 : Int32) else 1) (-1) (-1) (nI 1) := by
      rw [show fU = 4095 + 1 from rfl, f_X6_turn_37.eq_2, if_neg (by decide), mI_7, Option.bind_some, hz.ad, if_pos (Int32.zero_and ..), if_pos rfl, f_X6_turn_75.eq_1, if_neg (by decide), mI_7, Option.bind_some, hz.ad, if_pos isO_M, show (Z 10 0 ||| 0) = Z 10 0 from Int32.or_zero .., m_verdictOf hz, Option.bind_some, vl_eq, if_pos rfl, vl_eq, show (0 : Int32) + 1 = nI 1 from rfl]
    rw [e]
    exact turnL (b := b) (S := S) (μ := memM m O μ) (g := g) hz x1 _ μ1 1023 1 fU 4095 (-1) (-1) (by omega) (by omega) (fU_lt (by omega)) (by omega) Iff.rfl
  obtain ⟨v, e1, _⟩ := x0 μ
  refine ⟨v, e1, fun μ1 => ?_⟩
  obtain ⟨v', e1', e2'⟩ := x0 μ1
  have : v' = v := Option.some.inj (e1'.symm.trans e1)
  rw [e2', this]
end TU
