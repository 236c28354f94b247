/-! linen, hour, burn, drop, witness, count, force. -/
section CC
variable {b m : Nat} {S : XS} {O : MS} {μ : mS} {Z : Zt} {g : Nat → Int32} {L : Lw}
def liS (Z : Zt) (x : Int32) : Int32 := if f_X5_isBelow x 8 = 0 then 0 else if Z 7 x.toNatClampNeg = -1 then 0 else 1
theorem x_li {o : Nat} (h : zo o) (x : Int32) : f_X0_lies (b + o) x (AZ b o S μ Z g) = some (liS Z x) := by
  rw [f_X0_lies.eq_1, liS]
  by_cases q : f_X5_isBelow x 8 = 0
  · rw [if_pos q, if_pos q]
  · rw [if_neg q, if_neg q]
    obtain ⟨k, hk, rfl⟩ := b_8 x q
    rw [gR_A h 7 (by decide), Option.bind_some, aI_in h 7 (by decide) k hk, Option.bind_some, nI_clamp (by omega)]
    split <;> rfl
theorem m_li (hz : MZ O Z) (x : Int32) : f_X6_isLinen m x (memM m O μ) = some (liS Z x) := by
  rw [liS]
  by_cases q : f_X5_isBelow x 8 = 0
  · rw [if_pos q, f_X6_isLinen.eq_1, i_8, if_pos q]
  · rw [if_neg q]
    obtain ⟨k, hk, rfl⟩ := b_8 x q
    rw [m_isLinen hz hk, nI_clamp (by omega)]
theorem li_k {x : Int32} (h : ¬ liS Z x = 0) : ∃ k, k < 8 ∧ x = nI k ∧ Z 7 k ≠ -1 := by
  rw [liS] at h
  by_cases q : f_X5_isBelow x 8 = 0
  · rw [if_pos q] at h; exact absurd rfl h
  · rw [if_neg q] at h
    obtain ⟨k, hk, rfl⟩ := b_8 x q
    rw [nI_clamp (by omega)] at h
    refine ⟨k, hk, rfl, fun c => ?_⟩
    rw [if_pos c] at h
    exact h rfl
theorem li_y {k : Nat} (hk : k < 8) : liS Z (nI k) = if Z 7 k = -1 then 0 else 1 := by
  rw [liS, if_neg (by rw [show f_X5_isBelow (nI k) 8 = 1 from bel_y (w := 8) (by decide) hk]; decide), nI_clamp (by omega)]
theorem k_linen (x1 x2 : Int32) : CallR b m (f_X5_linen b x1 x2) (f_X6_linen m x1 x2) := by
  refine CallR.now fun S O μ Z g hz hg hh => ?_
  by_cases q : liS Z x1 = 0
  · refine ⟨-6, ?_, fun μ1 => ?_⟩
    · simp only [f_X5_linen.eq_1, h3, Option.bind_some, isO_A zo11, x_li zo11, q, if_true]
    · simp only [f_X6_linen.eq_1, isO_M, m_li hz, Option.bind_some, q, if_true]
  obtain ⟨k, hk, rfl, hn⟩ := li_k q
  have hx : f_X5_linen b (nI k) x2 (AZ b 11 S (memM m O μ) Z g) = _ := f_X5_linen.eq_1 _ _ _ _
  have hm : ∀ μ1, f_X6_linen m (nI k) x2 (memM m O μ1) = _ := fun μ1 => f_X6_linen.eq_1 _ _ _ _
  simp only [h3, Option.bind_some, isO_A zo11, x_li zo11, q, if_true, if_false] at hx
  simp only [isO_M, m_li hz, Option.bind_some, q, if_true, if_false, mR_4, three, i_3] at hm
  by_cases c0 : x2 = 0
  · subst c0
    rw [if_pos rfl, gR_A zo11 7 (by decide), Option.bind_some, aI_in zo11 7 (by decide) k hk, Option.bind_some] at hx
    refine ⟨Z 7 k, hx, fun μ1 => (hm μ1).trans ?_⟩
    rw [if_neg (by decide), show (nI (3 * k) + 0 : Int32) = nI (3 * k) from nI_add _ 0, aM 3 (by decide) (3 * k) (by show _ < 24; omega) (by omega), Option.bind_some, show O.2 (3 + 1) (3 * k) = Z 7 k from hz.l0 hk]
  rw [if_neg c0] at hx
  by_cases c1 : x2 = 1
  · subst c1
    rw [if_pos rfl, gR_A zo11 8 (by decide), Option.bind_some, aI_in zo11 8 (by decide) k hk, Option.bind_some] at hx
    refine ⟨Z 8 k, hx, fun μ1 => (hm μ1).trans ?_⟩
    rw [if_neg (by decide), nI_1, aM 3 (by decide) (3 * k + 1) (by show _ < 24; omega) (by omega), Option.bind_some, show O.2 (3 + 1) (3 * k + 1) = Z 8 k from hz.l1 hk]
  rw [if_neg c1] at hx
  by_cases c2 : x2 = 2
  · subst c2
    rw [if_pos rfl, gR_A zo11 9 (by decide), Option.bind_some, aI_in zo11 9 (by decide) k hk, Option.bind_some] at hx
    refine ⟨Z 9 k, hx, fun μ1 => (hm μ1).trans ?_⟩
    rw [if_neg (by decide), show (nI (3 * k) + 2 : Int32) = nI (3 * k + 2) from nI_add _ 2, aM 3 (by decide) (3 * k + 2) (by show _ < 24; omega) (by omega), Option.bind_some, show O.2 (3 + 1) (3 * k + 2) = Z 9 k from hz.l2 hk]
  rw [if_neg c2] at hx
  refine ⟨-7, hx, fun μ1 => (hm μ1).trans (if_pos ?_)⟩
  by_cases q3 : f_X5_isBelow x2 3 = 0
  · exact q3
  · obtain ⟨k, hk, rfl⟩ := b_3 x2 q3
    exfalso
    have : k = 0 ∨ k = 1 ∨ k = 2 := by omega
    rcases this with rfl | rfl | rfl
    · exact c0 rfl
    · exact c1 rfl
    · exact c2 rfl
theorem k_burn (x1 : Int32) : Call b m (f_X5_burn b x1) (f_X6_burn m x1) := by
  refine Call.now fun S O μ Z g L hz hg hh hl hr => ?_
  by_cases q : liS Z x1 = 0
  · refine now_same (-6) hz hg hh ?_ (fun μ1 => ?_)
    · simp only [f_X5_burn.eq_1, h3, Option.bind_some, isO_A zo11, x_li zo11, q, if_true]
    · simp only [f_X6_burn.eq_1, isO_M, m_li hz, Option.bind_some, q, if_true]
  obtain ⟨k, hk, rfl, hn⟩ := li_k q
  refine NowQ.m1 ⟨Z 8 k, zs Z 7 k (-1), g, smA O 4 (upd (O.2 4) (3 * k + 0) (-1)), ?_, fun μ1 => ?_, keepO.a _ _ (by omega), hz.s4 (by omega) (-1), hg.nobody k, by rw [zs_ne (by omega)]; exact hh, stay.of (zs_j _ _ (by decide)) (zs_j _ _ (by decide)) (zs_ne (by omega))⟩
  · simp only [f_X5_burn.eq_1, h3, Option.bind_some, isO_A zo11, x_li zo11, q, if_true, if_false]
    rw [gR_A zo11 7 (by decide), Option.bind_some, sI_in zo11 7 (by decide) k hk, Option.bind_some, h3, Option.bind_some, gR_A zo11 8 (by decide), Option.bind_some, aI_in zo11 8 (by decide) k hk, Option.bind_some, zs_j _ _ (by decide)]
  · simp only [f_X6_burn.eq_1, isO_M, m_li hz, Option.bind_some, q, if_true, if_false, mR_4, three]
    rw [show nI (3 * k) = nI (3 * k + 0) from rfl, sM 3 (by decide) (3 * k + 0) (by show _ < 24; omega) (by omega), Option.bind_some, mR_4, Option.bind_some, nI_1, aM 3 (by decide) (3 * k + 0 + 1) (by show _ < 24; omega) (by omega), Option.bind_some, smA_at, if_pos rfl, upd_at, if_neg (by omega), show O.2 (3 + 1) (3 * k + 0 + 1) = Z 8 k from hz.l1 hk]
theorem fd_row {k p j : Nat} (h6 : j ≠ 6) (h7 : j ≠ 7) (h9 : j ≠ 9) : fdS Z k p j = Z j := by
  unfold fdS
  split
  · rw [zs_j _ _ h6, zs_j _ _ h7, zs_j _ _ h9]
  · rw [zs_j _ _ h9]
theorem hsA_row {man j : Nat} {q : Int32 × Zt} (h6 : j ≠ 6) (h7 : j ≠ 7) (h9 : j ≠ 9) (h10 : j ≠ 10) : ∀ k, (hsA L man q k).2 j = q.2 j := by
  intro k
  induction k with
  | zero => rfl
  | succ k ih =>
    rw [hsA, hsP]
    split
    · exact ih
    · split
      · dsimp only
        rw [fd_row h6 h7 h9]
        exact ih
      · dsimp only
        rw [zs_j _ _ h7, zs_j _ _ h10]
        exact ih
theorem hZ_row {j : Nat} (h6 : j ≠ 6) (h7 : j ≠ 7) (h9 : j ≠ 9) (h10 : j ≠ 10) : hZ L Z j = Z j := by
  rw [hZ_eq, zs_j _ _ h10, hsA_row h6 h7 h9 h10]
theorem hN_row {j : Nat} (h6 : j ≠ 6) (h7 : j ≠ 7) (h9 : j ≠ 9) (h10 : j ≠ 10) (n : Nat) : hN L Z n j = Z j := by
  induction n with
  | zero => rfl
  | succ n ih => rw [hN, hZ_row h6 h7 h9 h10, ih]
theorem stay_hZ : stay Z (hZ L Z) := stay.of (hZ_row (by decide) (by decide) (by decide) (by decide)) (hZ_row (by decide) (by decide) (by decide) (by decide)) hZ_w
theorem sameC_hN (n : Nat) : sameC (hN L Z n) Z := ⟨fun j k hj => by rw [hN_row (by omega) (by omega) (by omega) (by omega)], hN_w n⟩
theorem x_pass {o : Nat} (h : zo o) (hl : LawOk b o S μ L) (hq : okO Z) {t : Nat} (ht : Z 10 1 = nI t) (n : Nat) (hn : n < 4000) (ht2 : t < 100000) : ∃ v g', f_X0_passHours (b + o) (nI n) (AZ b o S μ Z g) = some (v, AZ b o S μ (hN L Z n) g') := by
  obtain ⟨g', e⟩ := x_passHours (g := g) h hl hq ht n hn ht2
  rw [hrN_2] at e
  exact ⟨_, g', e⟩
theorem x_pass1 {o : Nat} (h : zo o) (hl : LawOk b o S μ L) (hq : okO Z) {t : Nat} (ht : Z 10 1 = nI t) (ht2 : t < 100000) : ∃ g', f_X0_passHours (b + o) 1 (AZ b o S μ Z g) = some ((hrS L (0, Z)).1, AZ b o S μ (hZ L Z) g') := by
  obtain ⟨g', e⟩ := x_passHours (g := g) h hl hq ht 1 (by omega) ht2
  rw [hrN_2, hrN, hrN] at e
  exact ⟨g', e⟩
theorem k_hour : Call b m (f_X5_hour b) (f_X6_hour m) := by
  refine Call.now fun S O μ Z g L hz hg hh hl hr => ?_
  obtain ⟨t, ht, et⟩ := hh
  by_cases c : t < 999
  · obtain ⟨g', e⟩ := x_pass1 (g := g) zo11 hl hg.o et (by omega)
    refine ⟨(hrS L (0, Z)).1, hZ L Z, g', ?_, fun μ1 => ?_, gZ_hZ hg, ?_, ?_⟩
    · rw [f_X5_hour.eq_1, h3, Option.bind_some, gH_A zo11, Option.bind_some, et, if_pos (show nI t < (999 : Int32) from nI_lt (b := 999) c (by decide)), Option.bind_some, if_pos (isO_A zo11), e, Option.bind_some]
    · obtain ⟨O', e2, k2, z2⟩ := m_hourOf (m := m) (μ := μ1) hr hz hg et (by omega)
      refine ⟨O', ?_, k2.o, z2⟩
      rw [f_X6_hour.eq_1, mI_8, Option.bind_some, hz.hr, et, if_neg (show ¬ nI t = (999 : Int32) from fun q => by have := (nI_eq (a := t) (b := 999) (by omega) (by decide)).mp q; omega), if_pos isO_M, e2, Option.bind_some]
    · rw [hZ_hour, et, nI_1]
      exact ⟨t + 1, by omega, rfl⟩
    · exact stay_hZ
  · have e9 : t = 999 := by omega
    subst e9
    refine now_same (-3) hz hg ⟨999, Nat.le_refl _, et⟩ ?_ (fun μ1 => ?_)
    · rw [f_X5_hour.eq_1, h3, Option.bind_some, gH_A zo11, Option.bind_some, et, if_neg (by decide)]
    · rw [f_X6_hour.eq_1, mI_8, Option.bind_some, hz.hr, et, if_pos (by decide)]
end CC
