/-! The bounds stay. -/
section GZ
variable {Z : Zt}
theorem wN_zs {j k : Nat} {v : Int32} (h : ¬ (j = 10 ∧ k = 2)) : wN (zs Z j k v) = wN Z := by
  unfold wN
  rw [zs_at]
  split
  · split
    · omega
    · rfl
  · rfl
theorem zs_ne {j k a c : Nat} {v : Int32} (h : ¬ (a = j ∧ c = k)) : zs Z j k v a c = Z a c := by
  rw [zs_at]
  split
  · split
    · omega
    · rfl
  · rfl
theorem zs_hit {j k : Nat} {v : Int32} : zs Z j k v j k = v := by rw [zs_at, if_pos rfl, if_pos rfl]
theorem gZ.nobody (hg : gZ Z) (i : Nat) : gZ (zs Z 7 i (-1)) := by
  obtain ⟨h1, h2, h3, h4, h5, h6⟩ := hg
  refine ⟨?_, ?_, fun k hk => ?_, fun k hk => ?_, fun p hp => ?_, fun h hh => ?_⟩
  · rw [zs_ne (by omega)]; exact h1
  · rw [zs_ne (by omega)]; exact h2
  · rw [zs_ne (by omega)]; exact h3 k hk
  · rw [zs_ne (by omega), zs_ne (by omega), zs_ne (by omega), zs_ne (by omega)]; exact h4 k hk
  · rw [wN_zs (by omega)] at hp; rw [zs_ne (by omega), zs_ne (by omega)]; exact h5 p hp
  · by_cases c : h = i
    · subst c; exact Or.inl zs_hit
    · rw [wN_zs (by omega), zs_ne (by omega), zs_ne (by omega), zs_ne (by omega)]; exact h6 h hh
theorem gZ.vain (hg : gZ Z) (i : Nat) {v : Int32} (hv : rng 99 v) : gZ (zs Z 6 i v) := by
  obtain ⟨h1, h2, h3, h4, h5, h6⟩ := hg
  refine ⟨?_, ?_, fun k hk => ?_, fun k hk => ?_, fun p hp => ?_, fun h hh => ?_⟩
  · rw [zs_ne (by omega)]; exact h1
  · rw [zs_ne (by omega)]; exact h2
  · rw [zs_ne (by omega)]; exact h3 k hk
  · rw [zs_ne (by omega), zs_ne (by omega), zs_ne (by omega)]
    refine ⟨(h4 k hk).1, (h4 k hk).2.1, (h4 k hk).2.2.1, ?_⟩
    by_cases c : k = i
    · subst c; rw [zs_hit]; exact hv
    · rw [zs_ne (by omega)]; exact (h4 k hk).2.2.2
  · rw [wN_zs (by omega)] at hp; rw [zs_ne (by omega), zs_ne (by omega)]; exact h5 p hp
  · rw [wN_zs (by omega), zs_ne (by omega), zs_ne (by omega), zs_ne (by omega)]; exact h6 h hh
theorem gZ.left (hg : gZ Z) (i : Nat) {v : Int32} (hv : ∃ t, 1 ≤ t ∧ t ≤ 99 ∧ v = nI t) : gZ (zs Z 9 i v) := by
  obtain ⟨h1, h2, h3, h4, h5, h6⟩ := hg
  refine ⟨?_, ?_, fun k hk => ?_, fun k hk => ?_, fun p hp => ?_, fun h hh => ?_⟩
  · rw [zs_ne (by omega)]; exact h1
  · rw [zs_ne (by omega)]; exact h2
  · rw [zs_ne (by omega)]; exact h3 k hk
  · rw [zs_ne (by omega), zs_ne (by omega), zs_ne (by omega), zs_ne (by omega)]; exact h4 k hk
  · rw [wN_zs (by omega)] at hp; rw [zs_ne (by omega), zs_ne (by omega)]; exact h5 p hp
  · rw [wN_zs (by omega), zs_ne (by omega), zs_ne (by omega)]
    rcases h6 h hh with e | ⟨e1, e2, e3⟩
    · exact Or.inl e
    · refine Or.inr ⟨e1, e2, ?_⟩
      by_cases c : h = i
      · subst c; rw [zs_hit]; exact hv
      · rw [zs_ne (by omega)]; exact e3
theorem gZ.left0 (hg : gZ Z) (i : Nat) (v : Int32) (h0 : Z 7 i = -1) : gZ (zs Z 9 i v) := by
  obtain ⟨h1, h2, h3, h4, h5, h6⟩ := hg
  refine ⟨?_, ?_, fun k hk => ?_, fun k hk => ?_, fun p hp => ?_, fun h hh => ?_⟩
  · rw [zs_ne (by omega)]; exact h1
  · rw [zs_ne (by omega)]; exact h2
  · rw [zs_ne (by omega)]; exact h3 k hk
  · rw [zs_ne (by omega), zs_ne (by omega), zs_ne (by omega), zs_ne (by omega)]; exact h4 k hk
  · rw [wN_zs (by omega)] at hp; rw [zs_ne (by omega), zs_ne (by omega)]; exact h5 p hp
  · rw [wN_zs (by omega), zs_ne (by omega), zs_ne (by omega)]
    by_cases c : h = i
    · subst c; exact Or.inl h0
    · rw [zs_ne (by omega)]; exact h6 h hh
theorem zs_comm {a b c d : Nat} {v w : Int32} (h : a ≠ c) : zs (zs Z a b v) c d w = zs (zs Z c d w) a b v := by
  funext i j
  simp only [zs_at]
  by_cases h1 : i = c
  · subst h1
    rw [if_pos rfl, if_neg (Ne.symm h), if_neg (Ne.symm h), if_pos rfl]
  · rw [if_neg h1, if_neg h1]
theorem gZ.lin (hg : gZ Z) (i : Nat) {o f t : Int32} (ho : ∃ p, p < wN Z ∧ o = nI p) (hf : rng 9 f) (ht : ∃ n, 1 ≤ n ∧ n ≤ 99 ∧ t = nI n) : gZ (zs (zs (zs Z 7 i o) 8 i f) 9 i t) := by
  obtain ⟨h1, h2, h3, h4, h5, h6⟩ := hg
  refine ⟨?_, ?_, fun k hk => ?_, fun k hk => ?_, fun p hp => ?_, fun h hh => ?_⟩
  · rw [zs_ne (by omega), zs_ne (by omega), zs_ne (by omega)]; exact h1
  · rw [zs_ne (by omega), zs_ne (by omega), zs_ne (by omega)]; exact h2
  · rw [zs_ne (by omega), zs_ne (by omega), zs_ne (by omega)]; exact h3 k hk
  · have q : ∀ a, 0 < a → a < 7 → zs (zs (zs Z 7 i o) 8 i f) 9 i t a k = Z a k := fun a _ _ => by rw [zs_ne (by omega), zs_ne (by omega), zs_ne (by omega)]
    rw [q 1 (by omega) (by omega), q 4 (by omega) (by omega), q 5 (by omega) (by omega), q 6 (by omega) (by omega)]; exact h4 k hk
  · rw [wN_zs (by omega), wN_zs (by omega), wN_zs (by omega)] at hp
    have q : ∀ a, 0 < a → a < 7 → zs (zs (zs Z 7 i o) 8 i f) 9 i t a p = Z a p := fun a _ _ => by rw [zs_ne (by omega), zs_ne (by omega), zs_ne (by omega)]
    rw [q 2 (by omega) (by omega), q 3 (by omega) (by omega)]; exact h5 p hp
  · rw [wN_zs (by omega), wN_zs (by omega), wN_zs (by omega)]
    by_cases c : h = i
    · subst c
      refine Or.inr ⟨?_, ?_, ?_⟩
      · rw [zs_ne (by omega), zs_ne (by omega), zs_hit]; exact ho
      · rw [zs_ne (by omega), zs_hit]; exact hf
      · rw [zs_hit]; exact ht
    · have q : ∀ a, zs (zs (zs Z 7 i o) 8 i f) 9 i t a h = Z a h := fun a => by rw [zs_ne (by omega), zs_ne (by omega), zs_ne (by omega)]
      rw [q, q, q]; exact h6 h hh
theorem gZ.adm (hg : gZ Z) {v : Int32} (hv : isSet v) : gZ (zs Z 10 0 v) := by
  obtain ⟨h1, h2, h3, h4, h5, h6⟩ := hg
  refine ⟨?_, ?_, fun k hk => ?_, fun k hk => ?_, fun p hp => ?_, fun h hh => ?_⟩
  · rw [zs_ne (by omega)]; exact h1
  · rw [zs_hit]; exact hv
  · rw [zs_ne (by omega)]; exact h3 k hk
  · rw [zs_ne (by omega), zs_ne (by omega), zs_ne (by omega), zs_ne (by omega)]; exact h4 k hk
  · rw [wN_zs (by omega)] at hp; rw [zs_ne (by omega), zs_ne (by omega)]; exact h5 p hp
  · rw [wN_zs (by omega), zs_ne (by omega), zs_ne (by omega), zs_ne (by omega)]; exact h6 h hh
theorem gZ.hour (hg : gZ Z) (v : Int32) : gZ (zs Z 10 1 v) := by
  obtain ⟨h1, h2, h3, h4, h5, h6⟩ := hg
  refine ⟨?_, ?_, fun k hk => ?_, fun k hk => ?_, fun p hp => ?_, fun h hh => ?_⟩
  · rw [zs_ne (by omega)]; exact h1
  · rw [zs_ne (by omega)]; exact h2
  · rw [zs_ne (by omega)]; exact h3 k hk
  · rw [zs_ne (by omega), zs_ne (by omega), zs_ne (by omega), zs_ne (by omega)]; exact h4 k hk
  · rw [wN_zs (by omega)] at hp; rw [zs_ne (by omega), zs_ne (by omega)]; exact h5 p hp
  · rw [wN_zs (by omega), zs_ne (by omega), zs_ne (by omega), zs_ne (by omega)]; exact h6 h hh
theorem gZ.keen (hg : gZ Z) (i : Nat) {v : Int32} (hv : rng 99 v) : gZ (zs Z 1 i v) := by
  obtain ⟨h1, h2, h3, h4, h5, h6⟩ := hg
  refine ⟨?_, ?_, fun k hk => ?_, fun k hk => ?_, fun p hp => ?_, fun h hh => ?_⟩
  · rw [zs_ne (by omega)]; exact h1
  · rw [zs_ne (by omega)]; exact h2
  · rw [zs_ne (by omega)]; exact h3 k hk
  · rw [zs_ne (show ¬ (4 = 1 ∧ k = i) by omega), zs_ne (show ¬ (5 = 1 ∧ k = i) by omega), zs_ne (show ¬ (6 = 1 ∧ k = i) by omega)]
    refine ⟨?_, (h4 k hk).2⟩
    by_cases c : k = i
    · subst c; rw [zs_hit]; exact hv
    · rw [zs_ne (by omega)]; exact (h4 k hk).1
  · rw [wN_zs (by omega)] at hp; rw [zs_ne (by omega), zs_ne (by omega)]; exact h5 p hp
  · rw [wN_zs (by omega), zs_ne (by omega), zs_ne (by omega), zs_ne (by omega)]; exact h6 h hh
theorem gZ.known (hg : gZ Z) (i : Nat) {v : Int32} (hv : isSet v) : gZ (zs Z 4 i v) := by
  obtain ⟨h1, h2, h3, h4, h5, h6⟩ := hg
  refine ⟨?_, ?_, fun k hk => ?_, fun k hk => ?_, fun p hp => ?_, fun h hh => ?_⟩
  · rw [zs_ne (by omega)]; exact h1
  · rw [zs_ne (by omega)]; exact h2
  · rw [zs_ne (by omega)]; exact h3 k hk
  · rw [zs_ne (show ¬ (1 = 4 ∧ k = i) by omega), zs_ne (show ¬ (5 = 4 ∧ k = i) by omega), zs_ne (show ¬ (6 = 4 ∧ k = i) by omega)]
    refine ⟨(h4 k hk).1, ?_, (h4 k hk).2.2⟩
    by_cases c : k = i
    · subst c; rw [zs_hit]; exact hv
    · rw [zs_ne (by omega)]; exact (h4 k hk).2.1
  · rw [wN_zs (by omega)] at hp; rw [zs_ne (by omega), zs_ne (by omega)]; exact h5 p hp
  · rw [wN_zs (by omega), zs_ne (by omega), zs_ne (by omega), zs_ne (by omega)]; exact h6 h hh
theorem gZ.face (hg : gZ Z) (i : Nat) {v : Int32} (hv : rng 99 v) : gZ (zs Z 5 i v) := by
  obtain ⟨h1, h2, h3, h4, h5, h6⟩ := hg
  refine ⟨?_, ?_, fun k hk => ?_, fun k hk => ?_, fun p hp => ?_, fun h hh => ?_⟩
  · rw [zs_ne (by omega)]; exact h1
  · rw [zs_ne (by omega)]; exact h2
  · rw [zs_ne (by omega)]; exact h3 k hk
  · rw [zs_ne (show ¬ (1 = 5 ∧ k = i) by omega), zs_ne (show ¬ (4 = 5 ∧ k = i) by omega), zs_ne (show ¬ (6 = 5 ∧ k = i) by omega)]
    refine ⟨(h4 k hk).1, (h4 k hk).2.1, ?_, (h4 k hk).2.2.2⟩
    by_cases c : k = i
    · subst c; rw [zs_hit]; exact hv
    · rw [zs_ne (by omega)]; exact (h4 k hk).2.2.1
  · rw [wN_zs (by omega)] at hp; rw [zs_ne (by omega), zs_ne (by omega)]; exact h5 p hp
  · rw [wN_zs (by omega), zs_ne (by omega), zs_ne (by omega), zs_ne (by omega)]; exact h6 h hh
theorem gZ.weight (hg : gZ Z) (i : Nat) {v : Int32} (hv : -99 ≤ v ∧ v ≤ 99) : gZ (zs Z 0 i v) := by
  obtain ⟨h1, h2, h3, h4, h5, h6⟩ := hg
  refine ⟨?_, ?_, fun k hk => ?_, fun k hk => ?_, fun p hp => ?_, fun h hh => ?_⟩
  · rw [zs_ne (by omega)]; exact h1
  · rw [zs_ne (by omega)]; exact h2
  · by_cases c : k = i
    · subst c; rw [zs_hit]; exact hv
    · rw [zs_ne (by omega)]; exact h3 k hk
  · rw [zs_ne (by omega), zs_ne (by omega), zs_ne (by omega), zs_ne (by omega)]; exact h4 k hk
  · rw [wN_zs (by omega)] at hp; rw [zs_ne (by omega), zs_ne (by omega)]; exact h5 p hp
  · rw [wN_zs (by omega), zs_ne (by omega), zs_ne (by omega), zs_ne (by omega)]; exact h6 h hh
theorem gZ.kind (hg : gZ Z) (i : Nat) {v : Int32} (hv : rng 5 v) : gZ (zs Z 2 i v) := by
  obtain ⟨h1, h2, h3, h4, h5, h6⟩ := hg
  refine ⟨?_, ?_, fun k hk => ?_, fun k hk => ?_, fun p hp => ?_, fun h hh => ?_⟩
  · rw [zs_ne (by omega)]; exact h1
  · rw [zs_ne (by omega)]; exact h2
  · rw [zs_ne (by omega)]; exact h3 k hk
  · rw [zs_ne (by omega), zs_ne (by omega), zs_ne (by omega), zs_ne (by omega)]; exact h4 k hk
  · rw [wN_zs (by omega)] at hp
    rw [zs_ne (show ¬ (3 = 2 ∧ p = i) by omega)]
    refine ⟨?_, (h5 p hp).2⟩
    by_cases c : p = i
    · subst c; rw [zs_hit]; exact hv
    · rw [zs_ne (by omega)]; exact (h5 p hp).1
  · rw [wN_zs (by omega), zs_ne (by omega), zs_ne (by omega), zs_ne (by omega)]; exact h6 h hh
theorem gZ.more (hg : gZ Z) (i : Nat) {v : Int32} (hv : rng 9 v) : gZ (zs Z 3 i v) := by
  obtain ⟨h1, h2, h3, h4, h5, h6⟩ := hg
  refine ⟨?_, ?_, fun k hk => ?_, fun k hk => ?_, fun p hp => ?_, fun h hh => ?_⟩
  · rw [zs_ne (by omega)]; exact h1
  · rw [zs_ne (by omega)]; exact h2
  · rw [zs_ne (by omega)]; exact h3 k hk
  · rw [zs_ne (by omega), zs_ne (by omega), zs_ne (by omega), zs_ne (by omega)]; exact h4 k hk
  · rw [wN_zs (by omega)] at hp
    rw [zs_ne (show ¬ (2 = 3 ∧ p = i) by omega)]
    refine ⟨(h5 p hp).1, ?_⟩
    by_cases c : p = i
    · subst c; rw [zs_hit]; exact hv
    · rw [zs_ne (by omega)]; exact (h5 p hp).2
  · rw [wN_zs (by omega), zs_ne (by omega), zs_ne (by omega), zs_ne (by omega)]; exact h6 h hh
end GZ
theorem set_or : ∀ n, n < 1024 → ∀ f, f < 10 → (nI n ||| ((1 : Int32) <<< (nI f &&& 31))) = nI (n ||| 2 ^ f) ∧ n ||| 2 ^ f < 1024 := by decide +kernel
theorem isSet.or {x f : Int32} (hx : isSet x) (hf : rng 9 f) : isSet (x ||| ((1 : Int32) <<< (f &&& 31))) := by
  obtain ⟨n, hn, rfl⟩ := hx
  obtain ⟨k, hk, rfl⟩ := hf
  obtain ⟨e1, e2⟩ := set_or n hn k (by omega)
  exact ⟨_, e2, e1⟩
theorem vain_rng {v : Int32} (h : rng 99 v) : rng 99 (if v + 1 < 99 then v + 1 else 99) := by
  obtain ⟨n, hn, rfl⟩ := h
  rw [nI_1]
  by_cases c : n + 1 < 99
  · rw [if_pos (show nI (n + 1) < (99 : Int32) from nI_lt (b := 99) c (by omega))]
    exact ⟨n + 1, by omega, rfl⟩
  · rw [if_neg (show ¬ nI (n + 1) < (99 : Int32) from nI_nlt (b := 99) (by omega) (by omega))]
    exact ⟨99, by omega, rfl⟩
theorem vain_eq : ∀ v, v < 100 → f_X6_within (nI v + 1) 0 99 = if nI v + 1 < 99 then nI v + 1 else 99 := by decide +kernel
theorem left_pred {v : Int32} (h : ∃ t, 1 ≤ t ∧ t ≤ 99 ∧ v = nI t) : v - 1 = 0 ∨ ∃ t, 1 ≤ t ∧ t ≤ 99 ∧ v - 1 = nI t := by
  obtain ⟨t, h1, h2, rfl⟩ := h
  obtain ⟨s, rfl⟩ : ∃ s, t = s + 1 := ⟨t - 1, by omega⟩
  rw [nI_pred]
  by_cases c : s = 0
  · subst c; exact Or.inl rfl
  · exact Or.inr ⟨s, by omega, by omega, rfl⟩
theorem gZ_fd {Z : Zt} (hg : gZ Z) {k p : Nat} (hk : k < 8) (hp : p < 6) (hn : Z 7 k ≠ -1) : gZ (fdS Z k p) := by
  unfold fdS
  have hl : ∃ t, 1 ≤ t ∧ t ≤ 99 ∧ Z 9 k = nI t := by
    rcases hg.2.2.2.2.2 k hk with e | ⟨_, _, e⟩
    · exact absurd e hn
    · exact e
  split
  · rw [zs_comm (show 9 ≠ 7 by decide)]
    exact ((hg.nobody k).left0 k _ zs_hit).vain p (vain_rng (hg.2.2.2.1 p hp).2.2.2)
  · rename_i c
    rcases left_pred hl with e | e
    · exact absurd e c
    · exact hg.left k e
theorem gZ_hsP {L : Lw} {man k : Nat} {q : Int32 × Zt} (hg : gZ q.2) (hk : k < 8) : gZ (hsP L man q k).2 := by
  unfold hsP
  split
  · exact hg
  · rename_i c
    rcases hg.2.2.2.2.2 k hk with e | ⟨⟨p, hp, e1⟩, e2, _⟩
    · exact absurd e c
    · have h6 := hg.w6
      split
      · dsimp only
        rw [e1, nI_clamp (by omega)]
        exact gZ_fd hg hk (by omega) c
      · exact (hg.adm (hg.2.1.or e2)).nobody k
theorem gZ_hsA {L : Lw} {man : Nat} {q : Int32 × Zt} (hg : gZ q.2) : ∀ k, k ≤ 8 → gZ (hsA L man q k).2 := by
  intro k
  induction k with
  | zero => intro _; exact hg
  | succ k ih => intro hk; exact gZ_hsP (ih (by omega)) (by omega)
theorem gZ_hrS {L : Lw} {q : Int32 × Zt} (hg : gZ q.2) : gZ (hrS L q).2 := (gZ_hsA hg 8 (Nat.le_refl 8)).hour _
theorem gZ_hrN {L : Lw} {q : Int32 × Zt} (hg : gZ q.2) : ∀ n, gZ (hrN L q n).2 := by
  intro n
  induction n with
  | zero => exact hg
  | succ n ih => exact gZ_hrS ih
/-- what is picked before doesn't matter for the rest -/
theorem hsA_2 {L : Lw} {man : Nat} (a c : Int32) (Z : Zt) : ∀ k, (hsA L man (a, Z) k).2 = (hsA L man (c, Z) k).2 := by
  intro k
  induction k with
  | zero => rfl
  | succ k ih =>
    rw [hsA, hsA, hsP, hsP, ih]
    split
    · exact ih
    · split <;> rfl
def hZ (L : Lw) (Z : Zt) : Zt := (hrS L (0, Z)).2
def hN (L : Lw) (Z : Zt) : Nat → Zt
  | 0 => Z
  | n + 1 => hZ L (hN L Z n)
theorem hrS_2 {L : Lw} (q : Int32 × Zt) : (hrS L q).2 = hZ L q.2 := by
  unfold hZ hrS
  dsimp only
  rw [show q = (q.1, q.2) from rfl, hsA_2 q.1 0]
theorem hrN_2 {L : Lw} (q : Int32 × Zt) : ∀ n, (hrN L q n).2 = hN L q.2 n := by
  intro n
  induction n with
  | zero => rfl
  | succ n ih => rw [hrN, hrS_2, ih, hN]
theorem gZ_hZ {L : Lw} {Z : Zt} (hg : gZ Z) : gZ (hZ L Z) := gZ_hrS (q := (0, Z)) hg
theorem gZ_hN {L : Lw} {Z : Zt} (hg : gZ Z) (n : Nat) : gZ (hN L Z n) := by
  rw [← hrN_2 (0, Z) n]
  exact gZ_hrN hg n
theorem hZ_hour {L : Lw} {Z : Zt} : hZ L Z 10 1 = Z 10 1 + 1 := hrS_hour
theorem hN_hour {L : Lw} {Z : Zt} {t : Nat} (h : Z 10 1 = nI t) (n : Nat) : hN L Z n 10 1 = nI (t + n) := by
  rw [← hrN_2 (0, Z) n]
  exact hrN_hour h n
theorem wN_hsA {L : Lw} {man : Nat} {q : Int32 × Zt} (k : Nat) : (hsA L man q k).2 10 2 = q.2 10 2 := hsA_10 2 (by decide) k
theorem hZ_w {L : Lw} {Z : Zt} : hZ L Z 10 2 = Z 10 2 := by
  unfold hZ hrS
  dsimp only
  rw [zs_ne (by decide), wN_hsA]
theorem hN_w {L : Lw} {Z : Zt} (n : Nat) : hN L Z n 10 2 = Z 10 2 := by
  induction n with
  | zero => rfl
  | succ n ih => rw [hN, hZ_w, ih]
