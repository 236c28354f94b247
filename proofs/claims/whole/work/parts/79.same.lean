/-! What the plain functions say depends on the numbers of an assize alone. -/
section ZE
variable {Z Y : Zt} {L : Lw}
theorem zEq.czs (h : zEq Z Y) (j k : Nat) (v : Int32) : zEq (zs Z j k v) (zs Y j k v) := by
  refine ⟨fun i l hi hl => ?_, fun l hl => ?_⟩
  · rw [zs_at, zs_at]
    split
    · split
      · rfl
      · exact h.1 i l hi hl
    · exact h.1 i l hi hl
  · rw [zs_at, zs_at]
    split
    · split
      · rfl
      · exact h.2 l hl
    · exact h.2 l hl
theorem zEq.ly (h : zEq Z Y) : lyA Z 8 = lyA Y 8 := by
  have key : ∀ k, k ≤ 8 → lyA Z k = lyA Y k := by
    intro k
    induction k with
    | zero => intro _; rfl
    | succ k ih => intro hk; rw [lyA, lyA, ih (by omega), h.1 7 k (by decide) (by show k < 8; omega)]
  exact key 8 (Nat.le_refl 8)
theorem zEq.nm (h : zEq Z Y) {p : Nat} (hp : p < 6) : nmS Z p = nmS Y p := by
  funext op
  simp only [nmS]
  rw [h.2 0 (by decide), h.2 1 (by decide), h.ly, h.1 4 p (by decide) hp, h.1 5 p (by decide) hp, h.1 3 p (by decide) hp]
theorem zEq.sys (h : zEq Z Y) {p : Nat} (hp : p < 6) (part : Nat) : syS L Z p part = syS L Y p part := by
  unfold syS
  rw [h.nm hp]
theorem zEq.lk (h : zEq Z Y) {p : Nat} (hp : p < 6) (man : Int32) : lkS L Z p man = lkS L Y p man := by
  unfold lkS
  rw [h.sys hp, h.1 2 p (by decide) hp, h.1 3 p (by decide) hp]
theorem zEq.wt (h : zEq Z Y) {p : Nat} (hp : p < 6) : wtS L Z p = wtS L Y p := by
  unfold wtS
  rw [h.sys hp, h.1 2 p (by decide) hp, h.1 3 p (by decide) hp, h.2 1 (by decide)]
theorem zEq.dr (h : zEq Z Y) {p : Nat} (hp : p < 6) : drS L Z p = drS L Y p := by
  unfold drS
  rw [h.sys hp, h.1 2 p (by decide) hp, h.1 3 p (by decide) hp, h.1 4 p (by decide) hp]
theorem zEq.cl (h : zEq Z Y) {p : Nat} (hp : p < 6) : clS Z p = clS Y p := by
  unfold clS
  rw [h.ly, h.1 4 p (by decide) hp]
theorem zEq.cF (h : zEq Z Y) (p w t : Int32) : ∀ m k, k + m = 8 → (lfA Z p w t m k).1 = (lfA Y p w t m k).1 ∧ zEq (lfA Z p w t m k).2 (lfA Y p w t m k).2 := by
  intro m
  induction m with
  | zero => intro k _; exact ⟨rfl, h⟩
  | succ m ih =>
    intro k hk
    rw [lfA.eq_2, lfA.eq_2, h.1 7 k (by decide) (by show k < 8; omega)]
    split
    · exact ⟨rfl, h⟩
    · split
      · exact ⟨rfl, ((h.czs _ _ _).czs _ _ _).czs _ _ _⟩
      · exact ih (k + 1) (by omega)
theorem zEq.lf (h : zEq Z Y) {p : Nat} (hp : p < 6) : (lfS L Z p).1 = (lfS L Y p).1 ∧ zEq (lfS L Z p).2 (lfS L Y p).2 := by
  unfold lfS
  rw [h.dr hp, h.wt hp]
  exact h.cF _ _ _ 8 0 (by omega)
theorem zEq.fd (h : zEq Z Y) {k p : Nat} (hk : k < 8) (hp : p < 6) : zEq (fdS Z k p) (fdS Y k p) := by
  unfold fdS
  rw [h.1 9 k (by decide) hk, h.1 6 p (by decide) hp]
  split
  · exact ((h.czs _ _ _).czs _ _ _).czs _ _ _
  · exact h.czs _ _ _
theorem zEq.cP {a c : Int32} (h : zEq Z Y) (hg : gZ Z) {man k : Nat} (hm : man < 6) (hk : k < 8) (e : a = c) : (hsP L man (a, Z) k).1 = (hsP L man (c, Y) k).1 ∧ zEq (hsP L man (a, Z) k).2 (hsP L man (c, Y) k).2 := by
  subst e
  unfold hsP
  dsimp only
  have e7 := h.1 7 k (by decide) hk
  have e1 := h.1 1 man (by decide) hm
  have e8 := h.1 8 k (by decide) hk
  have e10 := h.2 0 (by decide)
  by_cases n : Z 7 k = -1
  · rw [if_pos n, if_pos (e7.symm.trans n)]
    exact ⟨rfl, h⟩
  · rw [if_neg n, if_neg (fun z => n (e7.trans z))]
    have hp : (Z 7 k).toNatClampNeg < 6 := by
      rcases hg.2.2.2.2.2 k hk with e | ⟨⟨p, hp, e⟩, _⟩
      · exact absurd e n
      · have := hg.w6
        rw [e, nI_clamp (by omega)]
        omega
    have e : Y 1 man + lkS L Y (Y 7 k).toNatClampNeg (nI man) = Z 1 man + lkS L Z (Z 7 k).toNatClampNeg (nI man) := by rw [← e7, ← e1, h.lk hp]
    by_cases c2 : Z 1 man + lkS L Z (Z 7 k).toNatClampNeg (nI man) < 100
    · rw [if_pos c2, if_pos (by rw [e]; exact c2)]
      exact ⟨rfl, by rw [← e7]; exact h.fd hk hp⟩
    · rw [if_neg c2, if_neg (by rw [e]; exact c2)]
      exact ⟨by rw [← e8], by rw [← e8, ← e10]; exact (h.czs _ _ _).czs _ _ _⟩
theorem zEq.cA {a c : Int32} (h : zEq Z Y) (hg : gZ Z) {man : Nat} (hm : man < 6) (e : a = c) : ∀ k, k ≤ 8 → (hsA L man (a, Z) k).1 = (hsA L man (c, Y) k).1 ∧ zEq (hsA L man (a, Z) k).2 (hsA L man (c, Y) k).2 := by
  intro k
  induction k with
  | zero => intro _; exact ⟨e, h⟩
  | succ k ih =>
    intro hk
    obtain ⟨i1, i2⟩ := ih (by omega)
    have g1 : gZ (hsA L man (a, Z) k).2 := gZ_hsA (q := (a, Z)) hg k (by omega)
    rw [hsA.eq_2, hsA.eq_2]
    exact i2.cP g1 hm (by omega) i1
theorem manS_lt (Z : Zt) : manS Z < 6 := Nat.mod_lt _ (by omega)
theorem zEq.cZ (h : zEq Z Y) (hg : gZ Z) : zEq (hZ L Z) (hZ L Y) := by
  have em : manS Z = manS Y := by unfold manS; rw [h.2 1 (by decide)]
  rw [hZ_eq, hZ_eq, ← em]
  have q := (h.cA (L := L) hg (manS_lt Z) (rfl : (0 : Int32) = 0) 8 (Nat.le_refl 8)).2
  rw [← q.2 1 (by decide)]
  exact q.czs _ _ _
theorem zEq.cN (h : zEq Z Y) (hg : gZ Z) (n : Nat) : zEq (hN L Z n) (hN L Y n) := by
  induction n with
  | zero => exact h
  | succ n ih => exact ih.cZ (gZ_hN hg n)
theorem zEq.ver (h : zEq Z Y) : wtA (Z 0) (Z 10 0) 10 = wtA (Y 0) (Y 10 0) 10 := by
  have key : ∀ s k, k ≤ 10 → wtA (Z 0) s k = wtA (Y 0) s k := by
    intro s k
    induction k with
    | zero => intro _; rfl
    | succ k ih => intro hk; rw [wtA, wtA, ih (by omega), h.1 0 k (by decide) (by show k < 10; omega)]
  rw [key _ 10 (Nat.le_refl 10), h.2 0 (by decide)]
theorem zEq.li (h : zEq Z Y) (x : Int32) : liS Z x = liS Y x := by
  unfold liS
  by_cases q : f_X5_isBelow x 8 = 0
  · rw [if_pos q, if_pos q]
  · rw [if_neg q, if_neg q]
    obtain ⟨k, hk, rfl⟩ := b_8 x q
    rw [nI_clamp (by omega), h.1 7 k (by decide) hk]
end ZE
