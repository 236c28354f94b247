/-! The assize of the class does as plain functions say. -/
def okP (l : List Int32) : Prop := ∀ nm : Int32 → Int32, ∃ v, evL nm l [] = some [v]
def evV (nm : Int32 → Int32) (part : Nat) (l : List Int32) : Int32 := (evP nm part l).getD 0
theorem evP_ok {l : List Int32} (h : okP l) (nm : Int32 → Int32) (part : Nat) : evP nm part l = some (evV nm part l) := by
  obtain ⟨v, hv⟩ := h nm
  simp [evV, evP, hv]
abbrev Lw : Type := Nat → List Int32
def LawOk (b o : Nat) (S : XS) (μ : mS) (L : Lw) : Prop := ∃ (nr : Int32) (a n wt dp : Nat) (code : Nat → Int32), n ≤ 160 ∧ wt ≤ dp ∧ dp ≤ n ∧ (∀ Z g, lawIs (AZ b o S μ Z g) (S.2.2.1 o) nr a n wt dp code) ∧ (∀ part, part < 3 → L part = partL code n wt dp part ∧ okP (L part))
def syS (L : Lw) (Z : Zt) (p part : Nat) : Int32 := evV (nmS Z p) part (L part)
def lkS (L : Lw) (Z : Zt) (p : Nat) (man : Int32) : Int32 := f_X5_bounded ((f_X1_looksOf (Z 2 p) (syS L Z p 0) (Z 3 p) man).getD 0) 0 99
def wtS (L : Lw) (Z : Zt) (p : Nat) : Int32 := f_X5_bounded (f_X1_waitsOf (Z 2 p) (syS L Z p 1) (Z 3 p) (Z 10 1)) 1 99
def nthA (set : Int32) : Nat → Nat → Int32 → Int32
  | 0, _, _ => -1
  | m + 1, k, ahead => if ((set >>> (nI k &&& 31)) &&& 1) = 1 then (if ahead = 0 then nI k else nthA set m (k + 1) (ahead + -1)) else nthA set m (k + 1) ahead
def drS (L : Lw) (Z : Zt) (p : Nat) : Int32 := if bc (Z 4 p) = 0 then -1 else nthA (Z 4 p) 10 0 ((f_X1_dropsOf (Z 2 p) (syS L Z p 2) (Z 3 p) (bc (Z 4 p))).getD 0)
def stS (L : Lw) (Z : Zt) (man p : Nat) : Int32 := if Z 1 man + lkS L Z p (nI man) < 100 then 0 else 1
def spA (L : Lw) (Z : Zt) (p : Nat) : Nat → Int32
  | 0 => 0
  | k + 1 => spA L Z p k ||| (if stS L Z k p = 0 then 0 else (1 : Int32) <<< (nI k &&& 31))
def clS (Z : Zt) (p : Nat) : Int32 := if Z 4 p = 0 then 0 else if 8 ≤ lyA Z 8 then 0 else 1
def lfA (Z : Zt) (p which hours : Int32) : Nat → Nat → Int32 × Zt
  | 0, _ => (-1, Z)
  | m + 1, k => if which = -1 then (-1, Z) else if Z 7 k = -1 then (nI k, zs (zs (zs Z 7 k p) 8 k which) 9 k hours) else lfA Z p which hours m (k + 1)
def lfS (L : Lw) (Z : Zt) (p : Nat) : Int32 × Zt := lfA Z (nI p) (drS L Z p) (wtS L Z p) 8 0
def fdS (Z : Zt) (h p : Nat) : Zt := if Z 9 h - 1 = 0 then zs (zs (zs Z 9 h (Z 9 h - 1)) 7 h (-1)) 6 p (if Z 6 p + 1 < 99 then Z 6 p + 1 else 99) else zs Z 9 h (Z 9 h - 1)
def hsP (L : Lw) (man : Nat) (q : Int32 × Zt) (k : Nat) : Int32 × Zt :=
  if q.2 7 k = -1 then q else
  if q.2 1 man + lkS L q.2 (q.2 7 k).toNatClampNeg (nI man) < 100 then (q.1, fdS q.2 k (q.2 7 k).toNatClampNeg)
  else (q.1 ||| ((1 : Int32) <<< (q.2 8 k &&& 31)), zs (zs q.2 10 0 (q.2 10 0 ||| ((1 : Int32) <<< (q.2 8 k &&& 31)))) 7 k (-1))
def hsA (L : Lw) (man : Nat) (q : Int32 × Zt) : Nat → Int32 × Zt
  | 0 => q
  | k + 1 => hsP L man (hsA L man q k) k
def manS (Z : Zt) : Nat := (Z 10 1).toNatClampNeg % 6
def hrS (L : Lw) (q : Int32 × Zt) : Int32 × Zt := ((hsA L (manS q.2) q 8).1, zs (hsA L (manS q.2) q 8).2 10 1 ((hsA L (manS q.2) q 8).2 10 1 + 1))
def hrN (L : Lw) (q : Int32 × Zt) : Nat → Int32 × Zt
  | 0 => q
  | n + 1 => hrS L (hrN L q n)
/-- whose the handkerchiefs are: nobody's, or one of six -/
def okO (Z : Zt) : Prop := ∀ h, h < 8 → Z 7 h = -1 ∨ ∃ p, p < 6 ∧ Z 7 h = nI p
theorem zs_eq (Z : Zt) (j k : Nat) (v : Int32) : zs Z j k v j k = v := by simp [zs, up_eq, upd_eq]
theorem zs_j {Z : Zt} {j i : Nat} (k : Nat) (v : Int32) (h : i ≠ j) : zs Z j k v i = Z i := up_ne _ _ h
theorem zs_k {Z : Zt} {j k i : Nat} (v : Int32) (h : i ≠ k) : zs Z j k v j i = Z j i := by simp [zs, up_eq, upd_ne _ _ h]
theorem okO_set {Z : Zt} {k : Nat} (h : okO Z) : okO (zs Z 7 k (-1)) := by
  intro i hi
  by_cases c : i = k
  · subst c
    exact Or.inl (zs_eq _ _ _ _)
  · rw [zs_k _ c]
    exact h i hi
theorem okO_j {Z : Zt} {j k : Nat} {v : Int32} (h : okO Z) (hj : 7 ≠ j) : okO (zs Z j k v) := by
  intro i hi
  rw [zs_j _ _ hj]
  exact h i hi
theorem okO_put {Z : Zt} {k p : Nat} (h : okO Z) (hp : p < 6) : okO (zs Z 7 k (nI p)) := by
  intro i hi
  by_cases c : i = k
  · subst c
    exact Or.inr ⟨p, hp, zs_eq _ _ _ _⟩
  · rw [zs_k _ c]
    exact h i hi
theorem okO_fd {Z : Zt} {k p : Nat} (h : okO Z) : okO (fdS Z k p) := by
  unfold fdS
  split
  · exact okO_j (okO_set (okO_j h (by decide))) (by decide)
  · exact okO_j h (by decide)
theorem okO_hsP {L : Lw} {man k : Nat} {q : Int32 × Zt} (h : okO q.2) : okO (hsP L man q k).2 := by
  unfold hsP
  split
  · exact h
  · split
    · exact okO_fd h
    · exact okO_set (okO_j h (by decide))
theorem okO_hsA {L : Lw} {man : Nat} {q : Int32 × Zt} (h : okO q.2) : ∀ k, okO (hsA L man q k).2 := by
  intro k
  induction k with
  | zero => exact h
  | succ k ih => exact okO_hsP ih
theorem okO_hrS {L : Lw} {q : Int32 × Zt} (h : okO q.2) : okO (hrS L q).2 := okO_j (okO_hsA h 8) (by decide)
theorem okO_hrN {L : Lw} {q : Int32 × Zt} (h : okO q.2) : ∀ n, okO (hrN L q n).2 := by
  intro n
  induction n with
  | zero => exact h
  | succ n ih => exact okO_hrS ih
theorem fd_10 (Z : Zt) (k p : Nat) : (fdS Z k p) 10 = Z 10 := by
  unfold fdS
  split
  · rw [zs_j _ _ (by decide), zs_j _ _ (by decide), zs_j _ _ (by decide)]
  · rw [zs_j _ _ (by decide)]
theorem hsA_10 {L : Lw} {man : Nat} {q : Int32 × Zt} (i : Nat) (hi : i ≠ 0) : ∀ k, (hsA L man q k).2 10 i = q.2 10 i := by
  intro k
  induction k with
  | zero => rfl
  | succ k ih =>
    rw [hsA, hsP]
    split
    · exact ih
    · split
      · dsimp only
        rw [fd_10]
        exact ih
      · dsimp only
        rw [zs_j _ _ (show (10 : Nat) ≠ 7 by decide), zs_k _ hi]
        exact ih
theorem hrS_hour {L : Lw} {q : Int32 × Zt} : (hrS L q).2 10 1 = q.2 10 1 + 1 := by
  unfold hrS
  dsimp only
  rw [zs_eq, hsA_10 1 (by decide)]
theorem hrN_hour {L : Lw} {q : Int32 × Zt} {t : Nat} (h : q.2 10 1 = nI t) : ∀ n, (hrN L q n).2 10 1 = nI (t + n) := by
  intro n
  induction n with
  | zero => exact h
  | succ n ih => rw [hrN, hrS_hour, ih, nI_1]; rfl
section AS
variable {b o : Nat} {S : XS} {μ : mS} {L : Lw} {Z : Zt} {g : Nat → Int32}
theorem x_sy (h : zo o) (hl : LawOk b o S μ L) {p : Nat} (hp : p < 6) {part : Nat} (hpt : part < 3) : ∃ g', f_X2_says (S.2.2.1 o) (nI part) (b + o) (nI p) (AZ b o S μ Z g) = some (syS L Z p part, AZ b o S μ Z g') := by
  obtain ⟨nr, a, n, wt, dp, code, h1, h2, h3, h4, h5⟩ := hl
  obtain ⟨e1, e2⟩ := h5 part hpt
  exact x_says h hp (h4 Z) h1 h2 h3 hpt (by rw [← e1]; exact evP_ok e2 _ _)
theorem x_lawO (hl : LawOk b o S μ L) : isO (AZ b o S μ Z g) (S.2.2.1 o) 1 = true := by
  obtain ⟨nr, a, n, wt, dp, code, h1, h2, h3, h4, h5⟩ := hl
  exact (h4 Z g).o
theorem looksOf_some (K v m man : Int32) : f_X1_looksOf K v m man = some ((f_X1_looksOf K v m man).getD 0) := by
  rw [f_X1_looksOf.eq_1]
  simp only [vl]
  by_cases c : (man - man / 2 * 2) = 0
  · simp only [if_pos c]
    repeat' split
    all_goals first | rfl | (rename_i q; exact absurd q (by decide))
  · simp only [if_neg c]
    repeat' split
    all_goals first | rfl | (rename_i q; exact absurd q (by decide))
theorem x_looks (h : zo o) (hl : LawOk b o S μ L) {p : Nat} (hp : p < 6) (man : Int32) : ∃ g', f_X0_looks (b + o) (nI p) man (AZ b o S μ Z g) = some (lkS L Z p man, AZ b o S μ Z g') := by
  obtain ⟨g', e⟩ := x_sy (Z := Z) (g := g) h hl hp (part := 0) (by omega)
  refine ⟨g', ?_⟩
  rw [f_X0_looks.eq_1, gL_A h, Option.bind_some, if_pos (x_lawO hl), show (0 : Int32) = nI 0 from rfl, e, Option.bind_some]
  dsimp only
  rw [gR_A h 2 (by omega), Option.bind_some, aI_in h 2 (by omega) p hp, Option.bind_some, gR_A h 3 (by omega), Option.bind_some, aI_in h 3 (by omega) p hp, Option.bind_some, looksOf_some, Option.bind_some]
  rfl
theorem x_waits (h : zo o) (hl : LawOk b o S μ L) {p : Nat} (hp : p < 6) : ∃ g', f_X0_waits (b + o) (nI p) (AZ b o S μ Z g) = some (wtS L Z p, AZ b o S μ Z g') := by
  obtain ⟨g', e⟩ := x_sy (Z := Z) (g := g) h hl hp (part := 1) (by omega)
  refine ⟨g', ?_⟩
  rw [f_X0_waits.eq_1, gL_A h, Option.bind_some, if_pos (x_lawO hl), show (1 : Int32) = nI 1 from rfl, e, Option.bind_some]
  dsimp only
  rw [gR_A h 2 (by omega), Option.bind_some, aI_in h 2 (by omega) p hp, Option.bind_some, gR_A h 3 (by omega), Option.bind_some, aI_in h 3 (by omega) p hp, Option.bind_some, gH_A h, Option.bind_some]
  rfl
theorem dropsOf_some (K v m c : Int32) : f_X1_dropsOf K v m c = some ((f_X1_dropsOf K v m c).getD 0) := by
  rw [f_X1_dropsOf.eq_1]
  by_cases c1 : (1 : Int32) ≤ c
  · have c0 : ¬ c = 0 := fun q => by rw [q] at c1; exact absurd c1 (by decide)
    simp only [if_pos c1, if_neg c0]
    have e : ∃ r, f_J9_floorMod v c = some r := by
      rw [f_J9_floorMod.eq_1, if_neg c0]
      simp only [vl]
      repeat' split
      all_goals exact ⟨_, rfl⟩
    obtain ⟨r, e⟩ := e
    rw [e, Option.bind_some]
    repeat' split
    all_goals rfl
  · simp only [if_neg c1]
    rfl
theorem x_nth (h : zo o) {p : Nat} (hp : p < 6) : ∀ m k ahead n, k + m = 10 → m < n → f_X0_drops_46 n (b + o) (nI p) ahead (nI k) (AZ b o S μ Z g) = some (nthA (Z 4 p) m k ahead, AZ b o S μ Z g) := by
  intro m
  induction m with
  | zero =>
    intro k ahead n hk hn
    obtain ⟨n, rfl⟩ : ∃ q, n = q + 1 := ⟨n - 1, by omega⟩
    have : k = 10 := by omega
    subst this
    rw [f_X0_drops_46.eq_2, if_pos (by decide)]
    rfl
  | succ m ih =>
    intro k ahead n hk hn
    obtain ⟨n, rfl⟩ : ∃ q, n = q + 1 := ⟨n - 1, by omega⟩
    rw [f_X0_drops_46.eq_2, if_neg (ge_10 (by omega)), gR_A h 4 (by omega), Option.bind_some, aI_in h 4 (by omega) p hp, Option.bind_some, nthA]
    simp only [vl]
    rw [nI_1]
    split
    · split
      · rfl
      · exact ih (k + 1) _ n (by omega) (by omega)
    · exact ih (k + 1) _ n (by omega) (by omega)
theorem x_drops (h : zo o) (hl : LawOk b o S μ L) {p : Nat} (hp : p < 6) : ∃ g', f_X0_drops (b + o) (nI p) (AZ b o S μ Z g) = some (drS L Z p, AZ b o S μ Z g') := by
  obtain ⟨g', e⟩ := x_sy (Z := Z) (g := g) h hl hp (part := 2) (by omega)
  rw [f_X0_drops.eq_1, gR_A h 4 (by omega), Option.bind_some, aI_in h 4 (by omega) p hp, Option.bind_some, drS]
  simp only [vl]
  by_cases c : bc (Z 4 p) = 0
  · refine ⟨g, ?_⟩
    rw [if_pos (show f_J6_bitCount (Z 4 p) = 0 from c), if_pos c]
  · refine ⟨g', ?_⟩
    rw [if_neg (show ¬ f_J6_bitCount (Z 4 p) = 0 from c), if_neg c, gR_A h 2 (by omega), Option.bind_some, aI_in h 2 (by omega) p hp, Option.bind_some, gL_A h, Option.bind_some, if_pos (x_lawO hl), show (2 : Int32) = nI 2 from rfl, e, Option.bind_some]
    dsimp only
    rw [gR_A h 3 (by omega), Option.bind_some, aI_in h 3 (by omega) p hp, Option.bind_some, dropsOf_some, Option.bind_some]
    exact x_nth h hp 10 0 _ fU (by omega) (fU_lt (by omega))
theorem x_stoops (h : zo o) (hl : LawOk b o S μ L) {p man : Nat} (hp : p < 6) (hm : man < 6) : ∃ g', f_X0_stoops (b + o) (nI man) (nI p) (AZ b o S μ Z g) = some (stS L Z man p, AZ b o S μ Z g') := by
  obtain ⟨g', e⟩ := x_looks (Z := Z) (g := g) h hl hp (nI man)
  refine ⟨g', ?_⟩
  rw [f_X0_stoops.eq_1, gR_A h 1 (by omega), Option.bind_some, aI_in h 1 (by omega) man hm, Option.bind_some, if_pos (isO_A h), e, Option.bind_some, stS]
  dsimp only
  split <;> rfl
theorem x_stooping (h : zo o) (hl : LawOk b o S μ L) {p : Nat} (hp : p < 6) : ∃ g', f_X0_stooping (b + o) (nI p) (AZ b o S μ Z g) = some (spA L Z p 6, AZ b o S μ Z g') := by
  rw [f_X0_stooping.eq_1]
  refine loopN (fun k n => ∀ g, ∃ g', f_X0_stooping_4 n (b + o) (nI p) (spA L Z p k) (nI k) (AZ b o S μ Z g) = some (spA L Z p 6, AZ b o S μ Z g')) 6 (fun n g => ?_) (fun k n hk ih g => ?_) fU (fU_lt (by decide)) g
  · exact ⟨g, by rw [f_X0_stooping_4.eq_2, if_pos (by decide)]⟩
  · obtain ⟨g1, e⟩ := x_stoops (Z := Z) (g := g) h hl hp hk
    obtain ⟨g2, e2⟩ := ih g1
    refine ⟨g2, ?_⟩
    rw [f_X0_stooping_4.eq_2, if_neg (ge_6 hk), if_pos (isO_A h), e, Option.bind_some]
    simp only [vl]
    rw [nI_1]
    exact e2
theorem x_can (h : zo o) {p : Nat} (hp : p < 6) : f_X0_canLetFall (b + o) (nI p) (AZ b o S μ Z g) = some (clS Z p) := by
  rw [f_X0_canLetFall.eq_1, gR_A h 4 (by omega), Option.bind_some, aI_in h 4 (by omega) p hp, Option.bind_some, clS]
  split
  · rfl
  · rw [if_pos (isO_A h), x_lying h, Option.bind_some]
    split <;> rfl
theorem x_letLoop (h : zo o) {p which hours : Int32} : ∀ m k n, k + m = 8 → m < n → f_X0_letFall_15 n (b + o) p which hours (nI k) (AZ b o S μ Z g) = some ((lfA Z p which hours m k).1, AZ b o S μ (lfA Z p which hours m k).2 g) := by
  intro m
  induction m with
  | zero =>
    intro k n hk hn
    obtain ⟨n, rfl⟩ : ∃ q, n = q + 1 := ⟨n - 1, by omega⟩
    have : k = 8 := by omega
    subst this
    rw [f_X0_letFall_15.eq_2, if_pos (by decide)]
    rfl
  | succ m ih =>
    intro k n hk hn
    obtain ⟨n, rfl⟩ : ∃ q, n = q + 1 := ⟨n - 1, by omega⟩
    rw [f_X0_letFall_15.eq_2, if_neg (ge_8 (by omega)), lfA]
    split
    · rfl
    · rw [gR_A h 7 (by omega), Option.bind_some, aI_in h 7 (by omega) k (show k < 8 by omega), Option.bind_some]
      split
      · rw [Option.bind_some, sI_in h 7 (by omega) k (show k < 8 by omega), Option.bind_some, gR_A h 8 (by omega), Option.bind_some, sI_in h 8 (by omega) k (show k < 8 by omega), Option.bind_some, gR_A h 9 (by omega), Option.bind_some, sI_in h 9 (by omega) k (show k < 8 by omega), Option.bind_some]
      · simp only [vl]
        rw [nI_1]
        exact ih (k + 1) n (by omega) (by omega)
theorem x_letFall (h : zo o) (hl : LawOk b o S μ L) {p : Nat} (hp : p < 6) : ∃ g', f_X0_letFall (b + o) (nI p) (AZ b o S μ Z g) = some ((lfS L Z p).1, AZ b o S μ (lfS L Z p).2 g') := by
  obtain ⟨g1, e1⟩ := x_drops (Z := Z) (g := g) h hl hp
  obtain ⟨g2, e2⟩ := x_waits (Z := Z) (g := g1) h hl hp
  refine ⟨g2, ?_⟩
  rw [f_X0_letFall.eq_1, if_pos (isO_A h), e1, Option.bind_some, if_pos (isO_A h), e2, Option.bind_some]
  exact x_letLoop h 8 0 fU (by omega) (fU_lt (by omega))
theorem x_fade (h : zo o) {p k : Nat} (hp : p < 6) (hk : k < 8) : f_X0_fade (b + o) (nI k) (nI p) (AZ b o S μ Z g) = some (AZ b o S μ (fdS Z k p) g) := by
  rw [f_X0_fade.eq_1, gR_A h 9 (by omega), Option.bind_some, aI_in h 9 (by omega) k hk, Option.bind_some, sI_in h 9 (by omega) k hk, Option.bind_some, gR_A h 9 (by omega), Option.bind_some, aI_in h 9 (by omega) k hk, Option.bind_some, zs_eq, fdS]
  split
  · rw [gR_A h 7 (by omega), Option.bind_some, sI_in h 7 (by omega) k hk, Option.bind_some, gR_A h 6 (by omega), Option.bind_some, Option.bind_some, aI_in h 6 (by omega) p hp, Option.bind_some, sI_in h 6 (by omega) p hp, Option.bind_some]
    rw [zs_j _ _ (by decide), zs_j _ _ (by decide)]
  · rfl
theorem x_hourLoop (h : zo o) (hl : LawOk b o S μ L) {man : Nat} (hm : man < 6) (K : Nat → Int32 → Int32 → Int32 → mS → Option (Int32 × mS)) (x1 x3 : Int32) (q : Int32 × Zt) (hq : okO q.2) : ∀ n, 8 < n → ∃ g', f_X0_passHours_21 K n (b + o) x1 q.1 x3 (nI man) (nI 0) (AZ b o S μ q.2 g) = K (b + o) x1 (hsA L man q 8).1 (x3 + 1) (AZ b o S μ (zs (hsA L man q 8).2 10 1 ((hsA L man q 8).2 10 1 + 1)) g') := by
  intro n hn
  refine loopN (fun k n => ∀ g, ∃ g', f_X0_passHours_21 K n (b + o) x1 (hsA L man q k).1 x3 (nI man) (nI k) (AZ b o S μ (hsA L man q k).2 g) = K (b + o) x1 (hsA L man q 8).1 (x3 + 1) (AZ b o S μ (zs (hsA L man q 8).2 10 1 ((hsA L man q 8).2 10 1 + 1)) g')) 8 (fun n g => ?_) (fun k n hk ih g => ?_) n hn g
  · refine ⟨g, ?_⟩
    rw [f_X0_passHours_21.eq_2, if_pos (by decide), gH_A h, Option.bind_some, pH_A h, Option.bind_some]
    rfl
  · have ho := okO_hsA (L := L) (man := man) hq k
    rw [hsA] at ih
    generalize hsA L man q k = r at ih ho ⊢
    obtain ⟨pk, Y⟩ := r
    dsimp only at ho ⊢
    rw [hsP] at ih
    dsimp only at ih
    rcases ho k hk with c | ⟨p, hp, c⟩
    · rw [if_pos c] at ih
      obtain ⟨g', e⟩ := ih g
      refine ⟨g', ?_⟩
      rw [f_X0_passHours_21.eq_2, if_neg (ge_8 hk), gR_A h 7 (by omega), Option.bind_some, aI_in h 7 (by omega) k hk, Option.bind_some, if_pos c, f_X0_passHours_105.eq_1, if_pos c]
      simp only [vl]
      rw [nI_1]
      exact e
    · have cn : ¬ Y 7 k = -1 := by
        rw [c]
        intro z
        have z2 : (nI p).toInt = ((-1 : Int32)).toInt := by rw [z]
        rw [nI_toInt (by omega)] at z2
        have z3 : ((-1 : Int32)).toInt = -1 := by decide
        omega
      have cp : (Y 7 k).toNatClampNeg = p := by rw [c, nI_clamp (by omega)]
      rw [if_neg cn, cp] at ih
      obtain ⟨g1, e1⟩ := x_looks (Z := Y) (g := g) h hl hp (nI man)
      by_cases c2 : Y 1 man + lkS L Y p (nI man) < 100
      · rw [if_pos c2] at ih
        obtain ⟨g', e⟩ := ih g1
        refine ⟨g', ?_⟩
        rw [f_X0_passHours_21.eq_2, if_neg (ge_8 hk), gR_A h 7 (by omega), Option.bind_some, aI_in h 7 (by omega) k hk, Option.bind_some, if_neg cn, gR_A h 1 (by omega), Option.bind_some, aI_in h 1 (by omega) man hm, Option.bind_some, if_pos (isO_A h), c, e1, Option.bind_some, if_pos c2, f_X0_passHours_105.eq_1, if_neg (by rw [← c]; exact cn), if_pos (isO_A h), x_fade h hp hk, Option.bind_some]
        simp only [vl]
        rw [nI_1]
        exact e
      · rw [if_neg c2] at ih
        obtain ⟨g', e⟩ := ih g1
        refine ⟨g', ?_⟩
        rw [f_X0_passHours_21.eq_2, if_neg (ge_8 hk), gR_A h 7 (by omega), Option.bind_some, aI_in h 7 (by omega) k hk, Option.bind_some, if_neg cn, gR_A h 1 (by omega), Option.bind_some, aI_in h 1 (by omega) man hm, Option.bind_some, if_pos (isO_A h), c, e1, Option.bind_some, if_neg c2, gR_A h 8 (by omega), Option.bind_some, aI_in h 8 (by omega) k hk, Option.bind_some]
        simp only [vl]
        rw [gA_A h, Option.bind_some, Option.bind_some, aI_in h 8 (by omega) k hk, Option.bind_some, pA_A h, Option.bind_some, gR_A h 7 (by omega), Option.bind_some, sI_in h 7 (by omega) k hk, Option.bind_some, nI_1]
        exact e
theorem x_passHours (h : zo o) (hl : LawOk b o S μ L) (hq : okO Z) {t : Nat} (ht : Z 10 1 = nI t) (n : Nat) (hn : n < 4000) (ht2 : t < 100000) : ∃ g', f_X0_passHours (b + o) (nI n) (AZ b o S μ Z g) = some ((hrN L (0, Z) n).1, AZ b o S μ (hrN L (0, Z) n).2 g') := by
  rw [f_X0_passHours.eq_1]
  refine loopN (fun k f => ∀ g, ∃ g', f_X0_passHours_4 f (b + o) (nI n) (hrN L (0, Z) k).1 (nI k) (AZ b o S μ (hrN L (0, Z) k).2 g) = some ((hrN L (0, Z) n).1, AZ b o S μ (hrN L (0, Z) n).2 g')) n (fun f g => ?_) (fun k f hk ih g => ?_) fU (fU_lt (by omega)) g
  · refine ⟨g, ?_⟩
    rw [f_X0_passHours_4.eq_2, if_pos (nI_le (Nat.le_refl n) (by omega))]
  · have ho := okO_hrN (L := L) (q := (0, Z)) hq k
    have hh := hrN_hour (L := L) (q := (0, Z)) ht k
    rw [hrN] at ih
    generalize hrN L (0, Z) k = r at ih ho hh ⊢
    have em : manS r.2 = (t + k) % 6 := by rw [manS, hh, nI_clamp (by omega)]
    have e6 : (nI (t + k) - nI (t + k) / (6 : Int32) * (6 : Int32)) = nI ((t + k) % 6) := pk_rem (a := t + k) (d := 6) (by omega) (by omega) (by decide)
    obtain ⟨g1, e1⟩ := x_hourLoop (g := g) h hl (man := (t + k) % 6) (Nat.mod_lt _ (by omega)) (f_X0_passHours_4 f) (nI n) (nI k) r ho fU (fU_lt (by omega))
    obtain ⟨g2, e2⟩ := ih g1
    refine ⟨g2, ?_⟩
    rw [f_X0_passHours_4.eq_2, if_neg (nI_ge hk (by omega)), gH_A h, Option.bind_some, hh]
    simp only [vl]
    rw [e6]
    refine e1.trans ?_
    rw [nI_1]
    rw [hrS, em] at e2
    dsimp only at e2 ⊢
    exact e2
end AS
