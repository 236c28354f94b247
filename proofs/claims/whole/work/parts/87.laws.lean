/-! laws, drawn, odds. -/
def keep4 (O O' : MS) : Prop := (∀ k, k = 10 ∨ k = 13 ∨ k = 15 → O'.1 k = O.1 k) ∧ ∀ j, (7 ≤ j ∧ j ≤ 14) ∨ j = 16 → O'.2 j = O.2 j
theorem keep4.tr {O1 O2 O3 : MS} (h : keep4 O1 O2) (h2 : keep4 O2 O3) : keep4 O1 O3 := ⟨fun k a => (h2.1 k a).trans (h.1 k a), fun j a => (h2.2 j a).trans (h.2 j a)⟩
theorem keep4.rf (O : MS) : keep4 O O := ⟨fun _ _ => rfl, fun _ _ => rfl⟩
theorem keepO.four {O O' : MS} (h : keepO O O') : keep4 O O' := ⟨fun k a => h.1 k (by omega), h.2⟩
theorem keep4.set (O : MS) (v : Int32) : keep4 O (smI O 14 v) := ⟨fun k a => upd_ne _ _ (by omega), fun _ _ => rfl⟩
theorem keep4.back {O O' : MS} {v : Int32} (h : keep4 O O') (hv : v = O.1 14) : keepO O (smI O' 14 v) := by
  refine ⟨fun k a => ?_, h.2⟩
  rw [smI_at]
  split
  · rename_i e; rw [hv, e]
  · exact h.1 k (by omega)
def laA (u : Nat → Int32) : Nat → Nat → Int32 → Int32 := kiA u
section LW
variable {b m : Nat} {S : XS} {O O' : MS} {μ μm : mS} {tc r : Nat} {T : Nat → Lw} {Q : Nat → Nat} {Z Y : Zt} {g : Nat → Int32} {L : Lw}
theorem mA14 (O : MS) (v : Int32) : MZ (smI O 14 v) Z ↔ MZ O Z := Iff.rfl
theorem sxL_sxL (S : XS) (o q q' : Nat) : sxL (sxL S o q) o q' = sxL S o q' := by
  refine Prod.ext rfl (Prod.ext rfl (Prod.ext (funext fun k => ?_) rfl))
  simp only [sxL, va_up]
  split <;> rfl
def unT (T : Nat → Lw) (cl : Nat → Int32) (Z : Zt) (n t : Nat) : Int32 := unA (T t) cl Z n 0
theorem x_laL (R : RLx b m S O μ tc r T Q) {s n : Nat} (hs : s < 4) (hn : n ≤ 20) (en : S.1 (77 + 2 * s) 2 = nI n) : ∀ d v f fit q Z g, v + d = tc → d < f → ∃ q' Z' g', f_X5_laws_17 f b (nI s) fit (nI v) (TA b S q (memM m O μ) Z g) = some (kiA (unT T (S.2.1 (77 + 2 * s + 1)) (zof S 11) n) d v fit, TA b S q' (memM m O μ) Z' g') := by
  have htc := R.2.2.1.2.1
  have e7 : ∀ q Z g, gI (TA b S q (memM m O μ) Z g) b 4 7 = some (nI tc) := fun q Z g => by
    rw [TA_S, gI_H 7 (by omega), sx_1 zo33 (by omega)]
    exact congrArg some R.2.2.1.2.2.1
  intro d
  induction d with
  | zero =>
    intro v f fit q Z g hv hf
    obtain ⟨f, rfl⟩ : ∃ z, f = z + 1 := ⟨f - 1, by omega⟩
    have : v = tc := by omega
    subst this
    exact ⟨q, Z, g, by rw [f_X5_laws_17.eq_2, e7, Option.bind_some, if_pos (nI_le (Nat.le_refl _) (by omega)), kiA]⟩
  | succ d ih =>
    intro v f fit q Z g hv hf
    obtain ⟨f, rfl⟩ : ∃ z, f = z + 1 := ⟨f - 1, by omega⟩
    obtain ⟨Y, e1, hY⟩ := th_beg (b := b) (S := S) (μ := memM m O μ) q Z g
    obtain ⟨t, ht, et⟩ := R.h
    obtain ⟨hQ, hT⟩ := R.2.2.1.2.2.2.2 v (by omega)
    have gY := R.g.eq hY
    have lk : LawOk b 33 (sxL S 33 (Q v)) (memM m O μ) (T v) := hT.ok (S1 := sxL S 33 (Q v)) zo33 ⟨rfl, rfl⟩ (by simp [sxL, va_up]) O
    obtain ⟨Z1, g1, e2⟩ := x_first (b := b) (S := S) (g := g) hs hn en lk gY (t := t) (by rw [← hY.2 1 (by decide)]; exact et) ht
    have ev : unA (T v) (S.2.1 (77 + 2 * s + 1)) Y n 0 = unT T (S.2.1 (77 + 2 * s + 1)) (zof S 11) n v := (hY.un R.g _ n 0).symm
    obtain ⟨q', Z', g', e3⟩ := ih (v + 1) f (fit ||| (if unT T (S.2.1 (77 + 2 * s + 1)) (zof S 11) n v = -1 then (1 : Int32) <<< (nI v &&& 31) else 0)) _ Z1 g1 (by omega) (by omega)
    refine ⟨q', Z', g', ?_⟩
    have ea : aR (TA b S (S.2.2.1 11) (memM m O μ) Y g) (b + 1) 1 (nI v) = some (Q v) := by
      rw [TA_S, aR_X, if_neg (nI_in (show v < 6 by omega) (by decide)), nI_clamp (by omega)]
      exact hQ
    have ep : pR (TA b S (S.2.2.1 11) (memM m O μ) Y g) (b + 33) 0 14 (Q v) = some (TA b S (Q v) (memM m O μ) Y g) := by
      rw [TA, pL_A zo33, sxL_sxL]
      rfl
    rw [f_X5_laws_17.eq_2, e7, Option.bind_some, if_neg (nI_ge (by omega) (by omega)), t5, Option.bind_some, t3, Option.bind_some, if_pos tO, e1, Option.bind_some, t5, Option.bind_some, t0, Option.bind_some, ea, Option.bind_some, ep, Option.bind_some, if_pos (isO_4 _), e2, Option.bind_some, ev, kiA]
    simp only [vl]
    rw [nI_1]
    exact e3
theorem m_laL (R : RLx b m S O μ tc r T Q) {s n : Nat} (hs : s < 4) (hn : n ≤ 20) (en : S.1 (77 + 2 * s) 2 = nI n) (μ1 : mS) : ∀ d v f fit P, v + d = tc → d < f → keep4 O P → MZ P (zof S 11) → ∃ O', f_X6_laws_23 f m (nI s) (nI r) fit (nI v) (memM m P μ1) = some (kiA (unT T (S.2.1 (77 + 2 * s + 1)) (zof S 11) n) d v fit, memM m O' μ1) ∧ keepO O O' ∧ MZ O' (zof S 11) := by
  have htc := R.2.2.1.2.1
  have hsh := R.2.2.2.2.2.1 s hs
  intro d
  induction d with
  | zero =>
    intro v f fit P hv hf hk hz
    obtain ⟨f, rfl⟩ : ∃ z, f = z + 1 := ⟨f - 1, by omega⟩
    have : v = tc := by omega
    subst this
    refine ⟨smI P 14 (nI r), ?_, hk.back R.2.2.2.1.2.1.symm, (mA14 P _).mpr hz⟩
    rw [f_X6_laws_23.eq_2, mI_13, Option.bind_some, hk.1 13 (by omega), R.2.2.1.2.2.2.1, if_pos (nI_le (Nat.le_refl _) (by omega)), mp_14, Option.bind_some, kiA]
  | succ d ih =>
    intro v f fit P hv hf hk hz
    obtain ⟨f, rfl⟩ : ∃ z, f = z + 1 := ⟨f - 1, by omega⟩
    obtain ⟨t, ht, et⟩ := R.h
    obtain ⟨hQ, hT⟩ := R.2.2.1.2.2.2.2 v (by omega)
    have k1 := hk.tr (keep4.set P (nI v))
    have lr : LawR (smI P 14 (nI v)) (T v) := hT.lr (k1.2 8 (by omega)) (k1.2 9 (by omega)) (by rw [smI_at, if_pos rfl])
    obtain ⟨O1, e1, a1, z2⟩ := m_un (m := m) (μ := μ1) (L := T v) hs hn (S.2.1 (77 + 2 * s + 1)) R.g et ht (by rw [k1.2 13 (by omega)]; exact hsh.2.1.trans en) (fun k hk => by rw [k1.2 14 (by omega)]; exact hsh.2.2.2.2 k hk) ((mA14 P (nI v)).mpr hz) lr
    obtain ⟨O', e3, a3, z3⟩ := ih (v + 1) f (fit ||| (if unT T (S.2.1 (77 + 2 * s + 1)) (zof S 11) n v = -1 then (1 : Int32) <<< (nI v &&& 31) else 0)) O1 (by omega) (by omega) (k1.tr a1.four) z2
    refine ⟨O', ?_, a3, z3⟩
    rw [f_X6_laws_23.eq_2, mI_13, Option.bind_some, hk.1 13 (by omega), R.2.2.1.2.2.2.1, if_neg (nI_ge (by omega) (by omega)), mp_14, Option.bind_some, if_pos isO_M, e1, Option.bind_some, show unA (T v) (S.2.1 (77 + 2 * s + 1)) (zof S 11) n 0 = unT T (S.2.1 (77 + 2 * s + 1)) (zof S 11) n v from rfl, kiA]
    simp only [vl]
    rw [nI_1]
    exact e3
theorem k_laws (x1 : Int32) : Call b m (f_X5_laws b x1) (f_X6_laws m x1) := by
  refine Call.th fun S O μ tc r T Q R => ?_
  have hsh := R.2.2.2.2.2.1
  have htc := R.2.2.1.2.1
  by_cases w : wrS S x1 = 0
  · obtain ⟨s, n, hs, rfl, hn, en⟩ := wr_0 hsh w
    obtain ⟨q', Z', g', e1⟩ := x_laL R hs hn en tc 0 fU 0 (S.2.2.1 33) (zof S 33) (S.2.1 10) (by omega) (fU_lt (by omega))
    rw [← TA_start] at e1
    refine ⟨kiA (unT T (S.2.1 (77 + 2 * s + 1)) (zof S 11) n) tc 0 0, q', Z', g', ?_, fun μ1 => ?_⟩
    · rw [f_X5_laws.eq_1, Wd, if_pos isO_H, x_wrong, Option.bind_some, w, if_pos rfl]
      exact e1
    · obtain ⟨O', f1, f2, f3⟩ := m_laL R hs hn en μ1 tc 0 fU 0 O (by omega) (fU_lt (by omega)) (keep4.rf O) R.z
      refine ⟨O', ?_, f2, f3⟩
      rw [f_X6_laws.eq_1, if_pos isO_M, m_wrong hsh, Option.bind_some, w, if_pos rfl, mI_14, Option.bind_some, R.2.2.2.1.2.1]
      exact f1
  · refine th_same R (wrS S x1) ?_ (fun μ1 => ?_)
    · rw [f_X5_laws.eq_1, Wd, if_pos isO_H, x_wrong, Option.bind_some, if_neg w]
    · rw [f_X6_laws.eq_1, if_pos isO_M, m_wrong hsh, Option.bind_some, if_neg w]
end LW
