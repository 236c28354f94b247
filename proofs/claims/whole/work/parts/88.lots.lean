/-! drawn, odds: assizes by lots. -/
theorem lW_toInt {n : Nat} (h : n < 2 ^ 62) : (lN n).toInt = (n : Int) := lg_ofNat_toInt (by omega)
theorem lW_rem {a d : Nat} (ha : a < 2 ^ 62) (h0 : 0 < d) (hd : d < 2 ^ 62) : lN a - lN a / lN d * lN d = lN (a % d) := by
  have e : lN a / lN d = lN (a / d) := by
    have h : a / d ≤ a := Nat.div_le_self a d
    refine Int64.toInt_inj.mp ?_
    rw [Jvm.Kit.i64_div (by rw [lW_toInt ha]; omega), lW_toInt ha, lW_toInt hd, lW_toInt (by omega), Int.tdiv_eq_ediv_of_nonneg (by omega)]
    rfl
  have h : a / d * d ≤ a := Nat.div_mul_le_self a d
  rw [e, lN_mul, lN_sub h]
  congr 1
  have := Nat.div_add_mod a d
  rw [Nat.mul_comm] at this
  omega
def lotN (l : Nat) : Nat := l * 48271 % 2147483647
theorem lotN_lt (l : Nat) : lotN l < 2147483647 := Nat.mod_lt _ (by omega)
theorem lot_l {l : Nat} (h : l < 2 ^ 31) : (lN l * (48271 : Int64)) - (lN l * (48271 : Int64)) / (2147483647 : Int64) * (2147483647 : Int64) = lN (lotN l) := by
  rw [show (48271 : Int64) = lN 48271 from rfl, show (2147483647 : Int64) = lN 2147483647 from rfl, lN_mul, lW_rem (by omega) (by omega) (by omega)]
  rfl
theorem lot_p {l : Nat} (h : l < 2 ^ 31) : (lN l - lN l / (8 : Int64) * (8 : Int64)).toInt32 = nI (l % 8) := by
  rw [show (8 : Int64) = lN 8 from rfl, lW_rem (by omega) (by omega) (by omega), lN_i]
def asP (L : Lw) (Z : Zt) (p : Nat) : Zt := if p < wN Z then (if clS Z p = 0 then Z else (lfS L Z p).2) else Z
def asA (L : Lw) : Nat → Nat → Zt → Zt
  | 0, _, Z => Z
  | d + 1, l, Z => asA L d (lotN l) (hZ L (asP L Z (lotN l % 8)))
section AS
variable {b m : Nat} {S : XS} {O O' : MS} {μ μm : mS} {tc r : Nat} {T : Nat → Lw} {Q : Nat → Nat} {Z Y : Zt} {g : Nat → Int32} {L : Lw}
theorem asP_row (p : Nat) : (asP L Z p) 10 1 = Z 10 1 ∧ (asP L Z p) 10 2 = Z 10 2 ∧ ∀ j, j < 4 → asP L Z p j = Z j := by
  unfold asP
  split
  · split
    · exact ⟨rfl, rfl, fun _ _ => rfl⟩
    · exact ⟨lfS_hour.1, lfS_hour.2.1, lfS_hour.2.2.2⟩
  · exact ⟨rfl, rfl, fun _ _ => rfl⟩
theorem asP_g (hg : gZ Z) (hr : LawR O L) (p : Nat) : gZ (asP L Z p) := by
  unfold asP
  split
  · split
    · exact hg
    · rename_i h1 h2
      obtain ⟨k0, a1, a2, a3, a4, a5⟩ := lf_all hg hr h1 h2
      exact a5
  · exact hg
theorem asA_row : ∀ d l Z t, Z 10 1 = nI t → asA L d l Z 10 1 = nI (t + d) ∧ asA L d l Z 10 2 = Z 10 2 ∧ ∀ j, j < 4 → asA L d l Z j = Z j := by
  intro d
  induction d with
  | zero => intro l Z t h; exact ⟨h, rfl, fun _ _ => rfl⟩
  | succ d ih =>
    intro l Z t h
    obtain ⟨h1, h2, h3⟩ := asP_row (L := L) (Z := Z) (lotN l % 8)
    obtain ⟨i1, i2, i3⟩ := ih (lotN l) (hZ L (asP L Z (lotN l % 8))) (t + 1) (by rw [hZ_hour, h1, h, nI_1])
    refine ⟨by rw [asA, i1]; congr 1; omega, by rw [asA, i2, hZ_w, h2], fun j hj => by rw [asA, i3 j hj, hZ_row (by omega) (by omega) (by omega) (by omega), h3 j hj]⟩
theorem zEq.asP_ (h : zEq Z Y) (hg : gZ Z) (p : Nat) : zEq (asP L Z p) (asP L Y p) := by
  have h6 := hg.w6
  unfold asP
  rw [← h.w]
  by_cases c : p < wN Z
  · rw [if_pos c, if_pos c, ← h.cl (by omega)]
    split
    · exact h
    · exact (h.lf (by omega)).2
  · rw [if_neg c, if_neg c]; exact h
theorem zEq.asA_ (hr : LawR O L) : ∀ d l Z Y, zEq Z Y → gZ Z → zEq (asA L d l Z) (asA L d l Y) := by
  intro d
  induction d with
  | zero => intro l Z Y h _; exact h
  | succ d ih =>
    intro l Z Y h hg
    have g1 := asP_g hg hr (lotN l % 8)
    exact ih _ _ _ ((h.asP_ hg _).cZ g1) (gZ_hZ g1)
theorem x_holdL (R : RLx b m S O μ tc r T Q) : ∀ d k l n Z g t, k + d = 10 → d < n → l < 2 ^ 31 → gZ Z → Z 10 1 = nI t → t + d ≤ 2000 → ∃ g', f_X5_holdAssizes_19 n b (lN l) (nI k) (TA b S (S.2.2.1 11) (memM m O μ) Z g) = some (TA b S (S.2.2.1 11) (memM m O μ) (asA (T r) d l Z) g') := by
  intro d
  induction d with
  | zero =>
    intro k l n Z g t hk hn hl hg ht h2
    obtain ⟨n, rfl⟩ : ∃ z, n = z + 1 := ⟨n - 1, by omega⟩
    have : k = 10 := by omega
    subst this
    exact ⟨g, by rw [f_X5_holdAssizes_19.eq_2, if_pos (show (10 : Int32) ≤ nI 10 by decide), asA]⟩
  | succ d ih =>
    intro k l n Z g t hk hn hl hg ht h2
    obtain ⟨n, rfl⟩ : ∃ z, n = z + 1 := ⟨n - 1, by omega⟩
    have h6 := hg.w6
    have hlt := lotN_lt l
    have hp8 : lotN l % 8 < 8 := Nat.mod_lt _ (by omega)
    have go : ∀ V g, V = asP (T r) Z (lotN l % 8) → ∃ g', f_X5_holdAssizes_78 (f_X5_holdAssizes_19 n) b (lN (lotN l)) (nI k) (TA b S (S.2.2.1 11) (memM m O μ) V g) = some (TA b S (S.2.2.1 11) (memM m O μ) (asA (T r) (d + 1) l Z) g') := by
      intro V g eV
      have gV : gZ V := by rw [eV]; exact asP_g hg (R.lr (keepO.rf O)) _
      have hV : V 10 1 = nI t := by rw [eV, (asP_row _).1]; exact ht
      obtain ⟨v, g1, e1⟩ := t_pass1 (g := g) R gV hV (by omega) O
      obtain ⟨g', e2⟩ := ih (k + 1) (lotN l) n (hZ (T r) V) g1 (t + 1) (by omega) (by omega) (by omega) (gZ_hZ gV) (by rw [hZ_hour, hV, nI_1]) (by omega)
      refine ⟨g', ?_⟩
      rw [f_X5_holdAssizes_78.eq_1, t5, Option.bind_some, if_pos tO, e1, Option.bind_some, vl_eq, nI_1, asA, ← eV]
      exact e2
    rw [f_X5_holdAssizes_19.eq_2, if_neg (ge_10 (show k < 10 by omega)), vl_eq, lot_l hl, vl_eq, lot_p (by omega), t5, Option.bind_some, if_pos tO, show f_X0_hasWitness (b + 33) (nI (lotN l % 8)) (TA b S (S.2.2.1 11) (memM m O μ) Z g) = some (f_X5_isBelow (nI (lotN l % 8)) (Z 10 2)) from x_has zo33 _, Option.bind_some]
    by_cases c : f_X5_isBelow (nI (lotN l % 8)) (Z 10 2) = 0
    · rw [if_pos c]
      refine go Z g ?_
      rw [asP, if_neg]
      intro z
      rw [has_y hg z] at c
      exact absurd c (by decide)
    · rw [if_neg c]
      obtain ⟨p, hp, ep⟩ := has_k hg c
      have ep2 : lotN l % 8 = p := (nI_eq (by omega) (by omega)).mp ep
      rw [ep2] at go ⊢
      rw [Option.bind_some, if_pos tO, show f_X0_canLetFall (b + 33) (nI p) (TA b S (S.2.2.1 11) (memM m O μ) Z g) = some (clS Z p) from x_can zo33 (by omega), Option.bind_some]
      by_cases c2 : clS Z p = 0
      · rw [if_pos c2]
        refine go Z g ?_
        rw [asP, if_pos hp, if_pos c2]
      · rw [if_neg c2]
        obtain ⟨v, g1, e1⟩ := t_let (Z := Z) (g := g) R (show p < 6 by omega) O
        rw [Option.bind_some, if_pos tO, e1, Option.bind_some]
        refine go _ g1 ?_
        rw [asP, if_pos hp, if_neg c2]
theorem seed_l {s : Nat} (hs : s < 2 ^ 30) : (nI s).toInt64 + (1 : Int64) = lN (s + 1) := by rw [nI_l (by omega), lN_1]
theorem x_hold (R : RLx b m S O μ tc r T Q) {s : Nat} (hs : s < 2 ^ 30) (q : Nat) (Z : Zt) (g : Nat → Int32) : ∃ V g', f_X5_holdAssizes b (nI s) (TA b S q (memM m O μ) Z g) = some (TA b S (S.2.2.1 11) (memM m O μ) V g') ∧ zEq (asA (T r) 10 (s + 1) (zof S 11)) V := by
  obtain ⟨Y, e1, hY⟩ := th_beg (b := b) (S := S) (μ := memM m O μ) q Z g
  obtain ⟨t, ht, et⟩ := R.h
  obtain ⟨g', e2⟩ := x_holdL R 10 0 (s + 1) fU Y g t (by omega) (fU_lt (by omega)) (by omega) (R.g.eq hY) (by rw [← hY.2 1 (by decide)]; exact et) (by omega)
  refine ⟨_, g', ?_, zEq.asA_ (R.lr (keepO.rf O)) 10 (s + 1) _ _ hY R.g⟩
  rw [f_X5_holdAssizes.eq_1, t5, Option.bind_some, t3, Option.bind_some, if_pos tO, e1, Option.bind_some, vl_eq, seed_l hs]
  exact e2
theorem m_asL (μ : mS) (hg0 : gZ Y) (hY3 : True) : ∀ d k l n Z t O, k + d = 10 → d < n → l < 2 ^ 31 → gZ Z → Z 10 1 = nI t → t + d ≤ 2000 → MZ O Z → KP O Y → LawR O L → sameC Z Y → ∃ O', f_X6_assizes_12 n m (lN l) (nI k) (memM m O μ) = some (wtA (asA L d l Z 0) (asA L d l Z 10 0) 10, memM m O' μ) ∧ keepO O O' ∧ MZ O' Y ∧ O'.1 37 = asA L d l Z 10 0 := by
  intro d
  induction d with
  | zero =>
    intro k l n Z t O hk hn hl hg ht h2 hz hkp hr hs
    obtain ⟨n, rfl⟩ : ∃ z, n = z + 1 := ⟨n - 1, by omega⟩
    have : k = 10 := by omega
    subst this
    have z1 : MZ (smI O 37 (Z 10 0)) Z := hz
    have kp1 : KP (smI O 37 (Z 10 0)) Y := hkp
    obtain ⟨O1, e1, a1, zz⟩ := m_lays (m := m) (μ := μ) z1 hs kp1
    have e37 : O1.1 37 = Z 10 0 := by rw [a1.1 37 (by decide) (by decide), smI_at, if_pos rfl]
    refine ⟨O1, ?_, (keepO.i O _ (by omega)).tr a1.o, zz, e37⟩
    have ew : wtA (Y 0) (Z 10 0) 10 = wtA (Z 0) (Z 10 0) 10 := by
      have : Z 0 = Y 0 := funext fun k => hs.1 0 k (by omega)
      rw [this]
    rw [f_X6_assizes_12.eq_2, if_pos (show (10 : Int32) ≤ nI 10 by decide), mI_7, Option.bind_some, hz.ad, mp_37, Option.bind_some, if_pos isO_M, e1, Option.bind_some, mI_37, Option.bind_some, if_pos isO_M, e37, m_verdictOf zz, Option.bind_some, asA, ew]
  | succ d ih =>
    intro k l n Z t O hk hn hl hg ht h2 hz hkp hr hs
    obtain ⟨n, rfl⟩ : ∃ z, n = z + 1 := ⟨n - 1, by omega⟩
    have h6 := hg.w6
    have hlt := lotN_lt l
    have hp8 : lotN l % 8 < 8 := Nat.mod_lt _ (by omega)
    have go : ∀ V P, V = asP L Z (lotN l % 8) → MZ P V → mkA O P → ∃ O', f_X6_assizes_88 (f_X6_assizes_12 n) m (lN (lotN l)) (nI k) (memM m P μ) = some (wtA (asA L (d + 1) l Z 0) (asA L (d + 1) l Z 10 0) 10, memM m O' μ) ∧ keepO O O' ∧ MZ O' Y ∧ O'.1 37 = asA L (d + 1) l Z 10 0 := by
      intro V P eV zP kP
      have gV : gZ V := by rw [eV]; exact asP_g hg hr _
      have hV : V 10 1 = nI t := by rw [eV, (asP_row _).1]; exact ht
      obtain ⟨O1, e1, a1, z1⟩ := m_hourOf (m := m) (μ := μ) (hr.k kP) zP gV hV (by omega)
      have k1 := kP.tr a1
      obtain ⟨O', e2, a2, z2, v37⟩ := ih (k + 1) (lotN l) n (hZ L V) (t + 1) O1 (by omega) (by omega) (by omega) (gZ_hZ gV) (by rw [hZ_hour, hV, nI_1]) (by omega) z1 (hkp.k k1) (hr.k k1) ⟨fun j i hj => by rw [hZ_row (by omega) (by omega) (by omega) (by omega), eV, (asP_row _).2.2 j hj]; exact hs.1 j i hj, by rw [hZ_w, eV, (asP_row _).2.1]; exact hs.2⟩
      have ea : asA L (d + 1) l Z = asA L d (lotN l) (hZ L V) := by rw [asA, eV]
      refine ⟨O', ?_, k1.o.tr a2, z2, by rw [ea]; exact v37⟩
      rw [f_X6_assizes_88.eq_1, if_pos isO_M, e1, Option.bind_some, vl_eq, nI_1, ea]
      exact e2
    rw [f_X6_assizes_12.eq_2, if_neg (ge_10 (show k < 10 by omega)), vl_eq, lot_l hl, vl_eq, lot_p (by omega), mI_0, Option.bind_some, hz.wi, hg.wI]
    by_cases c : wN Z ≤ lotN l % 8
    · rw [if_pos (nI_le c (by omega)), vl_eq, if_pos rfl, f_X6_assizes_71.eq_1, if_pos rfl]
      refine go Z O ?_ hz (mkA.rf O)
      rw [asP, if_neg (by omega)]
    · rw [if_neg (nI_ge (by omega) (by omega)), vl_eq, if_neg (by decide), if_pos isO_M, show f_X6_within (nI (lotN l % 8)) 0 5 = nI (lotN l % 8) from within_nI (N := 5) (by omega) (by decide), m_can hz (by omega), Option.bind_some, f_X6_assizes_71.eq_1]
      by_cases c2 : clS Z (lotN l % 8) = 0
      · rw [if_pos c2]
        refine go Z O ?_ hz (mkA.rf O)
        rw [asP, if_pos (by omega), if_pos c2]
      · rw [if_neg c2, if_pos isO_M, show f_X6_within (nI (lotN l % 8)) 0 5 = nI (lotN l % 8) from within_nI (N := 5) (by omega) (by decide)]
        obtain ⟨O1, e1, a1, z1⟩ := m_dropOf (m := m) (μ := μ) hz hg hr (show lotN l % 8 < wN Z by omega) c2
        rw [e1, Option.bind_some]
        refine go _ O1 ?_ z1 a1
        rw [asP, if_pos (by omega), if_neg c2]
theorem m_as (hz : MZ O Y) (hg : gZ Y) (hr : LawR O L) {t : Nat} (ht : Y 10 1 = nI t) (h2 : t ≤ 999) {s : Nat} (hs : s < 2 ^ 30) : ∃ O', f_X6_assizes m (nI s) (memM m O μ) = some (wtA (asA L 10 (s + 1) Y 0) (asA L 10 (s + 1) Y 10 0) 10, memM m O' μ) ∧ keepO O O' ∧ MZ O' Y ∧ O'.1 37 = asA L 10 (s + 1) Y 10 0 := by
  obtain ⟨O1, a1, a2, a3, a4⟩ := m_keeps (m := m) (μ := μ) hz
  obtain ⟨O2, b1, b2, b3, b4⟩ := m_asL (m := m) μ hg trivial 10 0 (s + 1) fU Y t O1 (by omega) (fU_lt (by omega)) (by omega) hg ht (by omega) a3 a4 (hr.kk a2) ⟨fun _ _ _ => rfl, rfl⟩
  refine ⟨O2, ?_, a2.o.tr b2, b3, b4⟩
  rw [f_X6_assizes.eq_1, vl_eq, seed_l hs, if_pos isO_M, a1, Option.bind_some]
  exact b1
theorem k_drawn (x1 x2 : Int32) : Call b m (f_X5_drawn b x1 x2) (f_X6_drawn m x1 x2) := by
  refine Call.th fun S O μ tc r T Q R => ?_
  by_cases q : f_X5_isBelow x1 100000 = 0
  · exact th_same R (-5000) (by rw [f_X5_drawn.eq_1, if_pos q]) (fun μ1 => by rw [f_X6_drawn.eq_1, i_100000, if_pos q])
  by_cases q2 : f_X5_isBelow x2 2 = 0
  · exact th_same R (-5000) (by rw [f_X5_drawn.eq_1, if_neg q, if_pos q2]) (fun μ1 => by rw [f_X6_drawn.eq_1, i_100000, if_neg q, i_2, if_pos q2])
  obtain ⟨s, hs, rfl⟩ := b_100000 x1 q
  obtain ⟨V, g', e1, hV⟩ := x_hold R (show s < 2 ^ 30 by omega) (S.2.2.1 33) (zof S 33) (S.2.1 10)
  rw [← TA_start] at e1
  obtain ⟨t, ht, et⟩ := R.h
  refine ⟨if x2 = 0 then wtA (asA (T r) 10 (s + 1) (zof S 11) 0) (asA (T r) 10 (s + 1) (zof S 11) 10 0) 10 else asA (T r) 10 (s + 1) (zof S 11) 10 0, S.2.2.1 11, V, g', ?_, fun μ1 => ?_⟩
  · rw [f_X5_drawn.eq_1, if_neg q, if_neg q2, Wd, if_pos isO_H, e1, Option.bind_some, hV.ver, hV.2 0 (by decide)]
    by_cases c : x2 = 0
    · rw [if_pos c, if_pos c, t5, Option.bind_some, if_pos tO, tV, Option.bind_some]
    · rw [if_neg c, if_neg c, t5, Option.bind_some, tA, Option.bind_some]
  · obtain ⟨O', f1, f2, f3, f4⟩ := m_as (m := m) (μ := μ1) R.z R.g (R.lr (keepO.rf O)) et ht (s := s) (by omega)
    refine ⟨O', ?_, f2, f3⟩
    rw [f_X6_drawn.eq_1, i_100000, if_neg q, i_2, if_neg q2, if_pos isO_M, f1, Option.bind_some]
    by_cases c : x2 = 0
    · rw [if_pos c, if_pos c]
    · rw [if_neg c, if_neg c, mI_37, Option.bind_some, f4]
def odV (L : Lw) (Z : Zt) (s : Nat) : Int32 := wtA (asA L 10 (s + 1) Z 0) (asA L 10 (s + 1) Z 10 0) 10
def odN (L : Lw) (Z : Zt) (s : Nat) (x3 : Int32) : Nat → Nat
  | 0 => 0
  | k + 1 => odN L Z s x3 k + (if odV L Z (s + k) < x3 then 0 else 1)
theorem odN_le (L : Lw) (Z : Zt) (s : Nat) (x3 : Int32) : ∀ k, odN L Z s x3 k ≤ k := by
  intro k
  induction k with
  | zero => exact Nat.le_refl 0
  | succ k ih => rw [odN]; split <;> omega
theorem x_odL (R : RLx b m S O μ tc r T Q) {s n : Nat} (hs : s < 100000) (hn1 : 1 ≤ n) (hn : n ≤ 40) (x3 x4 : Int32) : ∀ d k f q Z g, k + d = n → d < f → ∃ q' Z' g', f_X5_odds_57 f b (nI s) (nI n) x3 x4 (nI (odN (T r) (zof S 11) s x3 k)) (nI k) (TA b S q (memM m O μ) Z g) = some (if f_X5_isBelow x4 2 = 0 then -4611686018427387904 else lowV (nI (odN (T r) (zof S 11) s x3 n)) n x4, TA b S q' (memM m O μ) Z' g') := by
  intro d
  induction d with
  | zero =>
    intro k f q Z g hk hf
    obtain ⟨f, rfl⟩ : ∃ z, f = z + 1 := ⟨f - 1, by omega⟩
    have e : k = n := by omega
    subst e
    have hl := odN_le (T r) (zof S 11) s x3 k
    refine ⟨q, Z, g, ?_⟩
    rw [f_X5_odds_57.eq_2, if_pos (nI_le (Nat.le_refl _) (by omega)), low_x (by rw [nI_toInt (by omega)]; omega) (by rw [nI_toInt (by omega)]; omega) (by omega) hn, Option.bind_some]
  | succ d ih =>
    intro k f q Z g hk hf
    obtain ⟨f, rfl⟩ : ∃ z, f = z + 1 := ⟨f - 1, by omega⟩
    obtain ⟨V, g1, e1, hV⟩ := x_hold R (show s + k < 2 ^ 30 by omega) q Z g
    obtain ⟨q', Z', g', e2⟩ := ih (k + 1) f (S.2.2.1 11) V g1 (by omega) (by omega)
    refine ⟨q', Z', g', ?_⟩
    have ev : wtA (V 0) (V 10 0) 10 = odV (T r) (zof S 11) (s + k) := hV.ver.symm
    rw [f_X5_odds_57.eq_2, if_neg (nI_ge (by omega) (by omega)), if_pos (isO_4 _), nI_add, e1, Option.bind_some, t5, Option.bind_some, if_pos tO, tV, Option.bind_some, ev, vl_eq, vl_eq, vl_eq, nI_1]
    have es : nI (odN (T r) (zof S 11) s x3 k) + (if odV (T r) (zof S 11) (s + k) < x3 then (0 : Int32) else 1) = nI (odN (T r) (zof S 11) s x3 (k + 1)) := by
      rw [odN]
      split
      · exact nI_add _ 0
      · exact nI_add _ 1
    rw [es]
    exact e2
theorem m_odL (hg : gZ Y) {t : Nat} (ht : Y 10 1 = nI t) (h2 : t ≤ 999) {s n : Nat} (hs : s < 100000) (hn1 : 1 ≤ n) (hn : n ≤ 40) (x3 x4 : Int32) (μ : mS) : ∀ d k f O, k + d = n → d < f → MZ O Y → LawR O L → ∃ O', f_X6_odds_54 f m (nI s) (nI n) x3 x4 (lN (odN L Y s x3 k)) (nI k) (memM m O μ) = some (lowV (nI (odN L Y s x3 n)) n x4, memM m O' μ) ∧ keepO O O' ∧ MZ O' Y := by
  intro d
  induction d with
  | zero =>
    intro k f O hk hf hz hl
    obtain ⟨f, rfl⟩ : ∃ z, f = z + 1 := ⟨f - 1, by omega⟩
    have e : k = n := by omega
    subst e
    have hl := odN_le L Y s x3 k
    refine ⟨O, ?_, keepO.rf O, hz⟩
    have e2 : lN (odN L Y s x3 k) = (nI (odN L Y s x3 k)).toInt64 := (nI_l (by omega)).symm
    rw [f_X6_odds_54.eq_2, if_pos (nI_le (Nat.le_refl _) (by omega)), nI_l (by omega), e2, low_m (by rw [nI_toInt (by omega)]; omega) (by rw [nI_toInt (by omega)]; omega) (by omega) hn, Option.bind_some]
  | succ d ih =>
    intro k f O hk hf hz hl
    obtain ⟨f, rfl⟩ : ∃ z, f = z + 1 := ⟨f - 1, by omega⟩
    obtain ⟨O1, e1, a1, z1, _⟩ := m_as (m := m) (μ := μ) hz hg hl ht h2 (s := s + k) (by omega)
    obtain ⟨O', e2, a2, z2⟩ := ih (k + 1) f O1 (by omega) (by omega) z1 (lr_o a1 hl)
    refine ⟨O', ?_, a1.tr a2, z2⟩
    rw [f_X6_odds_54.eq_2, if_neg (nI_ge (by omega) (by omega)), if_pos isO_M, nI_add, e1, Option.bind_some, show wtA (asA L 10 (s + k + 1) Y 0) (asA L 10 (s + k + 1) Y 10 0) 10 = odV L Y (s + k) from rfl, vl_eq, vl_eq, vl_eq, nI_1]
    have es : lN (odN L Y s x3 k) + (if odV L Y (s + k) < x3 then (0 : Int64) else 1) = lN (odN L Y s x3 (k + 1)) := by
      rw [odN]
      split
      · exact lN_add _ 0
      · exact lN_add _ 1
    rw [es]
    exact e2
theorem k_odds (x1 x2 x3 x4 : Int32) : Call b m (f_X5_odds b x1 x2 x3 x4) (f_X6_odds m x1 x2 x3 x4) := by
  refine Call.th fun S O μ tc r T Q R => ?_
  have no : (if f_X5_isBelow x1 100000 = 0 then (0 : Int32) else if x2 < 1 then 0 else if 40 < x2 then 0 else 1) = 0 ∨ x3 < -999 ∨ ¬ x3 ≤ 999 → ThQ b m S O μ (f_X5_odds b x1 x2 x3 x4) (f_X6_odds m x1 x2 x3 x4) := by
    intro h
    refine th_same R (-4611686018427387904) ?_ (fun μ1 => ?_)
    · rw [f_X5_odds.eq_1, vl_eq]
      by_cases a : (if f_X5_isBelow x1 100000 = 0 then (0 : Int32) else if x2 < 1 then 0 else if 40 < x2 then 0 else 1) = 0
      · rw [if_pos a]
      · rw [if_neg a]
        by_cases a2 : x3 < -999
        · rw [if_pos a2]
        · rw [if_neg a2, if_neg ((h.resolve_left a).resolve_left a2)]
    · rw [f_X6_odds.eq_1, i_100000]
      by_cases a1 : f_X5_isBelow x1 100000 = 0
      · rw [if_pos a1]
      rw [if_neg a1]
      rw [if_neg a1] at h
      by_cases a2 : x2 < 1
      · rw [in_less a2, if_pos rfl]
      rw [if_neg a2] at h
      by_cases a3 : 40 < x2
      · rw [in_more (Int32.not_le.mpr a3), if_pos rfl]
      rw [if_neg a3] at h
      rw [in_wide a2 (Int32.not_lt.mp a3), if_neg (by decide)]
      have h := h.resolve_left (by decide)
      by_cases a4 : x3 < -999
      · rw [in_less a4, if_pos rfl]
      · rw [in_more (h.resolve_left a4), if_pos rfl]
  by_cases c1 : (if f_X5_isBelow x1 100000 = 0 then (0 : Int32) else if x2 < 1 then 0 else if 40 < x2 then 0 else 1) = 0
  · exact no (Or.inl c1)
  by_cases c2 : x3 < -999
  · exact no (Or.inr (Or.inl c2))
  by_cases c3 : x3 ≤ 999
  · have a1 : ¬ f_X5_isBelow x1 100000 = 0 := fun z => c1 (if_pos z)
    rw [if_neg a1] at c1
    have a2 : ¬ x2 < 1 := fun z => c1 (if_pos z)
    rw [if_neg a2] at c1
    have a3 : ¬ 40 < x2 := fun z => c1 (if_pos z)
    obtain ⟨s, hs, rfl⟩ := b_100000 x1 a1
    obtain ⟨n, hn, rfl⟩ := in_bounds (v := x2) (N := 40) (by decide) (by grind) (Int32.not_lt.mp a3)
    have hn1 : 1 ≤ n := by
      rcases Nat.eq_zero_or_pos n with z | z
      · rw [z] at a2; exact absurd (by decide) a2
      · exact z
    obtain ⟨t, ht, et⟩ := R.h
    obtain ⟨q', Z', g', e1⟩ := x_odL R hs hn1 hn x3 x4 n 0 fU (S.2.2.1 33) (zof S 33) (S.2.1 10) (by omega) (fU_lt (by omega))
    rw [← TA_start] at e1
    refine ⟨if f_X5_isBelow x4 2 = 0 then -4611686018427387904 else lowV (nI (odN (T r) (zof S 11) s x3 n)) n x4, q', Z', g', ?_, fun μ1 => ?_⟩
    · rw [f_X5_odds.eq_1, vl_eq, if_neg a1, if_neg a2, if_neg a3, if_neg (show ¬ (1 : Int32) = 0 by decide), if_neg c2, if_pos c3]
      exact e1
    · by_cases c4 : f_X5_isBelow x4 2 = 0
      · refine ⟨O, ?_, keepO.rf O, R.z⟩
        rw [f_X6_odds.eq_1, i_100000, if_neg a1, in_wide a2 (Int32.not_lt.mp a3), if_neg (show ¬ (1 : Int32) = 0 by decide), in_wide c2 c3, if_neg (show ¬ (1 : Int32) = 0 by decide), i_2, if_pos c4, if_pos c4]
      · obtain ⟨O', f1, f2, f3⟩ := m_odL (m := m) R.g et ht hs hn1 hn x3 x4 μ1 n 0 fU O (by omega) (fU_lt (by omega)) R.z (R.lr (keepO.rf O))
        refine ⟨O', ?_, f2, f3⟩
        rw [f_X6_odds.eq_1, i_100000, if_neg a1, in_wide a2 (Int32.not_lt.mp a3), if_neg (show ¬ (1 : Int32) = 0 by decide), in_wide c2 c3, if_neg (show ¬ (1 : Int32) = 0 by decide), i_2, if_neg c4, if_neg c4]
        exact f1
  · exact no (Or.inr (Or.inr c3))
end AS
