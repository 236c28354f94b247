/-! The reference lets fall, passes hours, keeps and lays back. -/
section MGO
variable {m : Nat} {O : MS} {μ : mS} {Z : Zt} {L : Lw}
theorem mkA.s3 (O : MS) (g : Nat → Int32) : mkA O (smA O 3 g) := ⟨fun _ _ _ => rfl, fun j a _ _ _ => up_ne _ _ a⟩
theorem mkA.s4 (O : MS) (g : Nat → Int32) : mkA O (smA O 4 g) := ⟨fun _ _ _ => rfl, fun j _ a _ _ => up_ne _ _ a⟩
theorem mkA.i7 (O : MS) (v : Int32) : mkA O (smI O 7 v) := ⟨fun k a _ => upd_ne _ _ a, fun _ _ _ _ _ => rfl⟩
theorem mkA.i8 (O : MS) (v : Int32) : mkA O (smI O 8 v) := ⟨fun k _ a => upd_ne _ _ a, fun _ _ _ _ _ => rfl⟩
theorem aL4 {j k : Nat} (hj : j < 3) (hk : k < 8) : aI (memM m O μ) (m + (3 + 1)) (nI (3 * k + j)) = some (O.2 4 (3 * k + j)) := aM 3 (by omega) (3 * k + j) (by show _ < 24; omega) (by omega)
theorem sL4 {j k : Nat} (hj : j < 3) (hk : k < 8) (v : Int32) : sI (memM m O μ) (m + (3 + 1)) (nI (3 * k + j)) v = some (memM m (smA O 4 (upd (O.2 4) (3 * k + j) v)) μ) := sM 3 (by omega) (3 * k + j) (by show _ < 24; omega) (by omega) v
theorem aL3 {j k : Nat} (hj : j < 3) (hk : k < 6) : aI (memM m O μ) (m + (2 + 1)) (nI (3 * k + j)) = some (O.2 3 (3 * k + j)) := aM 2 (by omega) (3 * k + j) (by show _ < 18; omega) (by omega)
theorem sL3 {j k : Nat} (hj : j < 3) (hk : k < 6) (v : Int32) : sI (memM m O μ) (m + (2 + 1)) (nI (3 * k + j)) v = some (memM m (smA O 3 (upd (O.2 3) (3 * k + j) v)) μ) := sM 2 (by omega) (3 * k + j) (by show _ < 18; omega) (by omega) v
theorem m1_ne {p : Nat} (hp : p < 2 ^ 30) : ¬ nI p = (-1 : Int32) := by
  intro z
  have z2 : (nI p).toInt = ((-1 : Int32)).toInt := by rw [z]
  rw [nI_toInt (by omega)] at z2
  have z3 : ((-1 : Int32)).toInt = -1 := by decide
  omega
/-- one handkerchief of an hour -/
theorem m_hourLoop (hl : LawR O L) {man : Nat} (hm : man < 6) {q : Int32 × Zt} (hz : MZ O q.2) (hg : gZ q.2) : ∃ O', f_X6_hourOf_12 fU m q.1 (nI man) (nI 0) (memM m O μ) = some ((hsA L man q 8).1, memM m O' μ) ∧ mkA O O' ∧ MZ O' (zs (hsA L man q 8).2 10 1 ((hsA L man q 8).2 10 1 + 1)) := by
  refine loopN (fun k n => ∀ P, mkA O P → MZ P (hsA L man q k).2 → ∃ O', f_X6_hourOf_12 n m (hsA L man q k).1 (nI man) (nI k) (memM m P μ) = some ((hsA L man q 8).1, memM m O' μ) ∧ mkA O O' ∧ MZ O' (zs (hsA L man q 8).2 10 1 ((hsA L man q 8).2 10 1 + 1))) 8 (fun n P hk hz => ?_) (fun k n hk ih P hkP hz => ?_) fU (fU_lt (by decide)) O (mkA.rf O) hz
  · refine ⟨smI P 8 (P.1 8 + 1), ?_, hk.tr (mkA.i8 _ _), ?_⟩
    · rw [f_X6_hourOf_12.eq_2, if_pos (by decide), mI_8, Option.bind_some, mp_8, Option.bind_some]
    · rw [hz.hr]
      exact hz.i8 _
  · have hgk := gZ_hsA (L := L) (man := man) hg k (by omega)
    rw [hsA] at ih
    generalize hsA L man q k = r at ih hz hgk ⊢
    obtain ⟨pk, Y⟩ := r
    dsimp only at hz hgk ⊢
    rw [hsP] at ih
    dsimp only at ih
    have h6 := hgk.w6
    rcases hgk.2.2.2.2.2 k hk with c | ⟨⟨p, hp, c⟩, e2, e3⟩
    · rw [if_pos c] at ih
      obtain ⟨O', f1, f2⟩ := ih P hkP hz
      refine ⟨O', ?_, f2⟩
      rw [f_X6_hourOf_12.eq_2, if_neg (ge_8 hk), if_pos isO_M, m_isLinen hz hk, if_pos c, Option.bind_some, if_pos rfl]
      simp only [vl]
      rw [nI_1]
      exact f1
    · have cn : ¬ Y 7 k = -1 := by rw [c]; exact m1_ne (by omega)
      have cp : (Y 7 k).toNatClampNeg = p := by rw [c, nI_clamp (by omega)]
      rw [if_neg cn, cp] at ih
      obtain ⟨P1, e1, k1⟩ := m_doesStoop (m := m) (μ := μ) hz hgk (hl.k hkP) hp hm
      have hz1 := hz.k k1
      have hk1 := hkP.tr k1.a
      have w0 : f_X6_within (nI p) 0 5 = nI p := within_nI (N := 5) (by omega) (by omega)
      have a0 : aI (memM m P μ) (m + (3 + 1)) ((3 : Int32) * nI k) = some (nI p) := by rw [three, show 3 * k = 3 * k + 0 from rfl, aL4 (by omega) hk, show 3 * k + 0 = 3 * k from rfl, hz.l0 hk, c]
      rw [f_X6_hourOf_12.eq_2, if_neg (ge_8 hk), if_pos isO_M, m_isLinen hz hk, if_neg cn, Option.bind_some, if_neg (by decide), mR_4, Option.bind_some, a0, Option.bind_some]
      simp only [vl]
      rw [w0, if_pos isO_M, e1, Option.bind_some]
      dsimp only
      rw [stS]
      by_cases c2 : Y 1 man + lkS L Y p (nI man) < 100
      · rw [if_pos c2] at ih
        rw [if_pos c2, if_pos rfl, mR_4, Option.bind_some, three2, aL4 (by omega) hk, Option.bind_some, hz1.l2 hk, sL4 (by omega) hk, Option.bind_some, mR_4, Option.bind_some, aL4 (by omega) hk, Option.bind_some]
        have hz2 := hz1.s4 (k := k) (j := 2) (by omega) (Y 9 k - 1)
        have hk2 := hk1.tr (mkA.s4 P1 (upd (P1.2 4) (3 * k + 2) (Y 9 k - 1)))
        generalize smA P1 4 (upd (P1.2 4) (3 * k + 2) (Y 9 k - 1)) = P2 at hz2 hk2 ⊢
        have v2 : P2.2 4 (3 * k + 2) = Y 9 k - 1 := by rw [hz2.l2 hk]; exact zs_hit
        rw [v2]
        rw [fdS] at ih
        by_cases c3 : Y 9 k - 1 = 0
        · rw [if_pos c3] at ih
          have hp6 : p < 6 := by omega
          have hz3 := hz2.s4 (k := k) (j := 0) (by omega) (-1)
          have hk3 := hk2.tr (mkA.s4 P2 (upd (P2.2 4) (3 * k + 0) (-1)))
          rw [if_pos c3, Option.bind_some, three, show 3 * k = 3 * k + 0 from rfl, sL4 (by omega) hk, Option.bind_some]
          generalize smA P2 4 (upd (P2.2 4) (3 * k + 0) (-1)) = P3 at hz3 hk3 ⊢
          have v3 : P3.2 3 (3 * p + 2) = Y 6 p := by
            rw [hz3.r2 hp6]
            rw [zs_ne (by omega), zs_ne (by omega)]
          have hv := (hgk.2.2.2.1 p hp6).2.2.2
          have ev : f_X6_within (Y 6 p + 1) 0 99 = if Y 6 p + 1 < 99 then Y 6 p + 1 else 99 := by
            obtain ⟨n, hn, en⟩ := hv
            rw [en]
            exact vain_eq n (by omega)
          have hz4 := hz3.s3 (k := p) (j := 2) (by omega) (if Y 6 p + 1 < 99 then Y 6 p + 1 else 99)
          have hk4 := hk3.tr (mkA.s3 P3 (upd (P3.2 3) (3 * p + 2) (if Y 6 p + 1 < 99 then Y 6 p + 1 else 99)))
          rw [mR_3, Option.bind_some, Option.bind_some, three2, aL3 (by omega) hp6, Option.bind_some, v3, ev, sL3 (by omega) hp6, Option.bind_some]
          obtain ⟨O', f1, f2⟩ := ih _ hk4 hz4
          refine ⟨O', ?_, f2⟩
          rw [nI_1]
          exact f1
        · rw [if_neg c3] at ih
          rw [if_neg c3, nI_1]
          exact ih P2 hk2 hz2
      · rw [if_neg c2] at ih
        have v1 : P1.2 4 (3 * k + 1) = Y 8 k := hz1.l1 hk
        rw [if_neg c2, if_neg (by decide), mR_4, Option.bind_some, three1, aL4 (by omega) hk, Option.bind_some, v1, mI_7, Option.bind_some, Option.bind_some, aL4 (by omega) hk, Option.bind_some, v1, hz1.ad, mp_7, Option.bind_some, mR_4, Option.bind_some, three, show 3 * k = 3 * k + 0 from rfl, sL4 (by omega) hk, Option.bind_some]
        have hz2 := hz1.i7 (Y 10 0 ||| ((1 : Int32) <<< (Y 8 k &&& 31)))
        have hk2 := hk1.tr (mkA.i7 P1 (Y 10 0 ||| ((1 : Int32) <<< (Y 8 k &&& 31))))
        generalize smI P1 7 (Y 10 0 ||| ((1 : Int32) <<< (Y 8 k &&& 31))) = P2 at hz2 hk2 ⊢
        have hz3 := hz2.s4 (k := k) (j := 0) (by omega) (-1)
        have hk3 := hk2.tr (mkA.s4 P2 (upd (P2.2 4) (3 * k + 0) (-1)))
        obtain ⟨O', f1, f2⟩ := ih _ hk3 hz3
        refine ⟨O', ?_, f2⟩
        rw [nI_1]
        exact f1
theorem man_eq {t : Nat} (ht : Z 10 1 = nI t) (h : t < 100000) : Z 10 1 - Z 10 1 / 6 * 6 = nI (manS Z) ∧ manS Z < 6 := by
  have em : manS Z = t % 6 := by rw [manS, ht, nI_clamp (by omega)]
  rw [em, ht]
  exact ⟨pk_rem (a := t) (d := 6) (by omega) (by omega) (by decide), Nat.mod_lt _ (by omega)⟩
theorem hZ_eq : hZ L Z = zs (hsA L (manS Z) (0, Z) 8).2 10 1 ((hsA L (manS Z) (0, Z) 8).2 10 1 + 1) := by
  unfold hZ hrS
  dsimp only
theorem hrS_1 : (hrS L (0, Z)).1 = (hsA L (manS Z) (0, Z) 8).1 := by
  unfold hrS
  dsimp only
theorem m_hourOf (hl : LawR O L) (hz : MZ O Z) (hg : gZ Z) {t : Nat} (ht : Z 10 1 = nI t) (h : t < 100000) : ∃ O', f_X6_hourOf m (memM m O μ) = some ((hrS L (0, Z)).1, memM m O' μ) ∧ mkA O O' ∧ MZ O' (hZ L Z) := by
  obtain ⟨e1, e2⟩ := man_eq ht h
  rw [hZ_eq, hrS_1]
  obtain ⟨O', f1, f2, f3⟩ := m_hourLoop (m := m) (μ := μ) (q := (0, Z)) hl e2 hz hg
  refine ⟨O', ?_, f2, f3⟩
  rw [f_X6_hourOf.eq_1, mI_8, Option.bind_some, hz.hr]
  simp only [vl]
  rw [e1]
  exact f1
theorem m_goes (hl : LawR O L) (hz : MZ O Z) (hg : gZ Z) {t : Nat} (ht : Z 10 1 = nI t) (h : t < 50000) {n : Nat} (hn : n < 4000) : ∃ O', f_X6_goes m (nI n) (memM m O μ) = some (memM m O' μ) ∧ mkA O O' ∧ MZ O' (hN L Z n) := by
  rw [f_X6_goes.eq_1]
  refine loopN (fun k f => ∀ P, mkA O P → MZ P (hN L Z k) → ∃ O', f_X6_goes_2 f m (nI n) (nI k) (memM m P μ) = some (memM m O' μ) ∧ mkA O O' ∧ MZ O' (hN L Z n)) n (fun f P hk hz => ?_) (fun k f hk ih P hkP hz => ?_) fU (fU_lt (by omega)) O (mkA.rf O) hz
  · exact ⟨P, by rw [f_X6_goes_2.eq_2, if_pos (nI_le (Nat.le_refl n) (by omega))], hk, hz⟩
  · obtain ⟨P1, e, k1, z1⟩ := m_hourOf (m := m) (μ := μ) (hl.k hkP) hz (gZ_hN hg k) (hN_hour ht k) (by omega)
    obtain ⟨O', f1, f2⟩ := ih P1 (hkP.tr k1) z1
    refine ⟨O', ?_, f2⟩
    rw [f_X6_goes_2.eq_2, if_neg (nI_ge hk (by omega)), if_pos isO_M, e, Option.bind_some]
    simp only [vl]
    rw [nI_1]
    exact f1
end MGO
