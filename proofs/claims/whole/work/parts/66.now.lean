/-! CALLS on what is so now: frames for them. -/
theorem zo11 : zo 11 := Or.inl rfl
theorem zo22 : zo 22 := Or.inr (Or.inl rfl)
theorem zo33 : zo 33 := Or.inr (Or.inr (Or.inl rfl))
def NowQ (b m : Nat) (S : XS) (O : MS) (μ : mS) (Z : Zt) (g : Nat → Int32) {α : Type} (fx fm : mS → Option (α × mS)) : Prop := ∃ v Y g', fx (AZ b 11 S (memM m O μ) Z g) = some (v, AZ b 11 S (memM m O μ) Y g') ∧ (∀ μ1, ∃ O', fm (memM m O μ1) = some (v, memM m O' μ1) ∧ keepO O O' ∧ MZ O' Y) ∧ gZ Y ∧ rng 999 (Y 10 1) ∧ stay Z Y
theorem NowQ.m1 {b m : Nat} {S : XS} {O : MS} {μ : mS} {Z : Zt} {g : Nat → Int32} {α : Type} {fx fm : mS → Option (α × mS)} (h : ∃ v Y g' O', fx (AZ b 11 S (memM m O μ) Z g) = some (v, AZ b 11 S (memM m O μ) Y g') ∧ (∀ μ1, fm (memM m O μ1) = some (v, memM m O' μ1)) ∧ keepO O O' ∧ MZ O' Y ∧ gZ Y ∧ rng 999 (Y 10 1) ∧ stay Z Y) : NowQ b m S O μ Z g fx fm := by
  obtain ⟨v, Y, g', O', e1, e2, k, h1, h2, h3, h4⟩ := h
  exact ⟨v, Y, g', e1, fun μ1 => ⟨O', e2 μ1, k, h1⟩, h2, h3, h4⟩
section NOW
variable {b m : Nat} {α : Type}
theorem Call.now {fx fm : mS → Option (α × mS)} (h : ∀ S O μ Z g L, MZ O Z → gZ Z → rng 999 (Z 10 1) → LawOk b 11 S (memM m O μ) L → LawR O L → NowQ b m S O μ Z g fx fm) : Call b m fx fm := by
  intro S O μ R
  obtain ⟨tc, r, T, Q, R⟩ := R
  obtain ⟨v, Y, g', e1, e2, e4, e5, e6⟩ := h S O μ (zof S 11) (S.2.1 10) (T r) R.z R.g R.h (R.lx zo11 (sameL.rf S) rfl O) (R.lr (keepO.rf O))
  obtain ⟨O', e2, k, e3⟩ := e2 (memX b (sxZ S 11 Y g') μ)
  refine ⟨v, sxZ S 11 Y g', O', μ, ?_, ?_, R.no k e3 e4 e5 e6⟩
  · rw [Wd, AZ_of b 11]
    exact e1
  · rw [Wd_M R.lm, e2, ← Wd_M R.lm]
theorem CallR.now {fx fm : mS → Option α} (h : ∀ S O μ Z g, MZ O Z → gZ Z → rng 999 (Z 10 1) → ∃ v, fx (AZ b 11 S (memM m O μ) Z g) = some v ∧ ∀ μ1, fm (memM m O μ1) = some v) : CallR b m fx fm := by
  intro S O μ R
  obtain ⟨tc, r, T, Q, R⟩ := R
  obtain ⟨v, e1, e2⟩ := h S O μ (zof S 11) (S.2.1 10) R.z R.g R.h
  refine ⟨v, ?_, ?_⟩
  · rw [Wd, AZ_of b 11]
    exact e1
  · rw [Wd_M R.lm, e2]
theorem now_same {S : XS} {O : MS} {μ : mS} {Z : Zt} {g : Nat → Int32} {fx fm : mS → Option (α × mS)} (v : α) (hz : MZ O Z) (hg : gZ Z) (hh : rng 999 (Z 10 1)) (e1 : fx (AZ b 11 S (memM m O μ) Z g) = some (v, AZ b 11 S (memM m O μ) Z g)) (e2 : ∀ μ1, fm (memM m O μ1) = some (v, memM m O μ1)) : NowQ b m S O μ Z g fx fm :=
  ⟨v, Z, g, e1, fun μ1 => ⟨O, e2 μ1, keepO.rf O, hz⟩, hg, hh, stay.rf Z⟩
theorem now_scr {S : XS} {O : MS} {μ : mS} {Z : Zt} {g g' : Nat → Int32} {fx fm : mS → Option (α × mS)} (v : α) (hz : MZ O Z) (hg : gZ Z) (hh : rng 999 (Z 10 1)) (e1 : fx (AZ b 11 S (memM m O μ) Z g) = some (v, AZ b 11 S (memM m O μ) Z g')) (e2 : ∀ μ1, ∃ O', fm (memM m O μ1) = some (v, memM m O' μ1) ∧ mk18 O O') : NowQ b m S O μ Z g fx fm :=
  ⟨v, Z, g', e1, fun μ1 => by
    obtain ⟨O', e, k⟩ := e2 μ1
    exact ⟨O', e, k.o, hz.k k⟩, hg, hh, stay.rf Z⟩
end NOW
section MZ2
variable {O : MS} {Z : Zt}
theorem MZ.s5 (hz : MZ O Z) (k : Nat) (v : Int32) : MZ (smA O 5 (upd (O.2 5) k v)) (zs Z 0 k v) := by
  refine ⟨fun i hi => ?_, fun i hi => ⟨?_, ?_, ?_, ?_⟩, fun i hi => ⟨?_, ?_, ?_⟩, ⟨?_, ?_, ?_⟩, fun p hp => ⟨?_, ?_⟩⟩
  all_goals simp [zs_at, smA_at, upd_at, smA_1] at *
  · rw [hz.wt hi]
  · exact hz.kn hi
  · exact hz.r0 hi
  · exact hz.r1 hi
  · exact hz.r2 hi
  · exact hz.l0 hi
  · exact hz.l1 hi
  · exact hz.l2 hi
  · exact hz.ad
  · exact hz.hr
  · exact hz.wi
  · exact hz.kd hp
  · exact hz.mo hp
theorem MZ.s6 (hz : MZ O Z) (k : Nat) (v : Int32) : MZ (smA O 6 (upd (O.2 6) k v)) (zs Z 1 k v) := by
  refine ⟨fun i hi => ?_, fun i hi => ⟨?_, ?_, ?_, ?_⟩, fun i hi => ⟨?_, ?_, ?_⟩, ⟨?_, ?_, ?_⟩, fun p hp => ⟨?_, ?_⟩⟩
  all_goals simp [zs_at, smA_at, upd_at, smA_1] at *
  · exact hz.wt hi
  · rw [hz.kn hi]
  · exact hz.r0 hi
  · exact hz.r1 hi
  · exact hz.r2 hi
  · exact hz.l0 hi
  · exact hz.l1 hi
  · exact hz.l2 hi
  · exact hz.ad
  · exact hz.hr
  · exact hz.wi
  · exact hz.kd hp
  · exact hz.mo hp
theorem MZ.s1 (hz : MZ O Z) (k : Nat) (v : Int32) : MZ (smA O 1 (upd (O.2 1) k v)) (zs Z 2 k v) := by
  refine ⟨fun i hi => ?_, fun i hi => ⟨?_, ?_, ?_, ?_⟩, fun i hi => ⟨?_, ?_, ?_⟩, ⟨?_, ?_, ?_⟩, fun p hp => ⟨?_, ?_⟩⟩
  all_goals simp [zs_at, smA_at, upd_at, smA_1] at *
  · exact hz.wt hi
  · exact hz.kn hi
  · exact hz.r0 hi
  · exact hz.r1 hi
  · exact hz.r2 hi
  · exact hz.l0 hi
  · exact hz.l1 hi
  · exact hz.l2 hi
  · exact hz.ad
  · exact hz.hr
  · exact hz.wi
  · rw [hz.kd hp]
  · exact hz.mo hp
theorem MZ.s2 (hz : MZ O Z) (k : Nat) (v : Int32) : MZ (smA O 2 (upd (O.2 2) k v)) (zs Z 3 k v) := by
  refine ⟨fun i hi => ?_, fun i hi => ⟨?_, ?_, ?_, ?_⟩, fun i hi => ⟨?_, ?_, ?_⟩, ⟨?_, ?_, ?_⟩, fun p hp => ⟨?_, ?_⟩⟩
  all_goals simp [zs_at, smA_at, upd_at, smA_1] at *
  · exact hz.wt hi
  · exact hz.kn hi
  · exact hz.r0 hi
  · exact hz.r1 hi
  · exact hz.r2 hi
  · exact hz.l0 hi
  · exact hz.l1 hi
  · exact hz.l2 hi
  · exact hz.ad
  · exact hz.hr
  · exact hz.wi
  · exact hz.kd hp
  · rw [hz.mo hp]
end MZ2
section ACC
variable {b m o : Nat} {S : XS} {O : MS} {μ : mS} {Z : Zt} {g : Nat → Int32}
theorem h3 : gR (AZ b o S μ Z g) b 4 3 = some (b + 11) := gR_H 3 (by decide)
theorem h5 : gR (AZ b o S μ Z g) b 4 5 = some (b + 33) := gR_H 5 (by decide)
theorem h1 : gR (AZ b o S μ Z g) b 4 1 = some (b + 2) := gR_H 1 (by decide)
theorem h0 : gR (AZ b o S μ Z g) b 4 0 = some (b + 1) := gR_H 0 (by decide)
theorem hI (h : zo o) (k : Nat) (hk : k = 7 ∨ k = 8 ∨ k = 9 ∨ k = 10) : gI (AZ b o S μ Z g) b 4 k = some (S.1 0 k) := by
  rw [AZ, gI_H k hk, sx_1 h (by omega)]
theorem x_has (h : zo o) (x : Int32) : f_X0_hasWitness (b + o) x (AZ b o S μ Z g) = some (f_X5_isBelow x (Z 10 2)) := by
  rw [f_X0_hasWitness.eq_1, gW_A h, Option.bind_some]
theorem m_isOne (hz : MZ O Z) (hg : gZ Z) (x : Int32) : f_X6_isOne m x (memM m O μ) = some (f_X5_isBelow x (Z 10 2)) := by
  have := hg.w6
  rw [f_X6_isOne.eq_1, mI_0, Option.bind_some, hz.wi, hg.wI, in_bel (by omega)]
theorem has_k (hg : gZ Z) {x : Int32} (h : ¬ f_X5_isBelow x (Z 10 2) = 0) : ∃ p, p < wN Z ∧ x = nI p := by
  have := hg.w6
  rw [hg.wI] at h
  exact bel_k (by omega) h
theorem has_y (hg : gZ Z) {p : Nat} (h : p < wN Z) : f_X5_isBelow (nI p) (Z 10 2) = 1 := by
  have := hg.w6
  rw [hg.wI]
  exact bel_y (by omega) h
end ACC
