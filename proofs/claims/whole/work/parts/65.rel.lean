/-! WHAT BOTH SIDES HAVE IN COMMON. -/
def Wd (b m : Nat) (S : XS) (O : MS) (μ : mS) : mS := memX b S (memM m O μ)
theorem Wd_M {b m : Nat} {S : XS} {O : MS} {μ : mS} (h : b + 85 ≤ m) : Wd b m S O μ = memM m O (memX b S μ) := mem_comm h
def sameL (S S' : XS) : Prop := S'.1 8 = S.1 8 ∧ S'.2.1 9 = S.2.1 9
def TX (b m : Nat) (S : XS) (O : MS) (μ : mS) (t q : Nat) (L : Lw) : Prop := ∃ (a n wt dp : Nat) (code : Nat → Int32), (q < μ.1 ∧ a < μ.1) ∧ (∀ S' O', sameL S S' → lawIs (Wd b m S' O' μ) q (nI t) a n wt dp code) ∧ LawM O t code n wt dp ∧ ∀ part, part < 3 → L part = partL code n wt dp part ∧ okP (L part)
def wordsM (k : Nat) : Int32 := ([108, 111, 111, 107, 115, 32, 32, 32, 119, 97, 105, 116, 115, 32, 32, 32, 100, 114, 111, 112, 115, 32, 32, 32, 102, 97, 99, 101, 32, 32, 32, 32, 107, 110, 111, 119, 110, 32, 32, 32, 104, 111, 117, 114, 32, 32, 32, 32, 108, 121, 105, 110, 103, 32, 32, 32, 97, 100, 109, 105, 116, 116, 101, 100, 109, 111, 114, 101, 32, 32, 32, 32, 111, 114, 32, 32, 32, 32, 32, 32, 97, 110, 100, 32, 32, 32, 32, 32, 110, 111, 116, 32, 32, 32, 32, 32] : List Int32).getD k 0
def KI (O : MS) (Z : Zt) : Prop := (∀ k j, k < 6 → j < 3 → O.2 10 (3 * k + j) = Z (4 + j) k) ∧ (∀ k j, k < 8 → j < 3 → O.2 10 (18 + (3 * k + j)) = Z (7 + j) k) ∧ (∀ k, k < 10 → O.2 10 (42 + k) = Z 0 k) ∧ (∀ k, k < 6 → O.2 10 (52 + k) = Z 1 k) ∧ O.2 11 0 = Z 10 2 ∧ O.2 11 1 = Z 10 0 ∧ O.2 11 2 = Z 10 1
/-- witnesses stay, as they are -/
def stay (Z Y : Zt) : Prop := wN Z ≤ wN Y ∧ ∀ p, p < wN Z → Z 2 p = Y 2 p ∧ Z 3 p = Y 3 p
def RNo (O : MS) (Z : Zt) : Prop := MZ O Z ∧ gZ Z ∧ rng 999 (Z 10 1)
def RTx (b m : Nat) (S : XS) (O : MS) (μ : mS) (tc : Nat) (T : Nat → Lw) (Q : Nat → Nat) : Prop := 1 ≤ tc ∧ tc ≤ 6 ∧ S.1 0 7 = nI tc ∧ O.1 13 = nI tc ∧ ∀ t, t < tc → S.2.2.2 t = some (Q t) ∧ TX b m S O μ t (Q t) (T t)
def RFo (S : XS) (O : MS) (tc r : Nat) (Q : Nat → Nat) : Prop := r < tc ∧ O.1 14 = nI r ∧ S.2.2.1 11 = Q r
def RTp (S : XS) (O : MS) : Prop := ∃ n, n ≤ 160 ∧ S.1 2 3 = nI n ∧ O.1 10 = nI n ∧ ∀ k, k < n → O.2 7 k = S.2.1 3 k ∧ rng 255 (S.2.1 3 k)
def RS1 (S : XS) (O : MS) (s : Nat) : Prop := O.2 12 s = S.1 (77 + 2 * s) 1 ∧ O.2 13 s = S.1 (77 + 2 * s) 2 ∧ rng 40 (S.1 (77 + 2 * s) 2) ∧ (S.1 (77 + 2 * s) 1 = -1 ∨ rng 2 (S.1 (77 + 2 * s) 1)) ∧ ∀ k, k < 40 → O.2 14 (40 * s + k) = S.2.1 (77 + 2 * s + 1) k
def RSh (S : XS) (O : MS) : Prop := ∀ s, s < 4 → RS1 S O s
def RIm (S : XS) (O : MS) (tc : Nat) (Q : Nat → Nat) : Prop := O.1 15 = S.1 0 8 ∧ (S.1 0 8 = 0 ∨ (S.1 0 8 = 1 ∧ ∃ k, k < tc ∧ O.2 11 3 = nI k ∧ S.2.2.1 22 = Q k ∧ KI O (zof S 22) ∧ gZ (zof S 22) ∧ rng 999 (zof S 22 10 1) ∧ stay (zof S 22) (zof S 11)))
def RWo (O : MS) : Prop := ∀ k, k < 96 → O.2 16 k = wordsM k
def RLx (b m : Nat) (S : XS) (O : MS) (μ : mS) (tc r : Nat) (T : Nat → Lw) (Q : Nat → Nat) : Prop := (b + 85 ≤ m ∧ m + 21 ≤ μ.1) ∧ RNo O (zof S 11) ∧ RTx b m S O μ tc T Q ∧ RFo S O tc r Q ∧ RTp S O ∧ RSh S O ∧ RIm S O tc Q ∧ RWo O
def Rlw (b m : Nat) (S : XS) (O : MS) (μ : mS) : Prop := ∃ tc r T Q, RLx b m S O μ tc r T Q
/-- a call answers alike on both sides -/
def Call {α : Type} (b m : Nat) (fx fm : mS → Option (α × mS)) : Prop := ∀ S O μ, Rlw b m S O μ → ∃ v S' O' μ', fx (Wd b m S O μ) = some (v, Wd b m S' O μ') ∧ fm (Wd b m S' O μ') = some (v, Wd b m S' O' μ') ∧ Rlw b m S' O' μ'
def CallR {α : Type} (b m : Nat) (fx fm : mS → Option α) : Prop := ∀ S O μ, Rlw b m S O μ → ∃ v, fx (Wd b m S O μ) = some v ∧ fm (Wd b m S O μ) = some v
theorem sameL.rf (S : XS) : sameL S S := ⟨rfl, rfl⟩
theorem sameL.tr {S1 S2 S3 : XS} (h : sameL S1 S2) (h2 : sameL S2 S3) : sameL S1 S3 := ⟨h2.1.trans h.1, h2.2.trans h.2⟩
theorem sameL.z {S : XS} {o : Nat} {Z : Zt} {g : Nat → Int32} (h : zo o) : sameL S (sxZ S o Z g) := by
  refine ⟨?_, ?_⟩
  · simp only [sxZ]
    rw [if_neg (by rcases h with rfl | rfl | rfl | rfl | rfl | rfl <;> omega)]
  · simp only [sxZ]
    rw [if_neg (by rcases h with rfl | rfl | rfl | rfl | rfl | rfl <;> omega), if_neg (by omega)]
theorem stay.rf (Z : Zt) : stay Z Z := ⟨Nat.le_refl _, fun _ _ => ⟨rfl, rfl⟩⟩
theorem stay.tr {Z Y V : Zt} (h : stay Z Y) (h2 : stay Y V) : stay Z V := ⟨Nat.le_trans h.1 h2.1, fun p hp => ⟨(h.2 p hp).1.trans (h2.2 p (Nat.lt_of_lt_of_le hp h.1)).1, (h.2 p hp).2.trans (h2.2 p (Nat.lt_of_lt_of_le hp h.1)).2⟩⟩
theorem stay.eq {Z Y : Zt} (h : zEq Z Y) (h6 : wN Z ≤ 6) : stay Z Y := ⟨by rw [h.w]; exact Nat.le_refl _, fun p hp => ⟨h.1 2 p (by decide) (show p < 6 by omega), h.1 3 p (by decide) (show p < 6 by omega)⟩⟩
theorem stay.of {Z Y : Zt} (h2 : Y 2 = Z 2) (h3 : Y 3 = Z 3) (hw : Y 10 2 = Z 10 2) : stay Z Y := ⟨by unfold wN; rw [hw]; exact Nat.le_refl _, fun p _ => ⟨by rw [h2], by rw [h3]⟩⟩
/-- what a call in thought leaves of the class -/
def thS (S S' : XS) : Prop := sameL S S' ∧ S'.1 0 7 = S.1 0 7 ∧ S'.1 0 8 = S.1 0 8 ∧ S'.1 2 = S.1 2 ∧ S'.2.1 3 = S.2.1 3 ∧ (∀ s, s < 4 → S'.1 (77 + 2 * s) = S.1 (77 + 2 * s) ∧ S'.2.1 (77 + 2 * s + 1) = S.2.1 (77 + 2 * s + 1)) ∧ zof S' 22 = zof S 22 ∧ S'.2.2.1 22 = S.2.2.1 22 ∧ S'.2.2.1 11 = S.2.2.1 11 ∧ S'.2.2.2 = S.2.2.2
def keepO (O O' : MS) : Prop := (∀ k, k = 10 ∨ k = 13 ∨ k = 14 ∨ k = 15 → O'.1 k = O.1 k) ∧ ∀ j, (7 ≤ j ∧ j ≤ 14) ∨ j = 16 → O'.2 j = O.2 j
theorem thS.rf (S : XS) : thS S S := ⟨sameL.rf S, rfl, rfl, rfl, rfl, fun _ _ => ⟨rfl, rfl⟩, rfl, rfl, rfl, rfl⟩
theorem thS.tr {S1 S2 S3 : XS} (h : thS S1 S2) (h2 : thS S2 S3) : thS S1 S3 := by
  obtain ⟨a1, a2, a3, a4, a5, a6, a7, a8, a9, a10⟩ := h
  obtain ⟨b1, b2, b3, b4, b5, b6, b7, b8, b9, b10⟩ := h2
  exact ⟨a1.tr b1, b2.trans a2, b3.trans a3, b4.trans a4, b5.trans a5, fun s hs => ⟨(b6 s hs).1.trans (a6 s hs).1, (b6 s hs).2.trans (a6 s hs).2⟩, b7.trans a7, b8.trans a8, b9.trans a9, b10.trans a10⟩
theorem keepO.rf (O : MS) : keepO O O := ⟨fun _ _ => rfl, fun _ _ => rfl⟩
theorem keepO.tr {O1 O2 O3 : MS} (h : keepO O1 O2) (h2 : keepO O2 O3) : keepO O1 O3 := ⟨fun k a => (h2.1 k a).trans (h.1 k a), fun j a => (h2.2 j a).trans (h.2 j a)⟩
theorem mkA.o {O O' : MS} (h : mkA O O') : keepO O O' := ⟨fun k a => h.1 k (by omega) (by omega), fun j a => h.2 j (by omega) (by omega) (by omega) (by omega) |>.trans rfl⟩
theorem mk18.o {O O' : MS} (h : mk18 O O') : keepO O O' := ⟨fun k _ => by rw [h.1], fun j a => by
  rcases a with a | a
  · exact h.2 j (by omega) (by omega)
  · exact h.2 j (by omega) (by omega)⟩
theorem mkK.o {O O' : MS} (h : mkK O O') : keepO O O' := ⟨fun k _ => by rw [h.1], fun j a => h.2 j (by omega)⟩
theorem keepO.a (O : MS) {j : Nat} (f : Nat → Int32) (hj : j < 7 ∨ j = 15 ∨ 16 < j) : keepO O (smA O j f) := ⟨fun _ _ => rfl, fun i a => up_ne _ _ (by omega)⟩
theorem keepO.i (O : MS) {k : Nat} (v : Int32) (hk : k ≠ 10 ∧ k ≠ 13 ∧ k ≠ 14 ∧ k ≠ 15) : keepO O (smI O k v) := ⟨fun i a => upd_ne _ _ (by omega), fun _ _ => rfl⟩
section THS
variable {S : XS} {o : Nat} {Z : Zt} {g : Nat → Int32}
theorem zo_off (h : zo o) {k : Nat} (hk : k < 10 ∨ 77 ≤ k) : ¬ (o < k ∧ k ≤ o + 10) ∧ k ≠ o ∧ k ≠ 10 := by
  rcases h with rfl | rfl | rfl | rfl | rfl | rfl <;> omega
theorem sx_1 (h : zo o) {k : Nat} (hk : k < 10 ∨ 77 ≤ k) : (sxZ S o Z g).1 k = S.1 k := by
  simp only [sxZ]
  rw [if_neg (zo_off h hk).2.1]
theorem sx_2 (h : zo o) {k : Nat} (hk : k < 10 ∨ 77 ≤ k) : (sxZ S o Z g).2.1 k = S.2.1 k := by
  simp only [sxZ]
  rw [if_neg (zo_off h hk).1, if_neg (zo_off h hk).2.2]
theorem thS.z (h : zo o) (hn : o ≠ 22) : thS S (sxZ S o Z g) :=
  ⟨sameL.z h, by rw [sx_1 h (by omega)], by rw [sx_1 h (by omega)], by rw [sx_1 h (by omega)], by rw [sx_2 h (by omega)], fun s hs => ⟨by rw [sx_1 h (by omega)], by rw [sx_2 h (by omega)]⟩, zof_ne h (Or.inr (Or.inl rfl)) (Ne.symm hn), rfl, rfl, rfl⟩
theorem thS.l (q : Nat) (h1 : o ≠ 11) (h2 : o ≠ 22) : thS S (sxL S o q) :=
  ⟨⟨rfl, rfl⟩, rfl, rfl, rfl, rfl, fun _ _ => ⟨rfl, rfl⟩, rfl, up_ne _ _ (Ne.symm h2), up_ne _ _ (Ne.symm h1), rfl⟩
theorem zof_l {d : Nat} (q : Nat) : zof (sxL S o q) d = zof S d := rfl
theorem thS.i {k : Nat} (v : Int32) (hk : k ≠ 7 ∧ k ≠ 8) : thS S (sxI S 0 k v) := by
  have e : ∀ j, j ≠ 0 → (sxI S 0 k v).1 j = S.1 j := fun j hj => up_ne _ _ hj
  have e0 : (sxI S 0 k v).1 0 = upd (S.1 0) k v := by simp [sxI, va_up]
  refine ⟨⟨e 8 (by decide), rfl⟩, ?_, ?_, e 2 (by decide), rfl, fun s hs => ⟨e _ (by omega), rfl⟩, ?_, rfl, rfl, rfl⟩
  · rw [e0, upd_ne _ _ (Ne.symm hk.1)]
  · rw [e0, upd_ne _ _ (Ne.symm hk.2)]
  · funext j
    simp only [zof]
    split
    · rfl
    · rw [e 22 (by decide)]
theorem zof_i {k d : Nat} (v : Int32) (h : d ≠ 0) : zof (sxI S 0 k v) d = zof S d := by
  funext j
  simp only [zof]
  split
  · rfl
  · rw [show (sxI S 0 k v).1 d = S.1 d from up_ne _ _ h]
end THS
section RLG
variable {b m : Nat} {S S' : XS} {O O' : MS} {μ : mS} {tc r : Nat} {T : Nat → Lw} {Q : Nat → Nat}
theorem TX.go {t q : Nat} {L : Lw} (h : TX b m S O μ t q L) (hs : sameL S S') (h8 : O'.2 8 = O.2 8) (h9 : O'.2 9 = O.2 9) : TX b m S' O' μ t q L := by
  obtain ⟨a, n, wt, dp, code, h1, h2, h3, h4⟩ := h
  exact ⟨a, n, wt, dp, code, h1, fun S1 O1 e => h2 S1 O1 (hs.tr e), h3.k h8 h9, h4⟩
theorem TX.ok {o t q : Nat} {L : Lw} {S1 : XS} (h : TX b m S O μ t q L) (hz : zo o) (hs : sameL S S1) (hq : S1.2.2.1 o = q) (O' : MS) : LawOk b o S1 (memM m O' μ) L := by
  obtain ⟨a, n, wt, dp, code, h1, h2, h3, h4⟩ := h
  refine ⟨nI t, a, n, wt, dp, code, h3.2.1, h3.2.2.1, h3.2.2.2.1, fun Z g => ?_, h4⟩
  rw [hq]
  exact h2 (sxZ S1 o Z g) O' (hs.tr (sameL.z hz))
theorem TX.lr {t q : Nat} {L : Lw} (h : TX b m S O μ t q L) (h8 : O'.2 8 = O.2 8) (h9 : O'.2 9 = O.2 9) (h14 : O'.1 14 = nI t) : LawR O' L := by
  obtain ⟨a, n, wt, dp, code, h1, h2, h3, h4⟩ := h
  exact ⟨t, n, wt, dp, code, h14, h3.k h8 h9, h4⟩
theorem RLx.lx {o : Nat} {S1 : XS} (h : RLx b m S O μ tc r T Q) (hz : zo o) (hs : sameL S S1) (hq : S1.2.2.1 o = S.2.2.1 11) (O' : MS) : LawOk b o S1 (memM m O' μ) (T r) :=
  (h.2.2.1.2.2.2.2 r h.2.2.2.1.1).2.ok hz hs (hq.trans h.2.2.2.1.2.2) O'
theorem RLx.lr (h : RLx b m S O μ tc r T Q) (hk : keepO O O') : LawR O' (T r) :=
  (h.2.2.1.2.2.2.2 r h.2.2.2.1.1).2.lr (hk.2 8 (by omega)) (hk.2 9 (by omega)) ((hk.1 14 (by omega)).trans h.2.2.2.1.2.1)
theorem RLx.lm (h : RLx b m S O μ tc r T Q) : b + 85 ≤ m := h.1.1
theorem RLx.g (h : RLx b m S O μ tc r T Q) : gZ (zof S 11) := h.2.1.2.1
theorem RLx.z (h : RLx b m S O μ tc r T Q) : MZ O (zof S 11) := h.2.1.1
theorem RLx.h (h : RLx b m S O μ tc r T Q) : rng 999 (zof S 11 10 1) := h.2.1.2.2
/-- the relation goes on -/
theorem RLx.go (h : RLx b m S O μ tc r T Q) (hs : thS S S') (ho : keepO O O') (hn : RNo O' (zof S' 11)) (hy : stay (zof S 11) (zof S' 11)) : RLx b m S' O' μ tc r T Q := by
  obtain ⟨h1, h2, h3, h4, h5, h6, h7, h8⟩ := h
  obtain ⟨s1, s2, s3, s4, s5, s6, s7, s8, s9, s10⟩ := hs
  refine ⟨h1, hn, ⟨h3.1, h3.2.1, s2.trans h3.2.2.1, (ho.1 13 (by omega)).trans h3.2.2.2.1, fun t ht => ⟨(congrFun s10 t).trans (h3.2.2.2.2 t ht).1, (h3.2.2.2.2 t ht).2.go s1 (ho.2 8 (by omega)) (ho.2 9 (by omega))⟩⟩, ⟨h4.1, (ho.1 14 (by omega)).trans h4.2.1, s9.trans h4.2.2⟩, ?_, fun s hs => ?_, ?_, fun k hk => ?_⟩
  · obtain ⟨n, e1, e2, e3, e4⟩ := h5
    refine ⟨n, e1, by rw [s4]; exact e2, (ho.1 10 (by omega)).trans e3, fun k hk => ?_⟩
    rw [ho.2 7 (by omega), s5]
    exact e4 k hk
  · unfold RS1
    rw [ho.2 12 (by omega), ho.2 13 (by omega), ho.2 14 (by omega), (s6 s hs).1, (s6 s hs).2]
    exact h6 s hs
  · refine ⟨(ho.1 15 (by omega)).trans (h7.1.trans s3.symm), ?_⟩
    rw [s3, s7, s8, ho.2 11 (by omega)]
    rcases h7.2 with e | ⟨e, k, e1, e2, e3, e4, e5, e6, e7⟩
    · exact Or.inl e
    · refine Or.inr ⟨e, k, e1, e2, e3, ?_, e5, e6, e7.tr hy⟩
      unfold KI
      rw [ho.2 10 (by omega), ho.2 11 (by omega)]
      exact e4
  · rw [ho.2 16 (by omega)]
    exact h8 k hk
/-- what is thought goes by -/
theorem RLx.th (h : RLx b m S O μ tc r T Q) (hs : thS S S') (hz : zof S' 11 = zof S 11) (ho : keepO O O') (hm : MZ O' (zof S 11)) : Rlw b m S' O' μ :=
  ⟨tc, r, T, Q, h.go hs ho (by rw [hz]; exact ⟨hm, h.2.1.2⟩) (by rw [hz]; exact stay.rf _)⟩
/-- what is so now changes -/
theorem RLx.no {Y : Zt} {g : Nat → Int32} (h : RLx b m S O μ tc r T Q) (ho : keepO O O') (hm : MZ O' Y) (hg : gZ Y) (hh : rng 999 (Y 10 1)) (hy : stay (zof S 11) Y) : Rlw b m (sxZ S 11 Y g) O' μ := by
  have e : zEq Y (zof (sxZ S 11 Y g) 11) := zof_sx
  refine ⟨tc, r, T, Q, h.go (thS.z (Or.inl rfl) (by decide)) ho ⟨hm.eq e hg.w6, hg.eq e, ?_⟩ (hy.tr (stay.eq e hg.w6))⟩
  rw [← e.2 1 (by decide)]
  exact hh
end RLG
