/-! The reference lets fall, passes hours, keeps and lays back. -/
theorem zs_at (Z : Zt) (j k : Nat) (v : Int32) (a c : Nat) : zs Z j k v a c = if a = j then (if c = k then v else Z a c) else Z a c := by
  unfold zs va_up upd
  by_cases h : a = j
  · subst h
    rw [if_pos rfl, if_pos rfl]
  · rw [if_neg h, if_neg h]
theorem smA_at (O : MS) (k : Nat) (g : Nat → Int32) (a c : Nat) : (smA O k g).2 a c = if a = k then g c else O.2 a c := by
  show va_up O.2 k g a c = _
  unfold va_up
  by_cases h : a = k
  · rw [if_pos h, if_pos h]
  · rw [if_neg h, if_neg h]
theorem smA_1 (O : MS) (k : Nat) (g : Nat → Int32) : (smA O k g).1 = O.1 := rfl
theorem smI_2 (O : MS) (k : Nat) (v : Int32) : (smI O k v).2 = O.2 := rfl
theorem smI_at (O : MS) (k : Nat) (v : Int32) (a : Nat) : (smI O k v).1 a = if a = k then v else O.1 a := rfl
theorem upd_at (f : Nat → Int32) (k : Nat) (v : Int32) (a : Nat) : upd f k v a = if a = k then v else f a := rfl
section MZS
variable {O : MS} {Z : Zt}
theorem MZ.s4 (hz : MZ O Z) {k j : Nat} (hj : j < 3) (v : Int32) : MZ (smA O 4 (upd (O.2 4) (3 * k + j) v)) (zs Z (7 + j) k v) := by
  refine ⟨fun i hi => ?_, fun i hi => ⟨?_, ?_, ?_, ?_⟩, fun i hi => ⟨?_, ?_, ?_⟩, ⟨?_, ?_, ?_⟩, fun p hp => ⟨?_, ?_⟩⟩
  all_goals simp only [zs_at, smA_at, upd_at, smA_1, if_true] at *
  · rw [if_neg (by omega), if_neg (by omega)]; exact hz.wt hi
  · rw [if_neg (by omega), if_neg (by omega)]; exact hz.kn hi
  · rw [if_neg (by omega), if_neg (by omega)]; exact hz.r0 hi
  · rw [if_neg (by omega), if_neg (by omega)]; exact hz.r1 hi
  · rw [if_neg (by omega), if_neg (by omega)]; exact hz.r2 hi
  · have e := hz.l0 hi
    by_cases c : 3 * i = 3 * k + j
    · rw [if_pos c, if_pos (by omega), if_pos (by omega)]
    · rw [if_neg c]
      by_cases c2 : 7 = 7 + j
      · rw [if_pos c2, if_neg (by omega)]; exact e
      · rw [if_neg c2]; exact e
  · have e := hz.l1 hi
    by_cases c : 3 * i + 1 = 3 * k + j
    · rw [if_pos c, if_pos (by omega), if_pos (by omega)]
    · rw [if_neg c]
      by_cases c2 : 8 = 7 + j
      · rw [if_pos c2, if_neg (by omega)]; exact e
      · rw [if_neg c2]; exact e
  · have e := hz.l2 hi
    by_cases c : 3 * i + 2 = 3 * k + j
    · rw [if_pos c, if_pos (by omega), if_pos (by omega)]
    · rw [if_neg c]
      by_cases c2 : 9 = 7 + j
      · rw [if_pos c2, if_neg (by omega)]; exact e
      · rw [if_neg c2]; exact e
  · rw [if_neg (by omega)]; exact hz.ad
  · rw [if_neg (by omega)]; exact hz.hr
  · rw [if_neg (by omega)]; exact hz.wi
  · rw [if_neg (by omega)] at hp ⊢
    rw [if_neg (by omega)]; exact hz.kd hp
  · rw [if_neg (by omega)] at hp ⊢
    rw [if_neg (by omega)]; exact hz.mo hp
theorem MZ.s3 (hz : MZ O Z) {k j : Nat} (hj : j < 3) (v : Int32) : MZ (smA O 3 (upd (O.2 3) (3 * k + j) v)) (zs Z (4 + j) k v) := by
  refine ⟨fun i hi => ?_, fun i hi => ⟨?_, ?_, ?_, ?_⟩, fun i hi => ⟨?_, ?_, ?_⟩, ⟨?_, ?_, ?_⟩, fun p hp => ⟨?_, ?_⟩⟩
  all_goals simp only [zs_at, smA_at, upd_at, smA_1, if_true] at *
  · rw [if_neg (by omega), if_neg (by omega)]; exact hz.wt hi
  · rw [if_neg (by omega), if_neg (by omega)]; exact hz.kn hi
  · have e := hz.r0 hi
    by_cases c : 3 * i = 3 * k + j
    · rw [if_pos c, if_pos (by omega), if_pos (by omega)]
    · rw [if_neg c]
      by_cases c2 : 4 = 4 + j
      · rw [if_pos c2, if_neg (by omega)]; exact e
      · rw [if_neg c2]; exact e
  · have e := hz.r1 hi
    by_cases c : 3 * i + 1 = 3 * k + j
    · rw [if_pos c, if_pos (by omega), if_pos (by omega)]
    · rw [if_neg c]
      by_cases c2 : 5 = 4 + j
      · rw [if_pos c2, if_neg (by omega)]; exact e
      · rw [if_neg c2]; exact e
  · have e := hz.r2 hi
    by_cases c : 3 * i + 2 = 3 * k + j
    · rw [if_pos c, if_pos (by omega), if_pos (by omega)]
    · rw [if_neg c]
      by_cases c2 : 6 = 4 + j
      · rw [if_pos c2, if_neg (by omega)]; exact e
      · rw [if_neg c2]; exact e
  · rw [if_neg (by omega), if_neg (by omega)]; exact hz.l0 hi
  · rw [if_neg (by omega), if_neg (by omega)]; exact hz.l1 hi
  · rw [if_neg (by omega), if_neg (by omega)]; exact hz.l2 hi
  · rw [if_neg (by omega)]; exact hz.ad
  · rw [if_neg (by omega)]; exact hz.hr
  · rw [if_neg (by omega)]; exact hz.wi
  · rw [if_neg (by omega)] at hp ⊢
    rw [if_neg (by omega)]; exact hz.kd hp
  · rw [if_neg (by omega)] at hp ⊢
    rw [if_neg (by omega)]; exact hz.mo hp
theorem MZ.i7 (hz : MZ O Z) (v : Int32) : MZ (smI O 7 v) (zs Z 10 0 v) := by
  refine ⟨fun i hi => ?_, fun i hi => ⟨?_, ?_, ?_, ?_⟩, fun i hi => ⟨?_, ?_, ?_⟩, ⟨?_, ?_, ?_⟩, fun p hp => ⟨?_, ?_⟩⟩
  all_goals simp only [zs_at, smI_at, upd_at, smI_2, if_true] at *
  · exact hz.wt hi
  · exact hz.kn hi
  · exact hz.r0 hi
  · exact hz.r1 hi
  · exact hz.r2 hi
  · exact hz.l0 hi
  · exact hz.l1 hi
  · exact hz.l2 hi
  · exact hz.hr
  · exact hz.wi
  · exact hz.kd hp
  · exact hz.mo hp
theorem MZ.i8 (hz : MZ O Z) (v : Int32) : MZ (smI O 8 v) (zs Z 10 1 v) := by
  refine ⟨fun i hi => ?_, fun i hi => ⟨?_, ?_, ?_, ?_⟩, fun i hi => ⟨?_, ?_, ?_⟩, ⟨?_, ?_, ?_⟩, fun p hp => ⟨?_, ?_⟩⟩
  all_goals simp only [zs_at, smI_at, upd_at, smI_2, if_true] at *
  · exact hz.wt hi
  · exact hz.kn hi
  · exact hz.r0 hi
  · exact hz.r1 hi
  · exact hz.r2 hi
  · exact hz.l0 hi
  · exact hz.l1 hi
  · exact hz.l2 hi
  · exact hz.ad
  · exact hz.wi
  · exact hz.kd hp
  · exact hz.mo hp
end MZS
