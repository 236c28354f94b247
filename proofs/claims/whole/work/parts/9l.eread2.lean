theorem unw_le {r : Nat} : ∀ (H : List Nat) (o : Nat) (L : List Int32), (unw r H o L).2.1 ≤ o := by
  intro H
  induction H with
  | nil => intro o L; exact Nat.le_refl _
  | cons h H ih =>
    intro o L
    by_cases c : rk h < r
    · rw [unw_stop (H := h :: H) c]; exact Nat.le_refl _
    · rw [unw_go (by omega)]
      have := ih (if h = 13 ∨ h = 19 then o - 1 else o) (L ++ [opc h])
      have : (if h = 13 ∨ h = 19 then o - 1 else o) ≤ o := by split <;> omega
      omega
section RF
variable {m n tc : Nat} {f : Nat → Int32} {μ : mS}
def eRes (f : Nat → Int32) (n tc m : Nat) (μ : mS) (O : MS) (r : Option (Int32 × mS)) (bo : Bool) (s' : TS) (L' : List Int32) : Prop := ∃ O', r = some (if bo = true then 1 else 0, memM m O' μ) ∧ edO tc O O' ∧ O'.1 22 = nI s'.2.2.2 ∧ O'.1 23 = nI s'.2.2.1 ∧ (bo = true → (O'.1 30 = nI L'.length ∧ ∀ k, k < L'.length → O'.2 8 (200 * tc + k) = cvt (L'.getD k 0)) ∧ L'.length ≤ s'.2.2.1 ∧ tok f n s' ∧ ¬ s'.1 = 0)
theorem eRes.tr {O O2 : MS} {r : Option (Int32 × mS)} {bo : Bool} {s' : TS} {L' : List Int32} (h : eRes f n tc m μ O2 r bo s' L') (he : edO tc O O2) : eRes f n tc m μ O r bo s' L' := by
  obtain ⟨O', a1, a2, a3⟩ := h
  exact ⟨O', a1, he.tr a2, a3⟩
theorem lx_cv {n p : Nat} {f : Nat → Int32} (hr : ∀ k, k < n → rng 255 (f k)) (hp : p ≤ n) : ((lx f n p).1 = 2 → cvt (lx f n p).2.1 = 100000 + (lx f n p).2.1) ∧ ((lx f n p).1 = 3 → cvt (lx f n p).2.1 = -1 - (lx f n p).2.1) := by
  obtain ⟨u1, u2⟩ := upto_le (P := blB) (f := f) (n := n) (n - p) p (by omega)
  rw [lx]
  generalize upto blB f n p = s at *
  rw [lxA]
  by_cases c : n ≤ s
  · rw [if_pos c]; exact ⟨fun h => absurd h (show ¬ (0 : Int32) = 2 by decide), fun h => absurd h (show ¬ (0 : Int32) = 3 by decide)⟩
  rw [if_neg c]
  by_cases cl : ltB (f s) = true
  · rw [if_pos cl, lxW]
    have hj := wdI_le (f := f) (s := s) (len := upto ltB f n s - s)
    generalize wdI f s (upto ltB f n s - s) = j at *
    by_cases c12 : j = 12
    · rw [if_pos c12]; exact ⟨fun h => absurd h (show ¬ (1 : Int32) = 2 by decide), fun h => absurd h (show ¬ (1 : Int32) = 3 by decide)⟩
    rw [if_neg c12]
    by_cases c6 : 6 ≤ j
    · rw [if_pos c6]
      refine ⟨fun h => absurd h (show ¬ (3 : Int32) = 2 by decide), fun _ => ?_⟩
      have hd : ∀ j, j < 12 → 6 ≤ j → cvt (-1 - nI (j - 6)) = -1 - (-1 - nI (j - 6)) := by decide +kernel
      exact hd j (by omega) c6
    · rw [if_neg c6]; exact ⟨fun h => absurd (Or.inl h) (tok_small j (by omega)), fun h => absurd (Or.inr h) (tok_small j (by omega))⟩
  rw [if_neg cl]
  by_cases cd : dgB (f s) = true
  · rw [if_pos cd, lxN]
    obtain ⟨w1, w2⟩ := upto_le (P := dgB) (f := f) (n := n) (n - s) s (by omega)
    have wm := upto_mem (P := dgB) (f := f) (n := n) (n - s) s (by omega)
    generalize upto dgB f n s = e at *
    by_cases c4 : e - s ≤ 4
    · rw [if_pos c4]
      refine ⟨fun _ => ?_, fun h => absurd h (show ¬ (2 : Int32) = 3 by decide)⟩
      obtain ⟨w, hw, ew⟩ := nmV_ok (f := f) (s := s) (e - s) fun i hi => ⟨hr _ (by omega), wm _ (by omega) (by omega)⟩
      have : (10 : Nat) ^ (e - s) ≤ 10 ^ 4 := Nat.pow_le_pow_right (by decide) c4
      show cvt (nmV f s (e - s)) = 100000 + nmV f s (e - s)
      rw [ew, cvt, if_pos (Int32.not_lt.mp (nI_pos (n := w) (by omega))), Int32.add_comm]
    · rw [if_neg c4]; exact ⟨fun h => absurd h (show ¬ (1 : Int32) = 2 by decide), fun h => absurd h (show ¬ (1 : Int32) = 3 by decide)⟩
  rw [if_neg cd]
  by_cases cs : sgB (f s) = true
  · rw [if_pos cs]
    obtain ⟨_, m1, m2, _⟩ := mt_sg cs
    exact ⟨fun h => absurd h m1, fun h => absurd h m2⟩
  · rw [if_neg cs]; exact ⟨fun h => absurd h (show ¬ (1 : Int32) = 2 by decide), fun h => absurd h (show ¬ (1 : Int32) = 3 by decide)⟩
theorem cvt_v : ∀ v, okOp v → ¬ v < (-6 : Int32) → cvt v = if v < 0 then -1 - v else 100000 + v := by
  intro v h1 h2
  rw [cvt]
  by_cases c : v < 0
  · rw [if_neg (Int32.not_le.mpr c), if_pos (Int32.not_lt.mp h2), if_pos c]
  · rw [if_pos (Int32.not_lt.mp c), if_neg c, Int32.add_comm]
theorem m_eR (hn : n ≤ 160) (hr : ∀ k, k < n → rng 255 (f k)) (htc : tc < 6) : ∀ k md s H o L bo s' L' O p x1 x2, mR f n k md s H o L = some (bo, s', L') → s = lx f n p → p ≤ n → est O f n tc p H o L → o = opn H → o ≤ 5 → hOk H → L.length + H.length ≤ s.2.2.1 → ((md = 0 ∧ x1 = 0) ∨ (md = 1 ∧ x1 = 1 ∧ x2 = 0) ∨ (md = 2 ∧ x1 = 1 ∧ x2 = 1)) → eRes f n tc m μ O (f_X6_eRead_14 k m x1 x2 (memM m O μ)) bo s' L' := by
  intro k
  induction k with
  | zero => intro md s H o L bo s' L' O p x1 x2 h; rw [mR] at h; exact absurd h (by simp)
  | succ k ih =>
    intro md s H o L bo s' L' O p x1 x2 h hs hp he ho ho5 hk hl hm
    have htk : s.1 ∈ tkL := by rw [hs]; exact lx_tk
    obtain ⟨t59, t41, t1, t2, t6, t45, t40, t0⟩ := mt_facts s.1 htk
    obtain ⟨y1, y2, y3, y4⟩ := lx_at (f := f) hp
    rw [← hs] at y1 y2 y3 y4
    have y5 := (lx_at (f := f) y3).1
    have hv : s.1 = 2 ∨ s.1 = 3 → okOp s.2.1 ∧ ¬ s.2.1 < (-6 : Int32) := by rw [hs]; exact lx_v hr hp
    obtain ⟨O1, e1, e2, e3⟩ := m_next (m := m) (μ := μ) hn hp he.1.2.1 he.2.1 he.1.2.2.1 he.1.2.2.2
    rw [← hs] at e3
    have he1 : est O1 f n tc s.2.2.2 H o L := he.ed e2 e3.1
    have hl1 : L.length + H.length ≤ 190 := by omega
    have h23 : O1.1 23 = nI s.2.2.1 := e3.2.1
    have h24 : O1.1 24 = mt s.1 := e3.2.2.1
    refine eRes.tr ?_ (e2.e (tc := tc))
    rw [f_X6_eRead_14.eq_2, if_pos isO_M, e1, Option.bind_some]
    rw [mR] at h
    -- a failing place
    have bad : ∀ (O2 : MS) (r : Option (Int32 × mS)) (L2 : List Int32), r = some (0, memM m O2 μ) → edO tc O1 O2 → O2.1 22 = O1.1 22 → O2.1 23 = O1.1 23 → some (false, s, L2) = some (bo, s', L') → eRes f n tc m μ O1 r bo s' L' := by
      intro O2 r L2 q1 q2 q3 q4 q5
      injection q5 with q5
      injection q5 with q6 q7
      injection q7 with q8 q9
      subst q6 q8
      exact ⟨O2, by rw [q1]; rfl, q2, q3.trans e3.1, q4.trans h23, fun q => absurd q (by decide)⟩
    rcases hm with ⟨rfl, rfl⟩ | hm
    · rw [if_pos rfl] at h
      rw [if_pos rfl, mI_24, Option.bind_some, h24]
      by_cases c59 : s.1 = 59
      · rw [if_pos c59] at h
        obtain ⟨O2, g1, g2, g3, g4, g5⟩ := m_unw (m := m) (μ := μ) (r := 1) (by omega) (by omega) htc H o L O1 fU (fU_lt (by omega)) he1 ho hk hl1
        obtain ⟨i1, i2, i3⟩ := unw_inv (r := 1) (by omega) H o L ho hk
        rw [if_pos (t59.mpr c59), if_pos isO_M, f_X6_unwinds.eq_1, show (1 : Int32) = nI 1 from rfl, g1, Option.bind_some, mI_28, Option.bind_some, g3.2.2.1]
        injection h with h
        injection h with q6 q7
        injection q7 with q8 q9
        subst q6 q8 q9
        by_cases d : (unw 1 H o L).1 = []
        · rw [if_pos (by rw [d]; rfl), decide_eq_true d]
          exact ⟨O2, rfl, g2, g3.2.1, g4.trans h23, fun _ => ⟨⟨g3.2.2.2.2.2.1, g3.2.2.2.2.2.2⟩, by omega, ⟨p, hp, hs⟩, by rw [c59]; decide⟩⟩
        · rw [if_neg (fun q => d (by
            have := (nI_eq (a := (unw 1 H o L).1.length) (b := 0) (by omega) (by decide)).mp q
            exact List.length_eq_zero_iff.mp this)), decide_eq_false d]
          exact ⟨O2, rfl, g2, g3.2.1, g4.trans h23, fun q => absurd q (by decide)⟩
      rw [if_neg c59] at h
      rw [if_neg (fun q => c59 (t59.mp q)), Option.bind_some]
      by_cases c41 : s.1 = 41
      · rw [if_pos c41] at h
        have hs0 : ¬ s.1 = 0 := by rw [c41]; decide
        obtain ⟨O2, g1, g2, g3, g4, g5⟩ := m_unw (m := m) (μ := μ) (r := 1) (by omega) (by omega) htc H o L O1 fU (fU_lt (by omega)) he1 ho hk hl1
        obtain ⟨i1, i2, i3⟩ := unw_inv (r := 1) (by omega) H o L ho hk
        have itop := unw_top (r := 1) H o L
        have ile := unw_le (r := 1) H o L
        have h22 : O2.1 22 = O1.1 22 := g3.2.1.trans e3.1.symm
        rw [if_pos (t41.mpr c41), if_pos isO_M, f_X6_unwinds.eq_1, show (1 : Int32) = nI 1 from rfl, g1, Option.bind_some, mI_28, Option.bind_some, g3.2.2.1]
        generalize (unw 1 H o L).1 = U at *
        generalize (unw 1 H o L).2.1 = oU at *
        generalize (unw 1 H o L).2.2 = LU at *
        cases U with
        | nil => exact bad O2 _ _ (if_pos (by decide)) g2 h22 g4 h
        | cons x U =>
          have h := h
          have x0 : x = 0 := by
            rcases itop with q | q
            · exact absurd q (List.cons_ne_nil _ _)
            · exact rk_0 x i2.c.1.1 i2.c.1.2 q
          subst x0
          have l1 : (0 :: U).length = U.length + 1 := rfl
          rw [l1] at i3
          have i1 : oU = 1 + opn U := by rw [i1, opn, if_pos (Or.inl rfl)]
          obtain ⟨⟨a1, a2, a3, a4⟩, a5, a6, a7, a8, a9, b1⟩ := g3
          have h2 : est (smI (smI O2 28 (nI U.length)) 29 (nI (oU - 1))) f n tc s.2.2.2 U (oU - 1) LU := by
            refine ⟨⟨?_, ?_, a3, a4⟩, ?_, ?_, ?_, a8.2, ?_, b1⟩
            · rw [sm1, if_neg (by omega), sm1, if_neg (by omega)]; exact a1
            · rw [sm1, if_neg (by omega), sm1, if_neg (by omega)]; exact a2
            · rw [sm1, if_neg (by omega), sm1, if_neg (by omega)]; exact a5
            · rw [sm1, if_neg (by omega), sm1, if_pos rfl]
            · rw [sm1, if_pos rfl]
            · rw [sm1, if_neg (by omega), sm1, if_neg (by omega)]; exact a9
          obtain ⟨O3, j1, j2, j3, j4, j5⟩ := m_unw (m := m) (μ := μ) (r := 7) (by omega) (by omega) htc U (oU - 1) LU _ fU (fU_lt (by omega)) h2 (by omega) i2.c.2 (by omega)
          obtain ⟨w1, w2, w3⟩ := unw_inv (r := 7) (by omega) U (oU - 1) LU (by omega) i2.c.2
          have wle := unw_le (r := 7) U (oU - 1) LU
          have hpl := y4 hs0
          rw [l1, if_neg (show ¬ nI (U.length + 1) = (0 : Int32) from fun q => by have := (nI_eq (a := U.length + 1) (b := 0) (by omega) (by decide)).mp q; omega), Option.bind_some, show nI (U.length + 1) - nI 1 = nI U.length from nI_pred _, mp_28, Option.bind_some, mI_29, Option.bind_some, sm1, if_neg (show ¬ (29 : Nat) = 28 by omega), a7, pk_sub (show 1 ≤ oU by omega), mp_29, Option.bind_some, if_pos isO_M, f_X6_unwinds.eq_1, show (7 : Int32) = nI 7 from rfl, j1, Option.bind_some]
          refine eRes.tr (ih 0 (lx f n s.2.2.2) _ _ _ bo s' L' O3 s.2.2.2 0 x2 h rfl y3 j3 w1 (by omega) w2 (by omega) (Or.inl ⟨rfl, rfl⟩)) (((g2.tr (edO.i _ _ (by omega))).tr (edO.i _ _ (by omega))).tr j2)
      rw [if_neg c41] at h
      rw [if_neg (fun q => c41 (t41.mp q)), if_pos isO_M, m_sign htk h24, Option.bind_some]
      obtain ⟨_, z2, z3⟩ := sg_facts s.1 htk
      by_cases cs : sgOf s.1 = 0
      · rw [if_pos cs] at h
        rw [if_pos cs, if_pos rfl]
        exact bad O1 _ _ rfl (edO.rf _ _) rfl rfl h
      obtain ⟨z4, z5, z6, z7, z8, z9⟩ := z2 cs
      have hs0 : ¬ s.1 = 0 := fun q => cs (by rw [q]; decide)
      have hpl := y4 hs0
      rw [if_neg cs] at h
      rw [if_neg cs, if_neg z8, if_pos isO_M]
      have go : ∀ r, 1 ≤ r → r ≤ 7 → (r = if rk (sgOf s.1) = 4 then 5 else rk (sgOf s.1)) → (∀ md2, md2 = (if 12 < sgOf s.1 then 1 else 2) → (rk (sgOf s.1) = 4 ∧ topR (unw r H o L).1 = 4 → some (false, s, (unw r H o L).2.2) = some (bo, s', L')) → (¬ (rk (sgOf s.1) = 4 ∧ topR (unw r H o L).1 = 4) → mR f n k md2 (lx f n s.2.2.2) (sgOf s.1 :: (unw r H o L).1) (unw r H o L).2.1 (unw r H o L).2.2 = some (bo, s', L')) → eRes f n tc m μ O1 ((f_X6_between m (nI (sgOf s.1)) (memM m O1 μ)).bind fun q89 => if q89.1 = 0 then some ((0 : Int32), q89.2) else vl (if (12 : Int32) < nI (sgOf s.1) then (0 : Int32) else (1 : Int32)) fun v92 => f_X6_eRead_14 k m (1 : Int32) v92 q89.2) bo s' L') := by
        intro r r1 r7 hrr md2 hmd2 hb hg
        obtain ⟨ok, O2, g1, g2, g3, g4, g5⟩ := m_b17 (m := m) (μ := μ) (g := sgOf s.1) r1 r7 htc ⟨by omega, z4⟩ he1 ho hk hl1
        have hbw : f_X6_between m (nI (sgOf s.1)) (memM m O1 μ) = some (ok, memM m O2 μ) := by
          rw [f_X6_between.eq_1, rank_is (sgOf s.1) (by omega) (Or.inr z4)]
          by_cases c : rk (sgOf s.1) = 4
          · rw [if_pos c] at hrr
            rw [if_pos (show nI (rk (sgOf s.1)) = (4 : Int32) by rw [c]; rfl), show (5 : Int32) = nI r by rw [hrr]; rfl, g1]
          · rw [if_neg c] at hrr
            rw [if_neg (show ¬ nI (rk (sgOf s.1)) = (4 : Int32) from fun q => c ((nI_eq (a := rk (sgOf s.1)) (b := 4) (by omega) (by decide)).mp q)), ← hrr, g1]
        rw [hbw, Option.bind_some]
        obtain ⟨i1, i2, i3⟩ := unw_inv r1 H o L ho hk
        have ile := unw_le (r := r) H o L
        rcases g5 with ⟨rfl, b1, b2⟩ | ⟨rfl, b1, b2⟩
        · exact bad O2 _ _ (if_pos rfl) g2 g3 g4 (hb ⟨b1, b2⟩)
        · dsimp only
          rw [if_neg (by decide), vl_eq]
          refine eRes.tr (ih md2 (lx f n s.2.2.2) _ _ _ bo s' L' O2 s.2.2.2 1 _ (hg b1) rfl y3 b2 ?_ (by omega) ?_ ?_ ?_) g2
          · rw [i1, opn, if_neg (by simp only [not_or]; exact ⟨cs, z6, by omega⟩), Nat.zero_add]
          · intro x hx
            rcases List.mem_cons.mp hx with q | q
            · rw [q]; exact Or.inr ⟨z4, by omega⟩
            · exact i2 x q
          · show _ + ((unw r H o L).1.length + 1) ≤ _
            omega
          · by_cases c12 : 12 < sgOf s.1
            · rw [if_pos c12] at hmd2
              rw [if_pos (z9.mpr c12)]
              exact Or.inr (Or.inl ⟨hmd2, rfl, rfl⟩)
            · rw [if_neg c12] at hmd2
              rw [if_neg (fun q => c12 (z9.mp q))]
              exact Or.inr (Or.inr ⟨hmd2, rfl, rfl⟩)
      by_cases c4 : rk (sgOf s.1) = 4
      · rw [if_pos c4] at h
        refine go 5 (by omega) (by omega) (by rw [if_pos c4]) 1 (by rw [if_pos (z3 c4)]) (fun q => ?_) (fun q => ?_)
        · rw [if_pos q.2] at h; exact h
        · rw [if_neg (fun e => q ⟨c4, e⟩)] at h; exact h
      · rw [if_neg c4] at h
        exact go _ z7.1 (by omega) (by rw [if_neg c4]) _ rfl (fun q => absurd q.1 c4) (fun _ => h)
    · have hmd : ¬ md = 0 := by omega
      have hx1 : ¬ x1 = 0 := by rcases hm with ⟨_, q, _⟩ | ⟨_, q, _⟩ <;> rw [q] <;> decide
      rw [if_neg hmd] at h
      rw [if_neg hx1, mI_24, Option.bind_some, h24]
      have hcv : (s.1 = 2 → cvt s.2.1 = 100000 + s.2.1) ∧ (s.1 = 3 → cvt s.2.1 = -1 - s.2.1) := by rw [hs]; exact lx_cv hr hp
      by_cases c23 : s.1 = 2 ∨ s.1 = 3
      · have hs0 : ¬ s.1 = 0 := by rcases c23 with c | c <;> rw [c] <;> decide
        have hpl := y4 hs0
        rw [if_pos c23] at h
        have num : ∀ x, cvt s.2.1 = x → eRes f n tc m μ O1 (f_X6_eRead_61 (f_X6_eRead_14 k) m x2 m x (memM m O1 μ)) bo s' L' := by
          intro x hx
          obtain ⟨O2, g1, g2, g3, g4, g5⟩ := m_puts (m := m) (μ := μ) he1 htc (by omega) hx
          obtain ⟨O3, j1, j2, j3, j4, j5⟩ := m_unw (m := m) (μ := μ) (r := 7) (by omega) (by omega) htc H o (L ++ [s.2.1]) O2 fU (fU_lt (by omega)) g3 ho hk (by rw [List.length_append]; show L.length + 1 + H.length ≤ 190; omega)
          obtain ⟨w1, w2, w3⟩ := unw_inv (r := 7) (by omega) H o (L ++ [s.2.1]) ho hk
          have wle := unw_le (r := 7) H o (L ++ [s.2.1])
          have ll : (L ++ [s.2.1]).length = L.length + 1 := by rw [List.length_append]; rfl
          rw [ll] at w3
          rw [f_X6_eRead_61.eq_1, if_pos isO_M, g1, Option.bind_some, if_pos isO_M, f_X6_unwinds.eq_1, show (7 : Int32) = nI 7 from rfl, j1, Option.bind_some]
          exact eRes.tr (ih 0 (lx f n s.2.2.2) _ _ _ bo s' L' O3 s.2.2.2 0 x2 h rfl y3 j3 w1 (by omega) w2 (by omega) (Or.inl ⟨rfl, rfl⟩)) (g2.tr j2)
        have h38 : f_X6_eRead_38 (f_X6_eRead_14 k) m x2 (memM m O1 μ) = f_X6_eRead_61 (f_X6_eRead_14 k) m x2 m (cvt s.2.1) (memM m O1 μ) := by
          rw [f_X6_eRead_38.eq_1, mI_24, Option.bind_some, h24, mI_25, Option.bind_some, Option.bind_some]
          rcases c23 with c | c
          · rw [if_pos (t1.mpr c), e3.2.2.2.1 c, hcv.1 c]
          · rw [if_neg (fun q => absurd (c.symm.trans (t1.mp q)) (by decide)), e3.2.2.2.2.1 c, hcv.2 c]
        rcases c23 with c | c
        · rw [if_pos (t1.mpr c), h38]
          exact num _ rfl
        · rw [if_neg (fun q => absurd (c.symm.trans (t1.mp q)) (by decide)), Option.bind_some, if_pos (t2.mpr c), h38]
          exact num _ rfl
      rw [if_neg c23] at h
      rw [if_neg (fun q => c23 (Or.inl (t1.mp q))), Option.bind_some, if_neg (fun q => c23 (Or.inr (t2.mp q))), Option.bind_some]
      have opens : ∀ (y md2 : Nat) (r : Option (Int32 × mS)) (x2' : Int32), ¬ s.1 = 0 → (y = 0 ∨ y = 13 ∨ y = 19) → ((md2 = 1 ∧ x2' = 0) ∨ (md2 = 2 ∧ x2' = 1)) → r = ((f_X6_opensOne m (nI y) (memM m O1 μ)).bind fun q76 => if q76.1 = 0 then some ((0 : Int32), q76.2) else f_X6_eRead_14 k m x1 x2' q76.2) → (o = 5 → some (false, s, L) = some (bo, s', L')) → (¬ o = 5 → mR f n k md2 (lx f n s.2.2.2) (y :: H) (o + 1) L = some (bo, s', L')) → eRes f n tc m μ O1 r bo s' L' := by
        intro y md2 r x2' hs0 hy hmd2 hr2 hb hg
        have hpl := y4 hs0
        obtain ⟨ok, O2, g1, g2, g3, g4, g5⟩ := m_open (m := m) (μ := μ) (x := y) he1 ho5 (by omega)
        rw [hr2, g1, Option.bind_some]
        rcases g5 with ⟨rfl, b1⟩ | ⟨rfl, b1, b2⟩
        · exact bad O2 _ _ (if_pos rfl) g2 g3 g4 (hb b1)
        · dsimp only
          rw [if_neg (by decide)]
          have hx1' : x1 = 1 := by rcases hm with ⟨_, q, _⟩ | ⟨_, q, _⟩ <;> exact q
          refine eRes.tr (ih md2 (lx f n s.2.2.2) _ _ _ bo s' L' O2 s.2.2.2 x1 x2' (hg b1) rfl y3 b2 ?_ (by omega) ?_ ?_ ?_) g2
          · rw [opn, if_pos hy, ho, Nat.add_comm]
          · intro x hx
            rcases List.mem_cons.mp hx with q | q
            · rw [q]
              rcases hy with q | q | q
              · exact Or.inl q
              · exact Or.inr ⟨by omega, by omega⟩
              · exact Or.inr ⟨by omega, by omega⟩
            · exact hk x q
          · show L.length + (H.length + 1) ≤ _
            omega
          · rcases hmd2 with ⟨q1, q2⟩ | ⟨q1, q2⟩
            · exact Or.inr (Or.inl ⟨q1, hx1', q2⟩)
            · exact Or.inr (Or.inr ⟨q1, hx1', q2⟩)
      have h99 : ¬ (s.1 = 9 ∧ md = 2) → eRes f n tc m μ O1 (f_X6_eRead_99 (f_X6_eRead_14 k) m x1 (memM m O1 μ)) bo s' L' := by
        intro c9
        rw [if_neg c9] at h
        rw [f_X6_eRead_99.eq_1, mI_24, Option.bind_some, h24]
        by_cases c45 : s.1 = 45
        · rw [if_pos c45] at h
          rw [if_pos (t45.mpr c45), if_pos isO_M]
          exact opens 19 1 _ 0 (by rw [c45]; decide) (Or.inr (Or.inr rfl)) (Or.inl ⟨rfl, rfl⟩) rfl (fun q => by rw [if_pos q] at h; exact h) (fun q => by rw [if_neg q] at h; exact h)
        rw [if_neg c45] at h
        rw [if_neg (fun q => c45 (t45.mp q)), Option.bind_some]
        by_cases c40 : s.1 = 40
        · rw [if_pos c40] at h
          rw [if_pos (t40.mpr c40), if_pos isO_M]
          exact opens 0 2 _ 1 (by rw [c40]; decide) (Or.inl rfl) (Or.inr ⟨rfl, rfl⟩) rfl (fun q => by rw [if_pos q] at h; exact h) (fun q => by rw [if_neg q] at h; exact h)
        rw [if_neg c40] at h
        rw [if_neg (fun q => c40 (t40.mp q))]
        exact bad O1 _ _ rfl (edO.rf _ _) rfl rfl h
      by_cases c9 : s.1 = 9
      · rw [if_pos (t6.mpr c9)]
        rcases hm with ⟨q1, q2, q3⟩ | ⟨q1, q2, q3⟩
        · rw [if_pos q3]
          exact h99 (fun q => by have := q.2; omega)
        · rw [if_neg (by rw [q3]; decide), if_pos isO_M]
          rw [if_pos ⟨c9, q1⟩] at h
          exact opens 13 md _ x2 (by rw [c9]; decide) (Or.inr (Or.inl rfl)) (Or.inr ⟨q1, q3⟩) rfl (fun q => by rw [if_pos q] at h; exact h) (fun q => by rw [if_neg q] at h; exact h)
      · rw [if_neg (fun q => c9 (t6.mp q))]
        exact h99 (fun q => c9 q.1)
end RF
