/-! text: the machine of ranks, and what codes come to. -/
theorem lx_at {f : Nat → Int32} {n p : Nat} (hp : p ≤ n) : p ≤ (lx f n p).2.2.1 ∧ (lx f n p).2.2.1 ≤ (lx f n p).2.2.2 ∧ (lx f n p).2.2.2 ≤ n ∧ (¬ (lx f n p).1 = 0 → (lx f n p).2.2.1 < (lx f n p).2.2.2) := by
  obtain ⟨u1, u2⟩ := upto_le (P := blB) (f := f) (n := n) (n - p) p (by omega)
  rw [lx]
  generalize upto blB f n p = s at *
  rw [lxA]
  by_cases c : n ≤ s
  · rw [if_pos c]; exact ⟨u1, Nat.le_refl _, u2, fun h => absurd rfl h⟩
  rw [if_neg c]
  by_cases cl : ltB (f s) = true
  · obtain ⟨w1, w2⟩ := upto_le (P := ltB) (f := f) (n := n) (n - (s + 1)) (s + 1) (by omega)
    rw [if_pos cl, lxW_at.1, lxW_at.2, upto_go (by omega) cl]
    exact ⟨u1, by omega, w2, fun _ => by omega⟩
  rw [if_neg cl]
  by_cases cd : dgB (f s) = true
  · obtain ⟨w1, w2⟩ := upto_le (P := dgB) (f := f) (n := n) (n - (s + 1)) (s + 1) (by omega)
    rw [if_pos cd, lxN_at.1, lxN_at.2, upto_go (by omega) cd]
    exact ⟨u1, by omega, w2, fun _ => by omega⟩
  rw [if_neg cd]
  exact ⟨u1, Nat.le_succ _, by show s + 1 ≤ n; omega, fun _ => Nat.lt_succ_self _⟩
theorem dg_nI : ∀ c, c < 256 → dgB (nI c) = true → 48 ≤ c ∧ c < 58 := by decide +kernel
theorem nmV_ok {f : Nat → Int32} {s : Nat} : ∀ k, (∀ i, i < k → rng 255 (f (s + i)) ∧ dgB (f (s + i)) = true) → ∃ w, w < 10 ^ k ∧ nmV f s k = nI w := by
  intro k
  induction k with
  | zero => intro _; exact ⟨0, by decide, rfl⟩
  | succ k ih =>
    intro h
    obtain ⟨w, hw, e⟩ := ih (fun i hi => h i (by omega))
    obtain ⟨⟨c, hc, ec⟩, hd⟩ := h k (by omega)
    rw [ec] at hd
    have hc2 := dg_nI c (by omega) hd
    refine ⟨w * 10 + (c - 48), ?_, ?_⟩
    · rw [Nat.pow_succ]; omega
    · rw [nmV, e, ec, show (10 : Int32) = nI 10 from rfl, pk_mul, nI_add, show (48 : Int32) = nI 48 from rfl, pk_sub (by omega)]
      congr 1
      omega
theorem name_ok : ∀ j, j < 12 → 6 ≤ j → okOp (-1 - nI (j - 6)) ∧ ¬ (-1 - nI (j - 6)) < -6 := by
  intro j h1 h2
  have : j = 6 ∨ j = 7 ∨ j = 8 ∨ j = 9 ∨ j = 10 ∨ j = 11 := by omega
  rcases this with rfl | rfl | rfl | rfl | rfl | rfl
  · exact ⟨Or.inr (Or.inl (by decide)), by decide⟩
  · exact ⟨Or.inr (Or.inr (Or.inl (by decide))), by decide⟩
  · exact ⟨Or.inr (Or.inr (Or.inr (Or.inl (by decide)))), by decide⟩
  · exact ⟨Or.inr (Or.inr (Or.inr (Or.inr (Or.inl (by decide))))), by decide⟩
  · exact ⟨Or.inr (Or.inr (Or.inr (Or.inr (Or.inr (Or.inl (by decide)))))), by decide⟩
  · exact ⟨Or.inr (Or.inr (Or.inr (Or.inr (Or.inr (Or.inr (Or.inl (by decide))))))), by decide⟩
theorem num_ok {w : Nat} (h : w ≤ 9999) : okOp (nI w) ∧ ¬ nI w < (-6 : Int32) := by
  refine ⟨Or.inl ⟨w, h, rfl⟩, fun q => ?_⟩
  have h0 := nI_pos (n := w) (by omega)
  exact h0 (Int32.lt_trans q (by decide))
theorem lx_v {f : Nat → Int32} {n p : Nat} (hr : ∀ k, k < n → rng 255 (f k)) (hp : p ≤ n) (h : (lx f n p).1 = 2 ∨ (lx f n p).1 = 3) : okOp (lx f n p).2.1 ∧ ¬ (lx f n p).2.1 < (-6 : Int32) := by
  obtain ⟨u1, u2⟩ := upto_le (P := blB) (f := f) (n := n) (n - p) p (by omega)
  revert h
  rw [lx]
  generalize upto blB f n p = s at *
  rw [lxA]
  by_cases c : n ≤ s
  · rw [if_pos c]; exact fun h => absurd h (show ¬ ((0 : Int32) = 2 ∨ (0 : Int32) = 3) by decide)
  rw [if_neg c]
  by_cases cl : ltB (f s) = true
  · rw [if_pos cl, lxW]
    have hj := wdI_le (f := f) (s := s) (len := upto ltB f n s - s)
    generalize wdI f s (upto ltB f n s - s) = j at *
    by_cases c12 : j = 12
    · rw [if_pos c12]; exact fun h => absurd h (show ¬ ((1 : Int32) = 2 ∨ (1 : Int32) = 3) by decide)
    rw [if_neg c12]
    by_cases c6 : 6 ≤ j
    · rw [if_pos c6]; exact fun _ => name_ok j (by omega) c6
    · rw [if_neg c6]; exact fun h => absurd h (tok_small j (by omega))
  rw [if_neg cl]
  by_cases cd : dgB (f s) = true
  · rw [if_pos cd, lxN]
    obtain ⟨w1, w2⟩ := upto_le (P := dgB) (f := f) (n := n) (n - s) s (by omega)
    have wm := upto_mem (P := dgB) (f := f) (n := n) (n - s) s (by omega)
    generalize upto dgB f n s = e at *
    by_cases c4 : e - s ≤ 4
    · rw [if_pos c4]
      intro _
      obtain ⟨w, hw, ew⟩ := nmV_ok (f := f) (s := s) (e - s) fun i hi => ⟨hr _ (by omega), wm _ (by omega) (by omega)⟩
      have : (10 : Nat) ^ (e - s) ≤ 10 ^ 4 := Nat.pow_le_pow_right (by decide) c4
      show okOp (nmV f s (e - s)) ∧ _
      rw [ew]
      exact num_ok (by omega)
    · rw [if_neg c4]; exact fun h => absurd h (show ¬ ((1 : Int32) = 2 ∨ (1 : Int32) = 3) by decide)
  rw [if_neg cd]
  by_cases cs : sgB (f s) = true
  · rw [if_pos cs]
    obtain ⟨_, m1, m2, _⟩ := mt_sg cs
    intro h
    rcases h with h | h
    · exact absurd h m1
    · exact absurd h m2
  · rw [if_neg cs]; exact fun h => absurd h (show ¬ ((1 : Int32) = 2 ∨ (1 : Int32) = 3) by decide)
def evO (X : List Int32) : Prop := ∀ nm st, ∃ v, evL nm X st = some (v :: st)
theorem evL_app (nm : Int32 → Int32) (Y : List Int32) : ∀ (X st : List Int32), evL nm (X ++ Y) st = (evL nm X st).bind (evL nm Y) := by
  intro X
  induction X with
  | nil => intro st; rfl
  | cons op X ih =>
    intro st
    by_cases c : op < -6
    · by_cases c2 : op < -8
      · match st with
        | [] => simp [evL, c, c2]
        | [_] => simp [evL, c, c2]
        | y :: x :: s => simp [evL, c, c2, ih]
      · match st with
        | [] => simp [evL, c, c2]
        | x :: s => simp [evL, c, c2, ih]
    · simp [evL, c, ih]
theorem evO_1 {op : Int32} (h : ¬ op < -6) : evO [op] := fun nm st => by
  exact ⟨if op < 0 then nm op else op, by simp [evL, h]⟩
theorem evO_u {X : List Int32} {op : Int32} (hX : evO X) (h : op < -6) (h2 : ¬ op < -8) : evO (X ++ [op]) := fun nm st => by
  obtain ⟨v, e⟩ := hX nm st
  rw [evL_app, e, Option.bind_some]
  exact ⟨unS op v, by simp [evL, h, h2]⟩
theorem evO_2 {X Y : List Int32} {op : Int32} (hX : evO X) (hY : evO Y) (h : op < -8) : evO (X ++ Y ++ [op]) := fun nm st => by
  obtain ⟨v, e⟩ := hX nm st
  obtain ⟨w, e2⟩ := hY nm (v :: st)
  have h6 : op < -6 := Int32.lt_trans h (by decide)
  rw [evL_app, evL_app, e, Option.bind_some, e2, Option.bind_some]
  exact ⟨f_X2_joined op v w, by simp [evL, h, h6]⟩
def rk (h : Nat) : Nat := if h = 0 then 0 else if h = 11 then 1 else if h = 12 then 2 else if h = 13 then 3 else if 15 < h then if 17 < h then if h = 18 then 6 else 7 else 5 else 4
def opc (h : Nat) : Int32 := if h = 11 then -15 else if h = 12 then -14 else if h = 13 then -8 else if h = 14 then -12 else if h = 15 then -13 else if h = 16 then -9 else if h = 17 then -10 else if h = 18 then -11 else -7
def unw (r : Nat) : List Nat → Nat → List Int32 → List Nat × Nat × List Int32
  | [], o, L => ([], o, L)
  | h :: H, o, L => if rk h < r then (h :: H, o, L) else unw r H (if h = 13 ∨ h = 19 then o - 1 else o) (L ++ [opc h])
def sgOf (t : Int32) : Nat := if t = 8 then 11 else if t = 7 then 12 else if t = 60 then 14 else if t = 61 then 15 else if t = 43 then 16 else if t = 45 then 17 else if t = 42 then 18 else 0
def topR (H : List Nat) : Nat := match H with
  | [] => 0
  | h :: _ => rk h
/-- the rows of the reference, with a token not yet taken: 0 behind a value, 1 before one, 2 before one with 'not' allowed -/
def mR (f : Nat → Int32) (n : Nat) : Nat → Nat → TS → List Nat → Nat → List Int32 → Option (Bool × TS × List Int32)
  | 0, _, _, _, _, _ => none
  | k + 1, md, s, H, o, L =>
    if md = 0 then
      if s.1 = 59 then some (decide ((unw 1 H o L).1 = []), s, (unw 1 H o L).2.2)
      else if s.1 = 41 then
        match (unw 1 H o L).1 with
        | [] => some (false, s, (unw 1 H o L).2.2)
        | _ :: H' => mR f n k 0 (lx f n s.2.2.2) (unw 7 H' ((unw 1 H o L).2.1 - 1) (unw 1 H o L).2.2).1 (unw 7 H' ((unw 1 H o L).2.1 - 1) (unw 1 H o L).2.2).2.1 (unw 7 H' ((unw 1 H o L).2.1 - 1) (unw 1 H o L).2.2).2.2
      else if sgOf s.1 = 0 then some (false, s, L)
      else if rk (sgOf s.1) = 4 then
        if topR (unw 5 H o L).1 = 4 then some (false, s, (unw 5 H o L).2.2)
        else mR f n k 1 (lx f n s.2.2.2) (sgOf s.1 :: (unw 5 H o L).1) (unw 5 H o L).2.1 (unw 5 H o L).2.2
      else mR f n k (if 12 < sgOf s.1 then 1 else 2) (lx f n s.2.2.2) (sgOf s.1 :: (unw (rk (sgOf s.1)) H o L).1) (unw (rk (sgOf s.1)) H o L).2.1 (unw (rk (sgOf s.1)) H o L).2.2
    else if s.1 = 2 ∨ s.1 = 3 then mR f n k 0 (lx f n s.2.2.2) (unw 7 H o (L ++ [s.2.1])).1 (unw 7 H o (L ++ [s.2.1])).2.1 (unw 7 H o (L ++ [s.2.1])).2.2
    else if s.1 = 9 ∧ md = 2 then if o = 5 then some (false, s, L) else mR f n k md (lx f n s.2.2.2) (13 :: H) (o + 1) L
    else if s.1 = 45 then if o = 5 then some (false, s, L) else mR f n k 1 (lx f n s.2.2.2) (19 :: H) (o + 1) L
    else if s.1 = 40 then if o = 5 then some (false, s, L) else mR f n k 2 (lx f n s.2.2.2) (0 :: H) (o + 1) L
    else some (false, s, L)
