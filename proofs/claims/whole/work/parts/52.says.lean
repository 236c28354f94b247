/-! What a text says: its code as a list, worked off on a stack. -/
def bc (x : Int32) : Int32 := f_J6_bitCount x
def nmS (Z : Zt) (p : Nat) (op : Int32) : Int32 := if op = -5 then bc (Z 10 0) else if op = -4 then lyA Z 8 else if op = -3 then Z 10 1 else if op = -2 then bc (Z 4 p) else if op = -1 then Z 5 p else Z 3 p
def sl (code : Nat → Int32) (k : Nat) : Nat → List Int32
  | 0 => []
  | m + 1 => code k :: sl code (k + 1) m
def stk (g : Nat → Int32) : Nat → List Int32
  | 0 => []
  | n + 1 => g n :: stk g n
theorem stk_len (g : Nat → Int32) (n : Nat) : (stk g n).length = n := by
  induction n with
  | zero => rfl
  | succ n ih => simp [stk, ih]
theorem stk_upd {g : Nat → Int32} {n k : Nat} {v : Int32} (h : n ≤ k) : stk (upd g k v) n = stk g n := by
  induction n with
  | zero => rfl
  | succ n ih =>
    simp only [stk]
    rw [upd_ne _ _ (show n ≠ k by omega), ih (by omega)]
def unS (op x : Int32) : Int32 := if op = -7 then -x else if x = 0 then 1 else 0
def evL (nm : Int32 → Int32) : List Int32 → List Int32 → Option (List Int32)
  | [], st => some st
  | op :: r, st =>
    if op < -6 then
      if op < -8 then
        match st with
        | y :: x :: s => evL nm r (f_X2_joined op x y :: s)
        | _ => none
      else
        match st with
        | x :: s => evL nm r (unS op x :: s)
        | _ => none
    else evL nm r ((if op < 0 then nm op else op) :: st)
/-- a law at the address q: its number, its code's address, length and numbers, where waits and drops begin -/
def lawIs (σ : mS) (q : Nat) (nr : Int32) (a n wt dp : Nat) (code : Nat → Int32) : Prop := σ.2 q = some (.inr (1, [.int nr, .ref a, .int (nI wt), .int (nI dp)])) ∧ σ.2 a = some (iArr n code)
section LAW
variable {σ : mS} {q a n wt dp : Nat} {nr : Int32} {code : Nat → Int32}
theorem lawIs.o (h : lawIs σ q nr a n wt dp code) : isO σ q 1 = true := by simp [isO, h.1, xO]
theorem lawIs.gnr (h : lawIs σ q nr a n wt dp code) : gI σ q 1 0 = some nr := by
  simp only [gI, gV, h.1, xO, Option.bind_some, if_pos]
  rfl
theorem lawIs.ga (h : lawIs σ q nr a n wt dp code) : gR σ q 1 1 = some a := by
  simp only [gR, gV, h.1, xO, Option.bind_some, if_pos]
  rfl
theorem lawIs.gwt (h : lawIs σ q nr a n wt dp code) : gI σ q 1 2 = some (nI wt) := by
  simp only [gI, gV, h.1, xO, Option.bind_some, if_pos]
  rfl
theorem lawIs.gdp (h : lawIs σ q nr a n wt dp code) : gI σ q 1 3 = some (nI dp) := by
  simp only [gI, gV, h.1, xO, Option.bind_some, if_pos]
  rfl
theorem lawIs.l (h : lawIs σ q nr a n wt dp code) : aL σ a = some (nI n) := by
  simp only [aL, h.2, xI_i, Option.bind_some]
  rfl
theorem lawIs.c (h : lawIs σ q nr a n wt dp code) {k : Nat} (hk : k < n) (hn : n < 2 ^ 31) : aI σ a (nI k) = some (code k) := by
  simp only [aI, h.2, xI_i, Option.bind_some]
  rw [if_neg (nI_in hk hn), nI_clamp (by omega)]
end LAW
section SAYS
variable {b o : Nat} {S : XS} {μ : mS} {Z : Zt} {g : Nat → Int32}
theorem x_named (h : zo o) {p : Nat} (hp : p < 6) (op : Int32) : f_X0_named (b + o) op (nI p) (AZ b o S μ Z g) = some (nmS Z p op) := by
  rw [f_X0_named.eq_1, nmS]
  by_cases c5 : op = -5
  · rw [if_pos c5, if_pos c5, gA_A h]; rfl
  rw [if_neg c5, if_neg c5]
  by_cases c4 : op = -4
  · rw [if_pos c4, if_pos c4, if_pos (isO_A h), x_lying h]; rfl
  rw [if_neg c4, if_neg c4]
  by_cases c3 : op = -3
  · rw [if_pos c3, if_pos c3, gH_A h]; rfl
  rw [if_neg c3, if_neg c3]
  by_cases c2 : op = -2
  · rw [if_pos c2, if_pos c2, gR_A h 4 (by omega), Option.bind_some, aI_in h 4 (by omega) p hp]; rfl
  rw [if_neg c2, if_neg c2]
  by_cases c1 : op = -1
  · rw [if_pos c1, if_pos c1, gR_A h 5 (by omega), Option.bind_some, aI_in h 5 (by omega) p hp]; rfl
  rw [if_neg c1, if_neg c1, gR_A h 3 (by omega), Option.bind_some, aI_in h 3 (by omega) p hp]; rfl
theorem truth_01 (x : Int32) : f_X2_truth (if x = 0 then (1 : Int32) else 0) = if x = 0 then 1 else 0 := by
  rw [f_X2_truth.eq_1]
  by_cases c : x = 0
  · rw [if_pos c, if_neg (by decide)]
  · rw [if_neg c, if_pos rfl]
theorem x_says_loop (h : zo o) {p : Nat} (hp : p < 6) {q a n wt dp to : Nat} {nr : Int32} {code : Nat → Int32} (hl : ∀ g, lawIs (AZ b o S μ Z g) q nr a n wt dp code) (hn : n ≤ 160) (hto : to ≤ n) (part : Int32) (K : Int32 → Nat → Int32 → mS → Option (Int32 × mS)) (res : List Int32) :
    ∀ m k sz g f, k + m = to → m < f → sz + m ≤ 160 → evL (nmS Z p) (sl code k m) (stk g sz) = some res →
      ∃ g', f_X2_says_69 K f q part (b + o) (nI p) (b + 10) (nI to) (nI sz) (nI k) (AZ b o S μ Z g) = K part (b + 10) (nI res.length) (AZ b o S μ Z g') ∧ stk g' res.length = res := by
  intro m
  induction m with
  | zero =>
    intro k sz g f hk hf hs he
    obtain ⟨f, rfl⟩ : ∃ m, f = m + 1 := ⟨f - 1, by omega⟩
    have hk2 : k = to := by omega
    subst hk2
    have he2 : stk g sz = res := Option.some.inj he
    refine ⟨g, ?_, ?_⟩
    · rw [f_X2_says_69.eq_2, if_pos (nI_le (Nat.le_refl _) (by omega)), ← he2, stk_len]
    · rw [← he2, stk_len]
  | succ m ih =>
    intro k sz g f hk hf hs he
    obtain ⟨f, rfl⟩ : ∃ m, f = m + 1 := ⟨f - 1, by omega⟩
    rw [f_X2_says_69.eq_2, if_neg (nI_ge (by omega) (by omega)), aL_G, Option.bind_some, if_neg (ge_160 (show sz < 160 by omega)), (hl g).ga, Option.bind_some, (hl g).c (show k < n by omega) (by omega), Option.bind_some]
    simp only [sl, evL] at he
    by_cases c6 : code k < -6
    · rw [if_pos c6]
      rw [if_pos c6] at he
      by_cases c8 : code k < -8
      · rw [if_pos c8]
        rw [if_pos c8] at he
        match sz, hs, he with
        | s + 2, hs, he =>
          simp only [stk] at he
          have i1 : nI (s + 2) - 1 = nI (s + 1) := nI_pred (s + 1)
          have i2 : nI (s + 2) - 2 = nI s := pk_sub (a := s + 2) (b := 2) (by omega)
          rw [f_X2_says_187.eq_1, if_neg (nlt_2 (show 2 ≤ s + 2 by omega) (by omega)), i1, i2, aI_G h, if_neg (nI_in (show s < 160 by omega) (by decide)), nI_clamp (by omega), Option.bind_some, aI_G h, if_neg (nI_in (show s + 1 < 160 by omega) (by decide)), nI_clamp (by omega), Option.bind_some, sI_G h, if_neg (nI_in (show s < 160 by omega) (by decide)), nI_clamp (by omega), Option.bind_some]
          simp only [vl]
          rw [show nI (s + 2) + (-1 : Int32) = nI (s + 1) from pk_m1 (s + 1), nI_1]
          refine ih (k + 1) (s + 1) _ f (by omega) (by omega) (by omega) ?_
          simp only [stk]
          rw [upd_eq, stk_upd (Nat.le_refl _)]
          exact he
        | 1, hs, he => simp only [stk] at he; cases he
        | 0, hs, he => simp only [stk] at he; cases he
      · rw [if_neg c8]
        rw [if_neg c8] at he
        match sz, hs, he with
        | s + 1, hs, he =>
          simp only [stk] at he
          have i1 : nI (s + 1) - 1 = nI s := nI_pred s
          rw [if_neg (nlt_1 (show 1 ≤ s + 1 by omega) (by omega)), i1]
          have e0 : aI (AZ b o S μ Z g) (b + 10) (nI s) = some (g s) := by rw [aI_G h, if_neg (nI_in (show s < 160 by omega) (by decide)), nI_clamp (by omega)]
          have key : ∀ v, v = unS (code k) (g s) → ∃ g', f_X2_says_183 (f_X2_says_69 K f) q part (b + o) (nI p) (b + 10) (nI to) (nI (s + 1)) (nI k) (b + 10) (nI s) v (AZ b o S μ Z g) = K part (b + 10) (nI res.length) (AZ b o S μ Z g') ∧ stk g' res.length = res := by
            intro v hv
            rw [f_X2_says_183.eq_1, sI_G h, if_neg (nI_in (show s < 160 by omega) (by decide)), nI_clamp (by omega), Option.bind_some]
            simp only [vl]
            rw [nI_1]
            refine ih (k + 1) (s + 1) _ f (by omega) (by omega) (by omega) ?_
            simp only [stk]
            rw [upd_eq, stk_upd (Nat.le_refl _), hv]
            exact he
          by_cases c7 : code k = -7
          · rw [if_pos c7, e0, Option.bind_some]
            exact key _ (by rw [unS, if_pos c7])
          · rw [if_neg c7, e0, Option.bind_some]
            simp only [vl]
            exact key _ (by rw [truth_01, unS, if_neg c7])
        | 0, hs, he => simp only [stk] at he; cases he
    · rw [if_neg c6]
      rw [if_neg c6] at he
      have key : ∀ v, v = (if code k < 0 then nmS Z p (code k) else code k) → ∃ g', f_X2_says_121 (f_X2_says_69 K f) q part (b + o) (nI p) (b + 10) (nI to) (nI sz) (nI k) (b + 10) (nI sz) v (AZ b o S μ Z g) = K part (b + 10) (nI res.length) (AZ b o S μ Z g') ∧ stk g' res.length = res := by
        intro v hv
        rw [f_X2_says_121.eq_1, sI_G h, if_neg (nI_in (show sz < 160 by omega) (by decide)), nI_clamp (by omega), Option.bind_some]
        simp only [vl]
        rw [nI_1, nI_1]
        refine ih (k + 1) (sz + 1) _ f (by omega) (by omega) (by omega) ?_
        simp only [stk]
        rw [upd_eq, stk_upd (Nat.le_refl _), hv]
        exact he
      by_cases c0 : code k < 0
      · rw [if_pos c0, if_pos (isO_A h), x_named h hp, Option.bind_some]
        exact key _ (by rw [if_pos c0])
      · rw [if_neg c0]
        exact key _ (by rw [if_neg c0])
/-- the value of a part, within its bounds -/
def evP (nm : Int32 → Int32) (part : Nat) (l : List Int32) : Option Int32 := match evL nm l [] with
  | some [v] => some (f_X5_bounded v (if part = 2 then -99 else 0) 99)
  | _ => none
/-- the three parts' lists of a law -/
def partL (code : Nat → Int32) (n wt dp part : Nat) : List Int32 := if part = 0 then sl code 0 wt else if part = 1 then sl code wt (dp - wt) else sl code dp (n - dp)
theorem x_says (h : zo o) {p : Nat} (hp : p < 6) {q a n wt dp : Nat} {nr : Int32} {code : Nat → Int32} (hl : ∀ g, lawIs (AZ b o S μ Z g) q nr a n wt dp code) (hn : n ≤ 160) (hw : wt ≤ dp) (hd : dp ≤ n) {part : Nat} (hpt : part < 3) {v : Int32} (hv : evP (nmS Z p) part (partL code n wt dp part) = some v) :
    ∃ g', f_X2_says q (nI part) (b + o) (nI p) (AZ b o S μ Z g) = some (v, AZ b o S μ Z g') := by
  obtain ⟨w, hw1, hw2⟩ : ∃ w, evL (nmS Z p) (partL code n wt dp part) [] = some [w] ∧ f_X5_bounded w (if part = 2 then -99 else 0) 99 = v := by
    unfold evP at hv
    split at hv
    · rename_i w hw
      exact ⟨w, hw, Option.some.inj hv⟩
    · cases hv
  have fin : ∀ g', stk g' 1 = [w] → f_X2_says_228 (nI part) (b + 10) (nI 1) (AZ b o S μ Z g') = some (v, AZ b o S μ Z g') := by
    intro g' hg
    have hg0 : g' 0 = w := by simp only [stk] at hg; exact (List.cons.inj hg).1
    rw [f_X2_says_228.eq_1, if_neg (by decide), aI_G h, if_neg (by decide), Option.bind_some, f_X2_says_241.eq_1]
    simp only [vl]
    rw [show (0 : Int32).toNatClampNeg = 0 by decide, hg0, ← hw2]
    have e2 : (nI part = (2 : Int32)) = (part = 2) := propext (nI_eq (by omega) (by decide))
    simp only [e2]
  rw [f_X2_says.eq_1, gS_A h, Option.bind_some]
  match part, hpt with
  | 0, _ =>
    obtain ⟨g', h1, h2⟩ := x_says_loop h hp hl hn (show wt ≤ n by omega) 0 f_X2_says_228 [w] wt 0 0 g fU (by omega) (fU_lt (by omega)) (by omega) hw1
    refine ⟨g', ?_⟩
    rw [if_pos (by decide), f_X2_says_30.eq_1, if_pos (by decide), (hl g).gwt, Option.bind_some]
    exact h1.trans (fin g' h2)
  | 1, _ =>
    obtain ⟨g', h1, h2⟩ := x_says_loop h hp hl hn (show dp ≤ n by omega) 1 f_X2_says_228 [w] (dp - wt) wt 0 g fU (by omega) (fU_lt (by omega)) (by omega) hw1
    refine ⟨g', ?_⟩
    rw [if_neg (by decide), if_pos (by decide), (hl g).gwt, Option.bind_some, f_X2_says_30.eq_1, if_neg (by decide), if_pos (by decide), (hl g).gdp, Option.bind_some]
    exact h1.trans (fin g' h2)
  | 2, _ =>
    obtain ⟨g', h1, h2⟩ := x_says_loop h hp hl hn (Nat.le_refl n) 2 f_X2_says_228 [w] (n - dp) dp 0 g fU (by omega) (fU_lt (by omega)) (by omega) hw1
    refine ⟨g', ?_⟩
    rw [if_neg (by decide), if_neg (by decide), (hl g).gdp, Option.bind_some, f_X2_says_30.eq_1, if_neg (by decide), if_neg (by decide), (hl g).ga, Option.bind_some, (hl g).l, Option.bind_some]
    exact h1.trans (fin g' h2)
end SAYS
