/-! THE MEMORY AS A FUNCTION, its operations: plain. -/
abbrev mE : Type := (Nat × vp_A) ⊕ (Nat × List Value)
abbrev mS : Type := Nat × (Nat → Option mE)
def mTx : List String := ["();+-*<=", "looks waits drops and or not face known hour lying admitted more "]
def mTb (k : Nat) : List Int32 := ((mTx.getD k "").toList.map fun c => Int32.ofNat c.toNat)
-- what a cell holds
def vInt (v : Value) : Option Int32 := match v with
  | .int x => some x
  | _ => none
def vRef (v : Value) : Option Nat := match v with
  | .ref x => some x
  | _ => none
theorem vInt_some {v : Value} {x : Int32} (h : vInt v = some x) : v = .int x := by
  cases v <;> simp [vInt] at h
  rw [h]
theorem vRef_some {v : Value} {x : Nat} (h : vRef v = some x) : v = .ref x := by
  cases v <;> simp [vRef] at h
  rw [h]
def xO (ci : Nat) (e : mE) : Option (List Value) := match e with
  | .inr o => if o.1 = ci then some o.2 else none
  | _ => none
def xI (e : mE) : Option (Nat × (Nat → Int32)) := match e with
  | .inl (0, n, .inl f) => some (n, f)
  | _ => none
def xR (t : Nat) (e : mE) : Option (Nat × (Nat → Option Nat)) := match e with
  | .inl (u, n, .inr (.inr (.inr (.inr f)))) => if u = t then some (n, f) else none
  | _ => none
theorem xO_some {ci : Nat} {e : mE} {fs : List Value} (h : xO ci e = some fs) : e = .inr (ci, fs) := by
  rcases e with q | ⟨c, f⟩
  · cases h
  · simp only [xO] at h
    split at h
    · rename_i hc
      cases h
      rw [← hc]
    · cases h
theorem xI_some {e : mE} {q : Nat × (Nat → Int32)} (h : xI e = some q) : e = .inl (0, q.1, .inl q.2) := by
  rcases e with ⟨_ | u, n, f | f⟩ | o <;> simp [xI] at h
  subst h
  rfl
theorem xR_some {t : Nat} {e : mE} {q : Nat × (Nat → Option Nat)} (h : xR t e = some q) : e = .inl (t, q.1, .inr (.inr (.inr (.inr q.2)))) := by
  rcases e with ⟨u, n, f | f | f | f | f⟩ | o <;> simp [xR] at h
  obtain ⟨h1, h2⟩ := h
  subst h1
  subst h2
  rfl
def isO (σ : mS) (a ci : Nat) : Bool := ((σ.2 a).bind (xO ci)).isSome
def gV (σ : mS) (a ci k : Nat) : Option Value := (σ.2 a).bind fun e => (xO ci e).bind fun fs => fs[k]?
def gI (σ : mS) (a ci k : Nat) : Option Int32 := (gV σ a ci k).bind vInt
def gR (σ : mS) (a ci k : Nat) : Option Nat := (gV σ a ci k).bind vRef
def pV (σ : mS) (a ci k : Nat) (v : Value) : Option mS := (σ.2 a).bind fun e => (xO ci e).bind fun fs => if k < fs.length then some (σ.1, va_up σ.2 a (some (.inr (ci, fs.set k v)))) else none
def pI (σ : mS) (a ci k : Nat) (x : Int32) : Option mS := pV σ a ci k (.int x)
def pR (σ : mS) (a ci k : Nat) (x : Nat) : Option mS := pV σ a ci k (.ref x)
def aL (σ : mS) (a : Nat) : Option Int32 := (σ.2 a).bind fun e => (xI e).bind fun q => some (Int32.ofNat q.1)
def aI (σ : mS) (a : Nat) (i : Int32) : Option Int32 := (σ.2 a).bind fun e => (xI e).bind fun q => if i < 0 ∨ q.1 ≤ i.toNatClampNeg then none else some (q.2 i.toNatClampNeg)
def sI (σ : mS) (a : Nat) (i x : Int32) : Option mS := (σ.2 a).bind fun e => (xI e).bind fun q => if i < 0 ∨ q.1 ≤ i.toNatClampNeg then none else some (σ.1, va_up σ.2 a (some (.inl (0, q.1, .inl (upd q.2 i.toNatClampNeg x)))))
def rL (σ : mS) (a t : Nat) : Option Int32 := (σ.2 a).bind fun e => (xR t e).bind fun q => some (Int32.ofNat q.1)
def aR (σ : mS) (a t : Nat) (i : Int32) : Option Nat := (σ.2 a).bind fun e => (xR t e).bind fun q => if i < 0 ∨ q.1 ≤ i.toNatClampNeg then none else q.2 i.toNatClampNeg
def sR (σ : mS) (a t : Nat) (i : Int32) (x : Nat) : Option mS := (σ.2 a).bind fun e => (xR t e).bind fun q => if i < 0 ∨ q.1 ≤ i.toNatClampNeg then none else some (σ.1, va_up σ.2 a (some (.inl (t, q.1, .inr (.inr (.inr (.inr (va_up q.2 i.toNatClampNeg (some x)))))))))
def nO (σ : mS) (ci : Nat) (fs : List Value) : mS := (σ.1 + 1, va_up σ.2 σ.1 (some (.inr (ci, fs))))
def nI_ (σ : mS) (n : Nat) : mS := (σ.1 + 1, va_up σ.2 σ.1 (some (.inl (0, n, .inl (fun _ => 0)))))
def nR_ (σ : mS) (t n : Nat) : mS := (σ.1 + 1, va_up σ.2 σ.1 (some (.inl (t, n, .inr (.inr (.inr (.inr (fun _ => none))))))))
/-- n numbers of one row come to a place of another one -/
def cP (σ : mS) (a : Nat) (i : Int32) (b : Nat) (j n : Int32) : Option mS := (σ.2 a).bind fun e => (xI e).bind fun q => (σ.2 b).bind fun e2 => (xI e2).bind fun q2 =>
  if i < 0 ∨ j < 0 ∨ n < 0 ∨ q.1 < i.toNatClampNeg + n.toNatClampNeg ∨ q2.1 < j.toNatClampNeg + n.toNatClampNeg then none else some (σ.1, va_up σ.2 b (some (.inl (0, q2.1, .inl (va_cpy q.2 q2.2 i.toNatClampNeg j.toNatClampNeg n.toNatClampNeg)))))
def vl {α β : Type} (a : α) (k : α → β) : β := k a
theorem ob_some {α β : Type} {x : Option α} {K : α → Option β} {z : β} (h : x.bind K = some z) : ∃ y, x = some y ∧ K y = some z := Option.bind_eq_some_iff.mp h
theorem oi_some {β : Type} {c : Prop} [Decidable c] {A : Option β} {z : β} (h : (if c then A else none) = some z) : c ∧ A = some z := by
  by_cases hc : c
  · rw [if_pos hc] at h
    exact ⟨hc, h⟩
  · rw [if_neg hc] at h
    cases h
theorem on_some {β : Type} {c : Prop} [Decidable c] {A : Option β} {z : β} (h : (if c then none else A) = some z) : ¬ c ∧ A = some z := by
  by_cases hc : c
  · rw [if_pos hc] at h
    cases h
  · rw [if_neg hc] at h
    exact ⟨hc, h⟩
theorem gV_some {σ : mS} {a ci k : Nat} {v : Value} (h : gV σ a ci k = some v) : ∃ fs, σ.2 a = some (.inr (ci, fs)) ∧ fs[k]? = some v := by
  obtain ⟨e, h1, h⟩ := ob_some h
  obtain ⟨fs, h2, h⟩ := ob_some h
  exact ⟨fs, h1.trans (congrArg some (xO_some h2)), h⟩
theorem pV_some {σ τ : mS} {a ci k : Nat} {v : Value} (h : pV σ a ci k v = some τ) : ∃ fs, σ.2 a = some (.inr (ci, fs)) ∧ k < fs.length ∧ τ = (σ.1, va_up σ.2 a (some (.inr (ci, fs.set k v)))) := by
  obtain ⟨e, h1, h⟩ := ob_some h
  obtain ⟨fs, h2, h⟩ := ob_some h
  obtain ⟨h3, h⟩ := oi_some h
  exact ⟨fs, h1.trans (congrArg some (xO_some h2)), h3, (Option.some.inj h).symm⟩
theorem aI_some {σ : mS} {a : Nat} {i x : Int32} (h : aI σ a i = some x) : ∃ n f, σ.2 a = some (.inl (0, n, .inl f)) ∧ vp_in i n ∧ f i.toNatClampNeg = x := by
  obtain ⟨e, h1, h⟩ := ob_some h
  obtain ⟨q, h2, h⟩ := ob_some h
  obtain ⟨h3, h⟩ := on_some h
  exact ⟨q.1, q.2, h1.trans (congrArg some (xI_some h2)), h3, Option.some.inj h⟩
theorem sI_some {σ τ : mS} {a : Nat} {i x : Int32} (h : sI σ a i x = some τ) : ∃ n f, σ.2 a = some (.inl (0, n, .inl f)) ∧ vp_in i n ∧ τ = (σ.1, va_up σ.2 a (some (.inl (0, n, .inl (upd f i.toNatClampNeg x))))) := by
  obtain ⟨e, h1, h⟩ := ob_some h
  obtain ⟨q, h2, h⟩ := ob_some h
  obtain ⟨h3, h⟩ := on_some h
  exact ⟨q.1, q.2, h1.trans (congrArg some (xI_some h2)), h3, (Option.some.inj h).symm⟩
theorem aL_some {σ : mS} {a : Nat} {x : Int32} (h : aL σ a = some x) : ∃ n f, σ.2 a = some (.inl (0, n, .inl f)) ∧ Int32.ofNat n = x := by
  obtain ⟨e, h1, h⟩ := ob_some h
  obtain ⟨q, h2, h⟩ := ob_some h
  exact ⟨q.1, q.2, h1.trans (congrArg some (xI_some h2)), Option.some.inj h⟩
theorem rL_some {σ : mS} {a t : Nat} {x : Int32} (h : rL σ a t = some x) : ∃ n f, σ.2 a = some (.inl (t, n, .inr (.inr (.inr (.inr f))))) ∧ Int32.ofNat n = x := by
  obtain ⟨e, h1, h⟩ := ob_some h
  obtain ⟨q, h2, h⟩ := ob_some h
  exact ⟨q.1, q.2, h1.trans (congrArg some (xR_some h2)), Option.some.inj h⟩
theorem aR_some {σ : mS} {a t : Nat} {i : Int32} {x : Nat} (h : aR σ a t i = some x) : ∃ n f, σ.2 a = some (.inl (t, n, .inr (.inr (.inr (.inr f))))) ∧ vp_in i n ∧ f i.toNatClampNeg = some x := by
  obtain ⟨e, h1, h⟩ := ob_some h
  obtain ⟨q, h2, h⟩ := ob_some h
  obtain ⟨h3, h⟩ := on_some h
  exact ⟨q.1, q.2, h1.trans (congrArg some (xR_some h2)), h3, h⟩
theorem sR_some {σ τ : mS} {a t : Nat} {i : Int32} {x : Nat} (h : sR σ a t i x = some τ) : ∃ n f, σ.2 a = some (.inl (t, n, .inr (.inr (.inr (.inr f))))) ∧ vp_in i n ∧ τ = (σ.1, va_up σ.2 a (some (.inl (t, n, .inr (.inr (.inr (.inr (va_up f i.toNatClampNeg (some x)))))))) ) := by
  obtain ⟨e, h1, h⟩ := ob_some h
  obtain ⟨q, h2, h⟩ := ob_some h
  obtain ⟨h3, h⟩ := on_some h
  exact ⟨q.1, q.2, h1.trans (congrArg some (xR_some h2)), h3, (Option.some.inj h).symm⟩
theorem isO_some {σ : mS} {a ci : Nat} (h : isO σ a ci = true) : ∃ fs, σ.2 a = some (.inr (ci, fs)) := by
  obtain ⟨fs, h1⟩ := Option.isSome_iff_exists.mp h
  obtain ⟨e, h2, h3⟩ := ob_some h1
  exact ⟨fs, h2.trans (congrArg some (xO_some h3))⟩
def fU : Nat := 4096
def df_X0 : List Value := [.null, .null, .null, .null, .null, .null, .null, .null, .null, .null, .null, .int 0, .int 0, .int 0, .null]
def df_X2 : List Value := [.int 0, .null, .int 0, .int 0]
def df_X3 : List Value := [.null, .int 0, .int 0]
def df_X4 : List Value := [.null, .null, .null, .int 0, .int 0, .int 0, .int 0, .int 0, .int 0]
