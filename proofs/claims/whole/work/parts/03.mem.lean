/-! MEMORY AS A FUNCTION: the cells that are ours, by their addresses; one world for every contract; rows over it. -/
abbrev mG : Type := va_G × (Nat → ClassId) × Nat × Heap × (Nat → Nat) × (Nat → Nat) × Option Nat
def mc_ (dA : Nat → ClassId) (e : mE) : va_E := match e with
  | .inl q => .inl (dA q.1, q.2)
  | .inr o => .inr o
def mF (G : mG) : Nat → Prop := fun q => G.2.2.1 ≤ q
def mP (G : mG) (σ : mS) (H : Heap) : Prop := H.size = σ.1 ∧ G.2.2.1 ≤ σ.1 ∧ (∀ q, q < G.2.2.1 → H[q]? = G.2.2.2.1[q]?) ∧ ∀ (a : Nat) (e : mE), σ.2 a = some e → G.2.2.1 ≤ a ∧ va_at G.1 vwCl (a, mc_ G.2.1 e) H
def mTy (G : mG) : List (ClassId × FieldType) := [(G.2.1 0, .int), (G.2.1 1, .object RX2), (G.2.1 2, .object RX3), (G.2.1 3, .object RX0)]
def mNest : List Cond := [(Cond.methodLinkNest "HandkerchiefsDropped" (17 : Nat) ({ cls := "HandkerchiefsDropped$Tape", name := "<init>", desc := "()V" } : MethodName) "HandkerchiefsDropped"),
  (Cond.fieldLinkNest "HandkerchiefsDropped" (72 : Nat) "HandkerchiefsDropped$Tape" "size" "I" "HandkerchiefsDropped"),
  (Cond.fieldLinkNest "HandkerchiefsDropped" (69 : Nat) "HandkerchiefsDropped$Law" "number" "I" "HandkerchiefsDropped"),
  (Cond.fieldLinkNest "HandkerchiefsDropped" (83 : Nat) "HandkerchiefsDropped$Assize" "weights" "[I" "HandkerchiefsDropped"),
  (Cond.fieldLinkNest "HandkerchiefsDropped" (87 : Nat) "HandkerchiefsDropped$Assize" "keen" "[I" "HandkerchiefsDropped"),
  (Cond.fieldLinkNest "HandkerchiefsDropped" (138 : Nat) "HandkerchiefsDropped$Assize" "kind" "[I" "HandkerchiefsDropped"),
  (Cond.fieldLinkNest "HandkerchiefsDropped" (141 : Nat) "HandkerchiefsDropped$Assize" "more" "[I" "HandkerchiefsDropped"),
  (Cond.fieldLinkNest "HandkerchiefsDropped" (129 : Nat) "HandkerchiefsDropped$Assize" "known" "[I" "HandkerchiefsDropped"),
  (Cond.fieldLinkNest "HandkerchiefsDropped" (132 : Nat) "HandkerchiefsDropped$Assize" "face" "[I" "HandkerchiefsDropped"),
  (Cond.fieldLinkNest "HandkerchiefsDropped" (135 : Nat) "HandkerchiefsDropped$Assize" "vain" "[I" "HandkerchiefsDropped"),
  (Cond.fieldLinkNest "HandkerchiefsDropped" (166 : Nat) "HandkerchiefsDropped$Assize" "owner" "[I" "HandkerchiefsDropped"),
  (Cond.fieldLinkNest "HandkerchiefsDropped" (169 : Nat) "HandkerchiefsDropped$Assize" "fact" "[I" "HandkerchiefsDropped"),
  (Cond.fieldLinkNest "HandkerchiefsDropped" (172 : Nat) "HandkerchiefsDropped$Assize" "left" "[I" "HandkerchiefsDropped"),
  (Cond.fieldLinkNest "HandkerchiefsDropped$Law" (25 : Nat) "HandkerchiefsDropped$Assize" "stack" "[I" "HandkerchiefsDropped"),
  (Cond.fieldLinkNest "HandkerchiefsDropped" (94 : Nat) "HandkerchiefsDropped$Assize" "admitted" "I" "HandkerchiefsDropped"),
  (Cond.fieldLinkNest "HandkerchiefsDropped" (58 : Nat) "HandkerchiefsDropped$Assize" "hour" "I" "HandkerchiefsDropped"),
  (Cond.fieldLinkNest "HandkerchiefsDropped" (55 : Nat) "HandkerchiefsDropped$Assize" "witnesses" "I" "HandkerchiefsDropped"),
  (Cond.fieldLinkNest "HandkerchiefsDropped" (65 : Nat) "HandkerchiefsDropped$Assize" "law" "LHandkerchiefsDropped$Law;" "HandkerchiefsDropped"),
  (Cond.methodLinkNest "HandkerchiefsDropped" (54 : Nat) ({ cls := "HandkerchiefsDropped$Sheet", name := "<init>", desc := "()V" } : MethodName) "HandkerchiefsDropped"),
  (Cond.fieldLinkNest "HandkerchiefsDropped" (255 : Nat) "HandkerchiefsDropped$Sheet" "cells" "[I" "HandkerchiefsDropped"),
  (Cond.fieldLinkNest "HandkerchiefsDropped" (272 : Nat) "HandkerchiefsDropped$Sheet" "sort" "I" "HandkerchiefsDropped"),
  (Cond.fieldLinkNest "HandkerchiefsDropped" (254 : Nat) "HandkerchiefsDropped$Sheet" "size" "I" "HandkerchiefsDropped"),
  (Cond.methodLinkNest "HandkerchiefsDropped$Assize" (71 : Nat) ({ cls := "HandkerchiefsDropped", name := "isBelow", desc := "(II)Z" } : MethodName) "HandkerchiefsDropped"),
  (Cond.methodLinkNest "HandkerchiefsDropped$Law" (42 : Nat) ({ cls := "HandkerchiefsDropped", name := "bounded", desc := "(III)I" } : MethodName) "HandkerchiefsDropped"),
  (Cond.methodLinkNest "HandkerchiefsDropped$Assize" (91 : Nat) ({ cls := "HandkerchiefsDropped", name := "bounded", desc := "(III)I" } : MethodName) "HandkerchiefsDropped")]
def mAO : List String := [RX2, RX3, RX0]
/-- what holds of the machine's tables, and of the heap's cells that are not ours -/
def mK (G : mG) (U : State) : Prop := va_K G.1 vwCl (mTy G) U ∧ (∀ w ∈ mNest, va_Nw w U) ∧ (∀ C ∈ mAO, va_AO C U) ∧ va_Nw (.castable "[I" "java/lang/Cloneable") U ∧
  vk_R RX4 98 (mTx.getD 0 "") (G.2.2.2.2.1 0) U ∧ vk_R RX4 110 (mTx.getD 1 "") (G.2.2.2.2.1 1) U ∧ vk_S 2 [8, 65] [mTb 0, mTb 1] G.2.2.2.2.1 G.2.2.2.2.2.1 (mF G) U G.2.2.2.1 ∧
  va_Z "java/lang/String" "COMPACT_STRINGS" "Z" (.int 1) (mF G) U G.2.2.2.1 ∧ va_Z "jdk/internal/util/Preconditions" "SIOOBE_FORMATTER" "Ljava/util/function/BiFunction;" (va_rf G.2.2.2.2.2.2) (mF G) U G.2.2.2.1
def mB (G : mG) (σ : mS) (U : State) : Prop := mP G σ U.heap ∧ mK G U
def mQ (G : mG) (o : Outcome) (σ : mS) : Array Value → State → Outcome → State → Prop := fun _ _ oc t => oc = o ∧ mP G σ t.heap
def mL (G : mG) (locs : List Loc) : Prop := ∀ q ∈ locs, mF G q.base
theorem mL_nil (G : mG) : mL G [] := fun q h => by cases h
theorem mL_add {G : mG} {locs : List Loc} {a i : Nat} (h : mL G locs) (ha : G.2.2.1 ≤ a) : mL G (locs ++ [⟨a, i⟩]) := by
  intro q hq
  rcases List.mem_append.mp hq with h1 | h1
  · exact h q h1
  · rw [List.mem_singleton] at h1
    subst h1
    exact ha
-- the world goes on
theorem va_at.lt2 {D : va_G} {cl : List vw_C} {q : Nat × va_E} {H : Heap} (h : va_at D cl q H) : q.1 < H.size := va_at.lt h
theorem mP_set {G : mG} {σ : mS} {H H1 : Heap} {a : Nat} {e e0 : mE} (hM : mP G σ H) (h0 : σ.2 a = some e0) (he : va_at G.1 vwCl (a, mc_ G.2.1 e) H1) (hz : H1.size = H.size) (ho : ∀ q, q ≠ a → H1[q]? = H[q]?) : mP G (σ.1, va_up σ.2 a (some e)) H1 := by
  obtain ⟨h1, h2, h3, h4⟩ := hM
  refine ⟨hz.trans h1, h2, fun q hq => ?_, fun b eb hb => ?_⟩
  · rw [ho q (fun z => absurd (h4 a _ h0).1 (by rw [← z]; exact Nat.not_le.mpr hq))]
    exact h3 q hq
  · by_cases hba : b = a
    · subst hba
      simp only [va_up, if_pos] at hb
      cases hb
      exact ⟨(h4 b _ h0).1, he⟩
    · simp only [va_up, if_neg hba] at hb
      exact ⟨(h4 b _ hb).1, (h4 b _ hb).2.kept (ho b hba)⟩
theorem mP_new {G : mG} {σ : mS} {H H1 : Heap} {e : mE} (hM : mP G σ H) (he : va_at G.1 vwCl (σ.1, mc_ G.2.1 e) H1) (hz : H1.size = σ.1 + 1) (ho : ∀ q, q < σ.1 → H1[q]? = H[q]?) : mP G (σ.1 + 1, va_up σ.2 σ.1 (some e)) H1 := by
  obtain ⟨h1, h2, h3, h4⟩ := hM
  refine ⟨hz, by show _ ≤ σ.1 + 1; omega, fun q hq => ?_, fun b eb hb => ?_⟩
  · rw [ho q (by omega)]
    exact h3 q hq
  · by_cases hba : b = σ.1
    · subst hba
      simp only [va_up, if_pos] at hb
      cases hb
      exact ⟨h2, he⟩
    · simp only [va_up, if_neg hba] at hb
      have hlt : b < σ.1 := by
        have := (h4 b _ hb).2.lt
        rw [h1] at this
        exact this
      exact ⟨(h4 b _ hb).1, (h4 b _ hb).2.kept (ho b hlt)⟩
theorem mNest_k : ∀ w ∈ mNest, (∃ a i b n d h, w = .fieldLinkNest a i b n d h) ∨ (∃ a i x h, w = .methodLinkNest a i x h) := by
  intro w hw
  simp only [mNest, List.mem_cons, List.not_mem_nil, or_false] at hw
  rcases hw with rfl | rfl | rfl | rfl | rfl | rfl | rfl | rfl | rfl | rfl | rfl | rfl | rfl | rfl | rfl | rfl | rfl | rfl | rfl | rfl | rfl | rfl | rfl | rfl | rfl <;> first | exact Or.inl ⟨_, _, _, _, _, _, rfl⟩ | exact Or.inr ⟨_, _, _, _, rfl⟩
theorem mK_same {G : mG} {u U : State} (hv : u.vm = U.vm) (h : mK G u) : mK G U := by
  have ha : u.vm.Alike U.vm := by rw [hv]; exact Vm.Alike.refl U.vm
  obtain ⟨h3, h4, h5, h6, h7, h8, h9, h10, h11⟩ := h
  exact ⟨h3.moved ha, fun w hw => by
    rcases mNest_k w hw with ⟨_, _, _, _, _, _, rfl⟩ | ⟨_, _, _, _, rfl⟩
    · exact va_Nw.same rfl hv (h4 _ hw)
    · exact va_Nw.same rfl hv (h4 _ hw), fun C hC => (h5 C hC).moved ha, va_Nw.same rfl hv h6, vk_R.same hv.symm h7, vk_R.same hv.symm h8, h9.moved ha, h10.moved ha, h11.moved ha⟩
theorem mK_warm {G : mG} {s U : State} (hW : s.WarmedH U.vm) (h : mK G s) : mK G U := by
  have ha : s.vm.Alike U.vm := hW.alike
  obtain ⟨h3, h4, h5, h6, h7, h8, h9, h10, h11⟩ := h
  exact ⟨h3.moved ha, fun w hw => by
    rcases mNest_k w hw with ⟨_, _, _, _, _, _, rfl⟩ | ⟨_, _, _, _, rfl⟩
    · exact va_Nw.warmF hW (h4 _ hw)
    · exact va_Nw.warmM hW (h4 _ hw), fun C hC => (h5 C hC).moved ha, va_Nw.warmC hW h6, vk_R.warm hW h7, vk_R.warm hW h8, h9.moved ha, h10.moved ha, h11.moved ha⟩
theorem mB_blind {G : mG} {σ : mS} {av : List Value} : FrameBlind (va_Pc av (mB G σ)) := fun a U g mk h => ⟨h.1, h.2.1, mK_same (u := U) (U := U.calling g mk a) rfl h.2.2⟩
theorem mB_of {G : mG} {σ : mS} {s : State} {H : Heap} (hK : mK G s) (hM : mP G σ H) : ∀ U : State, U.heap = H → s.WarmedH U.vm → mB G σ U := fun U hU hW => ⟨by rw [hU]; exact hM, mK_warm hW hK⟩
theorem va_one {D : va_G} {cl : List vw_C} {q : Nat × va_E} {H : Heap} (h : va_at D cl q H) : va_P D cl [q] H := by
  intro k x hx
  have hz : k < 1 := (List.getElem?_eq_some_iff.mp hx).1
  rw [show k = 0 by omega] at hx
  cases hx
  exact h
section MR
variable {p : Program} {l : Launch} {e : Env} {R : Room} {s : State} {m : MethodId} {args : Array Value} {below : List Frame} {meth : Method} {c : Code} {H : Heap} {locs : List Loc} {cells slots : Nat} {Q : State → Prop}
variable {cc : ByteArray} {pc : Nat} {ls : Array Slot} {rest st0 : List Value} {G : mG} {σ : mS} {a : Nat} {β : Type} {z : β}
theorem vl_at {α γ : Type} {a x : α} {K : α → γ} {z : γ} (e : x = a) (h : vl a K = z) : K x = z := by
  subst e
  exact h
theorem m_getI (hexec : p.tables.exec = Jvm.exec) (hb : c.code = cc) {own C : String} {T : u_T} {N ci index : Nat} (hU : ∀ w ∈ u_ws C T N, w.before args s = true) (hown : s.vm.findClass own = some m.cls) (hK : mK G s) (hM : mP G σ H) (hc : vwCl[ci]? = some (C, T, N)) (k : Nat) (hk : k < N) (hlink : (Cond.fieldLink own index (T k).1 (T k).2.1 (T k).2.2.1).before args s = true)
    {K : Int32 → Option β} (h : (gI σ a ci k).bind K = some z) (hdg : decode cc pc = .ok (.getfield index, 3))
    (kk : ∀ x : Int32, gI σ a ci k = some x → K x = some z → W p l e R s m args below meth c H locs cells slots Q (F0 m (pc + 3) ls (.int x :: rest))) : W p l e R s m args below meth c H locs cells slots Q (F0 m pc ls (.ref a :: rest)) := by
  obtain ⟨x, hx, h⟩ := ob_some h
  obtain ⟨v, hv, h2⟩ := ob_some hx
  obtain ⟨fs, h3, h4⟩ := gV_some hv
  rw [vInt_some h2] at h4
  exact va_get hexec hb hU (fun _ q => q) hown hK.1 (va_one (hM.2.2.2 a _ h3).2) 0 rfl hc k hk hlink (fun _ q => q) h4 hdg (kk x hx h)
theorem m_getR (hexec : p.tables.exec = Jvm.exec) (hb : c.code = cc) {own C : String} {T : u_T} {N ci index : Nat} (hU : ∀ w ∈ u_ws C T N, w.before args s = true) (hown : s.vm.findClass own = some m.cls) (hK : mK G s) (hM : mP G σ H) (hc : vwCl[ci]? = some (C, T, N)) (k : Nat) (hk : k < N) (hlink : (Cond.fieldLink own index (T k).1 (T k).2.1 (T k).2.2.1).before args s = true)
    {K : Nat → Option β} (h : (gR σ a ci k).bind K = some z) (hdg : decode cc pc = .ok (.getfield index, 3))
    (kk : ∀ x : Nat, gR σ a ci k = some x → K x = some z → W p l e R s m args below meth c H locs cells slots Q (F0 m (pc + 3) ls (.ref x :: rest))) : W p l e R s m args below meth c H locs cells slots Q (F0 m pc ls (.ref a :: rest)) := by
  obtain ⟨x, hx, h⟩ := ob_some h
  obtain ⟨v, hv, h2⟩ := ob_some hx
  obtain ⟨fs, h3, h4⟩ := gV_some hv
  rw [vRef_some h2] at h4
  exact va_get hexec hb hU (fun _ q => q) hown hK.1 (va_one (hM.2.2.2 a _ h3).2) 0 rfl hc k hk hlink (fun _ q => q) h4 hdg (kk x hx h)
theorem m_getIN (hexec : p.tables.exec = Jvm.exec) (hb : c.code = cc) {own C host : String} {T : u_T} {N ci index : Nat} (hU : ∀ w ∈ u_ws C T N, w.before args s = true) (hown : s.vm.findClass own = some m.cls) (hK : mK G s) (hM : mP G σ H) (hc : vwCl[ci]? = some (C, T, N)) (k : Nat) (hk : k < N) (hlink : Cond.fieldLinkNest own index (T k).1 (T k).2.1 (T k).2.2.1 host ∈ mNest)
    {K : Int32 → Option β} (h : (gI σ a ci k).bind K = some z) (hdg : decode cc pc = .ok (.getfield index, 3))
    (kk : ∀ x : Int32, gI σ a ci k = some x → K x = some z → W p l e R s m args below meth c H locs cells slots Q (F0 m (pc + 3) ls (.int x :: rest))) : W p l e R s m args below meth c H locs cells slots Q (F0 m pc ls (.ref a :: rest)) := by
  obtain ⟨x, hx, h⟩ := ob_some h
  obtain ⟨v, hv, h2⟩ := ob_some hx
  obtain ⟨fs, h3, h4⟩ := gV_some hv
  rw [vInt_some h2] at h4
  exact va_getN hexec hb hU (fun _ q => q) hown hK.1 (va_one (hM.2.2.2 a _ h3).2) 0 rfl hc k hk (va_Nw.use rfl (hK.2.1 _ hlink)) (fun _ q => q) h4 hdg (kk x hx h)
theorem m_getRN (hexec : p.tables.exec = Jvm.exec) (hb : c.code = cc) {own C host : String} {T : u_T} {N ci index : Nat} (hU : ∀ w ∈ u_ws C T N, w.before args s = true) (hown : s.vm.findClass own = some m.cls) (hK : mK G s) (hM : mP G σ H) (hc : vwCl[ci]? = some (C, T, N)) (k : Nat) (hk : k < N) (hlink : Cond.fieldLinkNest own index (T k).1 (T k).2.1 (T k).2.2.1 host ∈ mNest)
    {K : Nat → Option β} (h : (gR σ a ci k).bind K = some z) (hdg : decode cc pc = .ok (.getfield index, 3))
    (kk : ∀ x : Nat, gR σ a ci k = some x → K x = some z → W p l e R s m args below meth c H locs cells slots Q (F0 m (pc + 3) ls (.ref x :: rest))) : W p l e R s m args below meth c H locs cells slots Q (F0 m pc ls (.ref a :: rest)) := by
  obtain ⟨x, hx, h⟩ := ob_some h
  obtain ⟨v, hv, h2⟩ := ob_some hx
  obtain ⟨fs, h3, h4⟩ := gV_some hv
  rw [vRef_some h2] at h4
  exact va_getN hexec hb hU (fun _ q => q) hown hK.1 (va_one (hM.2.2.2 a _ h3).2) 0 rfl hc k hk (va_Nw.use rfl (hK.2.1 _ hlink)) (fun _ q => q) h4 hdg (kk x hx h)
theorem m_put (hexec : p.tables.exec = Jvm.exec) (hb : c.code = cc) {own C : String} {T : u_T} {N ci index : Nat} (hU : ∀ w ∈ u_ws C T N, w.before args s = true) (ty0 : Nat → FieldType) (hty : ∀ k, k < N → parseFieldDescriptor (T k).2.2.1 = some (ty0 k)) (hnm : ∀ a, a < N → ∀ b, b < N → a ≠ b → (T a).2.1 ≠ (T b).2.1) (hown : s.vm.findClass own = some m.cls) (hK : mK G s) (hM : mP G σ H) (hL : mL G locs) (hc : vwCl[ci]? = some (C, T, N)) (k : Nat) (hk : k < N) (hlink : (Cond.fieldLink own index (T k).1 (T k).2.1 (T k).2.2.1).before args s = true) (hfin : (T k).2.2.2 = false) {v : Value} (hn : narrow (ty0 k) v = v) (hfit : fits (ty0 k) v = true)
    {K : mS → Option β} (h : (pV σ a ci k v).bind K = some z) (hdg : decode cc pc = .ok (.putfield index, 3))
    (kk : ∀ (τ : mS) (H1 : Heap) (locs1 : List Loc), K τ = some z → mP G τ H1 → mL G locs1 → W p l e R s m args below meth c H1 locs1 cells slots Q (F0 m (pc + 3) ls rest)) : W p l e R s m args below meth c H locs cells slots Q (F0 m pc ls (v :: .ref a :: rest)) := by
  obtain ⟨τ, hτ, h⟩ := ob_some h
  obtain ⟨fs, h1, h2, rfl⟩ := pV_some hτ
  have hap := va_apart (own := own) hU (fun _ q => q) ty0 hty hnm hK.1 hc
  obtain ⟨hba, r, hr1, cell, q1, q2, q3, q4⟩ := hM.2.2.2 a _ h1
  have hr : r = (C, T, N) := Option.some.inj (hr1.symm.trans hc)
  subst hr
  obtain ⟨hS, hfc, kC, hkC, hkind⟩ := hK.1.1 ci _ hc
  obtain ⟨cf, kf, fi, f, hi, hsl⟩ := hS k hk
  have hlay := hU _ (u_in_lay hk)
  unfold u_lay at hlay
  rw [if_neg (by rw [hfin]; decide)] at hlay
  have hst := (u_facts hfc hkC (u_lays hU (fun _ q => q) hk) hi).1
  have h6 := u_store hfc hkC hkind hlay hi (hty k hk) hn hfit
  refine W.putK hexec hb (f := f) ⟨hown, hlink, ⟨_, _, _, hi⟩, hst⟩ (by rw [q2]; exact h6) q1 q3 (by rw [hsl]; exact k2_hasslot (q4 k hk)) rfl rfl hdg fun H' e1 e2 e3 => ?_
  rw [hsl] at e1
  exact kk _ H' _ h (mP_set hM h1 ⟨_, hc, t_OB.to (V := updV (vp_V fs) k v) ⟨_, e1, q2, q3, t_set q4 hap hk v⟩ (fun j _ => vp_updV_set h2 v j)⟩ e2 e3) (mL_add hL hba)
theorem m_putF (hexec : p.tables.exec = Jvm.exec) (hb : c.code = cc) {own C : String} {T : u_T} {N ci index : Nat} (hU : ∀ w ∈ u_ws C T N, w.before args s = true) (ty0 : Nat → FieldType) (hty : ∀ k, k < N → parseFieldDescriptor (T k).2.2.1 = some (ty0 k)) (hnm : ∀ a, a < N → ∀ b, b < N → a ≠ b → (T a).2.1 ≠ (T b).2.1) (hown : s.vm.findClass own = some m.cls) (hK : mK G s) (hM : mP G σ H) (hL : mL G locs) (hc : vwCl[ci]? = some (C, T, N)) (k : Nat) (hk : k < N) (hlink : (Cond.fieldLink own index (T k).1 (T k).2.1 (T k).2.2.1).before args s = true) (hfin : (T k).2.2.2 = true) (hin2 : meth.name = "<init>") (hdecl : (T k).1 = own) {v : Value} (hn : narrow (ty0 k) v = v) (hfit : fits (ty0 k) v = true)
    {K : mS → Option β} (h : (pV σ a ci k v).bind K = some z) (hdg : decode cc pc = .ok (.putfield index, 3))
    (kk : ∀ (τ : mS) (H1 : Heap) (locs1 : List Loc), K τ = some z → mP G τ H1 → mL G locs1 → W p l e R s m args below meth c H1 locs1 cells slots Q (F0 m (pc + 3) ls rest)) : W p l e R s m args below meth c H locs cells slots Q (F0 m pc ls (v :: .ref a :: rest)) := by
  obtain ⟨τ, hτ, h⟩ := ob_some h
  obtain ⟨fs, h1, h2, rfl⟩ := pV_some hτ
  have hap := va_apart (own := own) hU (fun _ q => q) ty0 hty hnm hK.1 hc
  obtain ⟨hba, r, hr1, cell, q1, q2, q3, q4⟩ := hM.2.2.2 a _ h1
  have hr : r = (C, T, N) := Option.some.inj (hr1.symm.trans hc)
  subst hr
  obtain ⟨hS, hfc, kC, hkC, hkind⟩ := hK.1.1 ci _ hc
  obtain ⟨cf, kf, fi, f, hi, hsl⟩ := hS k hk
  have hlay := hU _ (u_in_lay hk)
  unfold u_lay at hlay
  rw [if_pos hfin] at hlay
  have hst := (u_facts hfc hkC (u_lays hU (fun _ q => q) hk) hi).1
  have hcf : m.cls = cf := by
    obtain ⟨_, _, c', _, _, _, -, -, hf', -, -, -, hown2, -⟩ := Cond.laysFinal_spec hlay
    have e1 : c' = cf := by have := hi.symm.trans hf'; simp at this; exact this.1.symm
    rw [hdecl] at hown2
    rw [← e1]; exact Option.some.inj (hown.symm.trans hown2)
  have h6 := u_fits hfc hkC hkind (Or.inr hlay) hi (hty k hk) hn hfit
  refine W.putFinK hexec hb hown hlink hi hst hcf hin2 (by rw [q2]; exact h6) q1 q3 (by rw [hsl]; exact k2_hasslot (q4 k hk)) rfl rfl hdg fun H' e1 e2 e3 => ?_
  rw [hsl] at e1
  exact kk _ H' _ h (mP_set hM h1 ⟨_, hc, t_OB.to (V := updV (vp_V fs) k v) ⟨_, e1, q2, q3, t_set q4 hap hk v⟩ (fun j _ => vp_updV_set h2 v j)⟩ e2 e3) (mL_add hL hba)
theorem m_putN (hexec : p.tables.exec = Jvm.exec) (hb : c.code = cc) {own C host : String} {T : u_T} {N ci index : Nat} (hU : ∀ w ∈ u_ws C T N, w.before args s = true) (ty0 : Nat → FieldType) (hty : ∀ k, k < N → parseFieldDescriptor (T k).2.2.1 = some (ty0 k)) (hnm : ∀ a, a < N → ∀ b, b < N → a ≠ b → (T a).2.1 ≠ (T b).2.1) (hown : s.vm.findClass own = some m.cls) (hK : mK G s) (hM : mP G σ H) (hL : mL G locs) (hc : vwCl[ci]? = some (C, T, N)) (k : Nat) (hk : k < N) (hlink : Cond.fieldLinkNest own index (T k).1 (T k).2.1 (T k).2.2.1 host ∈ mNest) (hfin : (T k).2.2.2 = false) {v : Value} (hn : narrow (ty0 k) v = v) (hfit : fits (ty0 k) v = true)
    {K : mS → Option β} (h : (pV σ a ci k v).bind K = some z) (hdg : decode cc pc = .ok (.putfield index, 3))
    (kk : ∀ (τ : mS) (H1 : Heap) (locs1 : List Loc), K τ = some z → mP G τ H1 → mL G locs1 → W p l e R s m args below meth c H1 locs1 cells slots Q (F0 m (pc + 3) ls rest)) : W p l e R s m args below meth c H locs cells slots Q (F0 m pc ls (v :: .ref a :: rest)) := by
  obtain ⟨τ, hτ, h⟩ := ob_some h
  obtain ⟨fs, h1, h2, rfl⟩ := pV_some hτ
  have hap := va_apart (own := own) hU (fun _ q => q) ty0 hty hnm hK.1 hc
  obtain ⟨hba, r, hr1, cell, q1, q2, q3, q4⟩ := hM.2.2.2 a _ h1
  have hr : r = (C, T, N) := Option.some.inj (hr1.symm.trans hc)
  subst hr
  obtain ⟨hS, hfc, kC, hkC, hkind⟩ := hK.1.1 ci _ hc
  obtain ⟨cf, kf, fi, f, hi, hsl⟩ := hS k hk
  have hlay := hU _ (u_in_lay hk)
  unfold u_lay at hlay
  rw [if_neg (by rw [hfin]; decide)] at hlay
  have hst := (u_facts hfc hkC (u_lays hU (fun _ q => q) hk) hi).1
  have h6 := u_store hfc hkC hkind hlay hi (hty k hk) hn hfit
  refine va_WputK hexec hb (f := f) hown (va_Nw.use rfl (hK.2.1 _ hlink)) hi hst (by rw [q2]; exact h6) q1 q3 (by rw [hsl]; exact k2_hasslot (q4 k hk)) rfl rfl hdg fun H' e1 e2 e3 => ?_
  rw [hsl] at e1
  exact kk _ H' _ h (mP_set hM h1 ⟨_, hc, t_OB.to (V := updV (vp_V fs) k v) ⟨_, e1, q2, q3, t_set q4 hap hk v⟩ (fun j _ => vp_updV_set h2 v j)⟩ e2 e3) (mL_add hL hba)
theorem m_iald (hexec : p.tables.exec = Jvm.exec) (hb : c.code = cc) (hK : mK G s) (hM : mP G σ H) {i : Int32} {K : Int32 → Option β} (h : (aI σ a i).bind K = some z) (hdg : decode cc pc = .ok (.iaload, 1))
    (kk : ∀ x : Int32, aI σ a i = some x → K x = some z → W p l e R s m args below meth c H locs cells slots Q (F0 m (pc + 1) ls (.int x :: rest))) : W p l e R s m args below meth c H locs cells slots Q (F0 m pc ls (.int i :: .ref a :: rest)) := by
  obtain ⟨x, hx, h⟩ := ob_some h
  obtain ⟨n, f, h1, h2, h3⟩ := aI_some hx
  refine va_iald hexec hb hK.1 (va_one (hM.2.2.2 a _ h1).2) 0 0 rfl rfl h2 hdg ?_
  rw [h3]
  exact kk x hx h
theorem m_iast (hexec : p.tables.exec = Jvm.exec) (hb : c.code = cc) (hK : mK G s) (hM : mP G σ H) (hL : mL G locs) {i x : Int32} {K : mS → Option β} (h : (sI σ a i x).bind K = some z) (hdg : decode cc pc = .ok (.iastore, 1))
    (kk : ∀ (τ : mS) (H1 : Heap) (locs1 : List Loc), K τ = some z → mP G τ H1 → mL G locs1 → W p l e R s m args below meth c H1 locs1 cells slots Q (F0 m (pc + 1) ls rest)) : W p l e R s m args below meth c H locs cells slots Q (F0 m pc ls (.int x :: .int i :: .ref a :: rest)) := by
  obtain ⟨τ, hτ, h⟩ := ob_some h
  obtain ⟨n, f, h1, h2, rfl⟩ := sI_some hτ
  have hat := hM.2.2.2 a _ h1
  refine W.iast hexec hb (cell := vp_cell (G.2.1 0) (n, .inl f)) hat.2 ((hK.1.2 0 _ rfl).1 n (fun j => .int (f j))) (fun q => by cases q) (by show ¬ (i < 0 ∨ (arrV _ _ _).slots.size ≤ _); rw [arrV_size]; exact h2) rfl rfl hdg fun H1 e1 e2 e3 => ?_
  refine kk _ H1 _ h (mP_set hM h1 ?_ e2 e3) (mL_add hL hat.1)
  show H1[a]? = some (vp_cell _ _)
  rw [e1]
  rw [vp_cell_i, vp_cell_i, arrV_store]
  congr 2
  funext q
  by_cases hq : q = i.toNatClampNeg
  · subst hq
    simp [updV, upd]
  · simp [updV, upd, hq]
theorem m_aald (hexec : p.tables.exec = Jvm.exec) (hb : c.code = cc) (hK : mK G s) (hM : mP G σ H) (t : Nat) {C : String} (ht : (mTy G)[t]? = some (G.2.1 t, .object C)) {i : Int32} {K : Nat → Option β} (h : (aR σ a t i).bind K = some z) (hdg : decode cc pc = .ok (.aaload, 1))
    (kk : ∀ x : Nat, aR σ a t i = some x → K x = some z → W p l e R s m args below meth c H locs cells slots Q (F0 m (pc + 1) ls (.ref x :: rest))) : W p l e R s m args below meth c H locs cells slots Q (F0 m pc ls (.int i :: .ref a :: rest)) := by
  obtain ⟨x, hx, h⟩ := ob_some h
  obtain ⟨n, f, h1, h2, h3⟩ := aR_some hx
  refine va_aldq hexec hb hK.1 (va_one (hM.2.2.2 a _ h1).2) 0 t rfl ht h2 hdg ?_
  rw [h3]
  exact kk x hx h
theorem m_aast (hexec : p.tables.exec = Jvm.exec) (hb : c.code = cc) (hK : mK G s) (hM : mP G σ H) (hL : mL G locs) (t ci : Nat) {C : String} {T : u_T} {N : Nat} (ht : (mTy G)[t]? = some (G.2.1 t, .object C)) (hc : vwCl[ci]? = some (C, T, N)) {i : Int32} {x : Nat} {K : mS → Option β} (h : (if isO σ x ci = true then (sR σ a t i x).bind K else none) = some z) (hdg : decode cc pc = .ok (.aastore, 1))
    (kk : ∀ (τ : mS) (H1 : Heap) (locs1 : List Loc), K τ = some z → mP G τ H1 → mL G locs1 → W p l e R s m args below meth c H1 locs1 cells slots Q (F0 m (pc + 1) ls rest)) : W p l e R s m args below meth c H locs cells slots Q (F0 m pc ls (.ref x :: .int i :: .ref a :: rest)) := by
  obtain ⟨ho, h⟩ := oi_some h
  obtain ⟨vs, ho⟩ := isO_some ho
  obtain ⟨τ, hτ, h⟩ := ob_some h
  obtain ⟨n, f, h1, h2, rfl⟩ := sR_some hτ
  have hat := hM.2.2.2 a _ h1
  have hlt : i.toNatClampNeg < n := Nat.not_le.mp fun q => h2 (Or.inr q)
  have h0 : ¬ i < 0 := fun q => h2 (Or.inl q)
  obtain ⟨-, r', hr', cellV, g1, g2, g3, -⟩ := hM.2.2.2 x _ ho
  have hcls := (hK.1.1 ci _ hc).2
  obtain ⟨kA, comp, k1, k2, k3, -⟩ := (hK.1.2 t _ ht).2
  have hcomp : comp = G.1.1 ci := Option.some.inj (k3.symm.trans hcls.1)
  subst hcomp
  obtain ⟨kC, hkC, -⟩ := hcls.2
  refine W.aast hexec hb (cell := vp_cell (G.2.1 t) (n, .inr (.inr (.inr (.inr f))))) hat.2 (fun q h => by cases h) (fun h => by cases h) k1 k2 rfl hkC ⟨h0, by show _ < (arrV _ _ _).slots.size; rw [arrV_size]; exact hlt⟩ g1 (fun q h => by rw [g3] at h; cases h) (by rw [g2]; exact hkC) (by rw [g2]; exact va_assign hcls) rfl rfl hdg fun H1 e1 e2 e3 => ?_
  refine kk _ H1 _ h (mP_set hM h1 ?_ e2 e3) (mL_add hL hat.1)
  show H1[a]? = some (vp_cell _ _)
  rw [e1]
  rw [vp_cell_q, vp_cell_q, arrV_store]
  congr 2
  funext q
  by_cases hq : q = i.toNatClampNeg
  · subst hq
    simp [updV, va_up, va_rf]
  · simp [updV, va_up, hq]
theorem m_alen (hexec : p.tables.exec = Jvm.exec) (hb : c.code = cc) (hK : mK G s) (hM : mP G σ H) {K : Int32 → Option β} (h : (aL σ a).bind K = some z) (hdg : decode cc pc = .ok (.arraylength, 1))
    (kk : ∀ x : Int32, aL σ a = some x → K x = some z → W p l e R s m args below meth c H locs cells slots Q (F0 m (pc + 1) ls (.int x :: rest))) : W p l e R s m args below meth c H locs cells slots Q (F0 m pc ls (.ref a :: rest)) := by
  obtain ⟨x, hx, h⟩ := ob_some h
  obtain ⟨n, f, h1, h2⟩ := aL_some hx
  exact va_alen hexec hb hK.1 (va_one (hM.2.2.2 a _ h1).2) 0 0 rfl rfl h2 hdg (kk x hx h)
theorem m_rlen (hexec : p.tables.exec = Jvm.exec) (hb : c.code = cc) (hK : mK G s) (hM : mP G σ H) (t : Nat) {C : String} (ht : (mTy G)[t]? = some (G.2.1 t, .object C)) {K : Int32 → Option β} (h : (rL σ a t).bind K = some z) (hdg : decode cc pc = .ok (.arraylength, 1))
    (kk : ∀ x : Int32, rL σ a t = some x → K x = some z → W p l e R s m args below meth c H locs cells slots Q (F0 m (pc + 1) ls (.int x :: rest))) : W p l e R s m args below meth c H locs cells slots Q (F0 m pc ls (.ref a :: rest)) := by
  obtain ⟨x, hx, h⟩ := ob_some h
  obtain ⟨n, f, h1, h2⟩ := rL_some hx
  exact va_alen hexec hb hK.1 (va_one (hM.2.2.2 a _ h1).2) 0 t rfl ht h2 hdg (kk x hx h)
theorem m_new (hexec : p.tables.exec = Jvm.exec) (hb : c.code = cc) {own C : String} {T : u_T} {N ci index : Nat} (hU : ∀ w ∈ u_ws C T N, w.before args s = true) (ty : Nat → FieldType) (hty : ∀ k, k < N → parseFieldDescriptor (T k).2.2.1 = some (ty k)) (hown : s.vm.findClass own = some m.cls) (hcl : (Cond.classLink own index C).before args s = true) (hinst : (Cond.instantiable C N).before args s = true) (hini : (Cond.initialized C).before args s = true)
    (hK : mK G s) (hM : mP G σ H) (hc : vwCl[ci]? = some (C, T, N)) {fs : List Value} (hfs : ∀ j, j < N → defaultValue (ty j) = vp_V fs j) (hcells : cells + 1 ≤ R.cells) (hslots : slots + N ≤ R.slots) (hdg : decode cc pc = .ok (.new index, 3))
    (kk : ∀ H1 : Heap, mP G (nO σ ci fs) H1 → W p l e R s m args below meth c H1 locs (cells + 1) (slots + N) Q (F0 m (pc + 3) ls (.ref σ.1 :: rest))) : W p l e R s m args below meth c H locs cells slots Q (F0 m pc ls rest) := by
  have hKn := hK.1.1 ci _ hc
  refine W.newcK hexec hb hown hcl hinst hini rfl hdg hcells hslots hKn.2.1 hM.1 fun H1 kC hkC e1 z1 o1 => ?_
  exact kk H1 (mP_new hM ⟨_, hc, (u_born ty hU (fun _ q => q) hKn hkC e1 hty).to hfs⟩ z1 o1)
theorem m_newa (hexec : p.tables.exec = Jvm.exec) (hb : c.code = cc) (harr : (Cond.arrayClass .int).before args s = true) (hK : mK G s) (hM : mP G σ H)
    {n : Int32} {N' : Nat} (hn : ¬ n < 0) (hN : n.toNatClampNeg = N') (hbytes : N' * componentBytes .int ≤ 536870912) (hcells : cells + 1 ≤ R.cells) (hslots : slots + N' ≤ R.slots) (hdg : decode cc pc = .ok (.newarray .int, 2))
    (kk : ∀ H1 : Heap, mP G (nI_ σ N') H1 → W p l e R s m args below meth c H1 locs (cells + 1) (slots + N') Q (F0 m (pc + 2) ls (.ref σ.1 :: rest))) : W p l e R s m args below meth c H locs cells slots Q (F0 m pc ls (.int n :: rest)) := by
  refine va_newaK (atype := .int) hexec hb harr rfl hdg rfl hn hN hbytes hcells hslots hM.1 fun H1 cA e1 z1 o1 hAr hNm => ?_
  have hcA : cA = G.2.1 0 := Option.some.inj (hNm.symm.trans (hK.1.2 0 _ rfl).2)
  subst hcA
  exact kk H1 (mP_new hM e1 z1 o1)
theorem m_anew (hexec : p.tables.exec = Jvm.exec) (hb : c.code = cc) {own C : String} {index : Nat} (hown : s.vm.findClass own = some m.cls) (hclink : (Cond.classLink own index C).before args s = true) (hK : mK G s) (hM : mP G σ H) (t : Nat) (ht : (mTy G)[t]? = some (G.2.1 t, .object C)) (hC : C ∈ mAO)
    {n : Int32} {N' : Nat} (hn : ¬ n < 0) (hN : n.toNatClampNeg = N') (hbytes : N' * 4 ≤ 536870912) (hcells : cells + 1 ≤ R.cells) (hslots : slots + N' ≤ R.slots) (hdg : decode cc pc = .ok (.anewarray index, 3))
    (kk : ∀ H1 : Heap, mP G (nR_ σ t N') H1 → W p l e R s m args below meth c H1 locs (cells + 1) (slots + N') Q (F0 m (pc + 3) ls (.ref σ.1 :: rest))) : W p l e R s m args below meth c H locs cells slots Q (F0 m pc ls (.int n :: rest)) := by
  subst hN
  refine W.anew hexec hb hown hclink (va_AO.use (hK.2.2.1 C hC)) rfl hdg rfl hn hbytes hcells hslots fun cA kA comp f1 f2 f3 f4 => ?_
  obtain ⟨kA', comp', k1, k2, k3, k4⟩ := (hK.1.2 t _ ht).2
  have hcA : cA = G.2.1 t := Option.some.inj (f1.symm.trans k4)
  subst hcA
  have h1 := hM.1
  rw [h1]
  refine kk _ (mP_new hM ?_ (by rw [Array.size_push, h1]) (fun q hq => by rw [Array.getElem?_push, if_neg (by omega)]))
  show (H.push _)[σ.1]? = some (vp_cell _ _)
  rw [← h1, Array.getElem?_push_size, vp_cell_q, ← arrV_new]
  rfl
end MR
