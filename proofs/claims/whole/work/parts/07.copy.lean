/-! Arrays.copyOf over the memory: a new row with the first n numbers. -/
section MCL
variable {p : Program} {l : Launch} {e : Env} {R : Room} {s : State} {m : MethodId} {args : Array Value} {below : List Frame} {meth : Method} {c : Code} {H : Heap} {locs : List Loc} {cells slots : Nat} {Q : State → Prop}
variable {cc : ByteArray} {pc : Nat} {ls : Array Slot} {rest : List Value} {G : mG} {σ : mS} {a : Nat}
theorem m_clone (hexec : p.tables.exec = Jvm.exec) (hb : c.code = cc) (hml : c.maxLocals = ls.size) {own : String} {index : Nat} (hown : s.vm.findClass own = some m.cls)
    (hlink : (Cond.methodLink own index ⟨"[I", "clone", "()Ljava/lang/Object;"⟩).before args s = true) (hsame : (Cond.sameMethod "[I" "java/lang/Object" "clone" "()Ljava/lang/Object;").before args s = true)
    (hnat : (Cond.native ⟨"java/lang/Object", "clone", "()Ljava/lang/Object;"⟩).before args s = true) (hinst : (Cond.instanceMethod ⟨"java/lang/Object", "clone", "()Ljava/lang/Object;"⟩).before args s = true)
    (hsel : (Cond.selects "[I" ⟨"[I", "clone", "()Ljava/lang/Object;"⟩ ⟨"java/lang/Object", "clone", "()Ljava/lang/Object;"⟩).before args s = true)
    (hK : mK G s) (hM : mP G σ H) {n : Nat} {f : Nat → Int32} (h1 : σ.2 a = some (.inl (0, n, .inl f)))
    (hframes : 1 ≤ R.frames) (hlocals : (rest.map fun v => v.category).sum + 14 ≤ R.locals) (hcells : cells + 1 ≤ R.cells) (hslots : slots + n ≤ R.slots) (hdg : decode cc pc = .ok (.invokevirtual index, 3))
    (kk : ∀ H1 : Heap, mP G (σ.1 + 1, va_up σ.2 σ.1 (some (.inl (0, n, .inl f)))) H1 → W p l e R s m args below meth c H1 locs (cells + 1) (slots + n) Q (F0 m (pc + 3) ls (.ref σ.1 :: rest))) : W p l e R s m args below meth c H locs cells slots Q (F0 m pc ls (.ref a :: rest)) := by
  have hat := hM.2.2.2 a _ h1
  have hcell : H[a]? = some (vp_cell (G.2.1 0) (n, .inl f)) := hat.2
  have hnm : s.vm.findClass "[I" = some (G.2.1 0) := va_nm_int (hK.1.2 0 _ rfl).2
  have hsz : (vp_cell (G.2.1 0) (n, .inl f)).slots.size = n := arrV_size _ _ _
  obtain ⟨c0, t0', f1, f2, f3⟩ := Cond.castable_spec (va_Nw.use (A := args) rfl hK.2.2.2.1)
  cases hnm.symm.trans f1
  intro T hT X
  have hcellT : T.heap[a]? = some (vp_cell (G.2.1 0) (n, .inl f)) := by rw [hT]; exact hcell
  obtain ⟨-, kA, hkA, comp, hkind⟩ := State.isArrayOf_alike X.warmed.alike ((hK.1.2 0 _ rfl).1 0 (fun _ => .null))
  obtain ⟨-, kS, hkS, compS, hkindS⟩ := (hK.1.2 0 _ rfl).1 0 (fun _ => .null)
  obtain ⟨vm', X', st⟩ := X.cloneArray hexec hown hlink hsame hnat hinst hsel (a := a) (cell := vp_cell (G.2.1 0) (n, .inl f)) hcellT (fun k h => by cases h) (fun h => by cases h) hnm f2 f3
    (fun i v hv => by
      have hk' : T.vm.classes[G.2.1 0]? = some kA := hkA
      have hfit : fits .int v = true := va_fit (ty := .int) (fun i _ => rfl) i v hv
      have hcc : (vp_cell (G.2.1 0) (n, .inl f)).cls = G.2.1 0 := rfl
      rw [hcc]
      simpa [State.fitsSlot, State.slotType?, hk', hkind] using hfit)
    (g := F0 m pc ls (.ref a :: rest)) rfl (by rw [hml]) rfl (by rw [hb]; exact hdg) hframes (by show 2 * 0 + _ + 14 ≤ _; omega) hcells (by rw [hsz]; exact hslots) (hloader := Vm.clonesLoader_of_array hkS hkindS)
  have hcellE : ({ cls := (vp_cell (G.2.1 0) (n, .inl f)).cls, slots := (vp_cell (G.2.1 0) (n, .inl f)).slots } : Cell) = vp_cell (G.2.1 0) (n, .inl f) := rfl
  rw [hcellE, hsz] at X'
  generalize hH1 : H.push (vp_cell (G.2.1 0) (n, .inl f)) = H1
  have z1 : H1.size = H.size + 1 := by rw [← hH1, Array.size_push]
  have e1 : H1[H.size]? = some (vp_cell (G.2.1 0) (n, .inl f)) := by rw [← hH1, Array.getElem?_push_size]
  have o1 : ∀ q : Nat, q < H.size → H1[q]? = H[q]? := fun q hq => by rw [← hH1, Array.getElem?_push, if_neg (Nat.ne_of_lt hq)]
  have hs0 := hM.1
  obtain ⟨t, b1, b2⟩ := kk H1 (mP_new (e := .inl (0, n, .inl f)) hM (by rw [← hs0]; exact e1) (by rw [z1, hs0]) (fun q hq => o1 q (by rw [hs0]; exact hq)))
    ((T.setVm vm').pushCell (vp_cell (G.2.1 0) (n, .inl f))) (by rw [← hH1, ← hT]; rfl) X'
  refine ⟨t, st t ?_, b2⟩
  rw [hcellE, hT, hs0]
  exact b1
end MCL
theorem copy_cell (cA : ClassId) {n : Nat} {f g : Nat → Int32} (h : ∀ j, j < n → f j = g j) : vp_cell cA (n, .inl f) = vp_cell cA (n, .inl g) := by
  rw [vp_cell_i, vp_cell_i]
  unfold arrV
  congr 1
  congr 1
  funext j
  show Value.int (f j.val) = Value.int (g j.val)
  rw [h j.val j.isLt]
theorem mP_same {G : mG} {σ : mS} {H : Heap} {a n : Nat} {f g : Nat → Int32} (hM : mP G σ H) (h0 : σ.2 a = some (.inl (0, n, .inl f))) (h : ∀ j, j < n → f j = g j) : mP G (σ.1, va_up σ.2 a (some (.inl (0, n, .inl g)))) H := by
  refine mP_set hM h0 ?_ rfl (fun _ _ => rfl)
  show H[a]? = some (vp_cell _ (n, .inl g))
  rw [← copy_cell _ h]
  exact (hM.2.2.2 a _ h0).2
theorem va_up_up {α : Type} (f : Nat → α) (k : Nat) (v w : α) : va_up (va_up f k v) k w = va_up f k w := by
  funext j
  by_cases h : j = k <;> simp [va_up, h]
theorem mP_lt {G : mG} {σ : mS} {H : Heap} {a : Nat} {e : mE} (hM : mP G σ H) (h : σ.2 a = some e) : a < σ.1 := by
  have h1 := (hM.2.2.2 a e h).2.lt
  rw [hM.1] at h1
  exact h1
abbrev rm_copyOf : Room := { frames := 10, cells := 1, slots := 160, locals := 400 }
theorem nn_clamp {x : Int32} (h : ¬ x < 0) : x.toInt = (x.toNatClampNeg : Int) := by
  have hz0 : (0 : Int) ≤ x.toInt := by
    have := Int32.not_lt.mp h
    simpa using Int32.le_iff_toInt_le.mp this
  show x.toInt = ((x.toInt.toNat : Nat) : Int)
  omega
set_option maxHeartbeats 4000000 in
set_option maxRecDepth 100000 in
theorem c_copyOf (l : Launch) (G : mG) {h0 : Nat} {x1 : Int32} {σ : mS} {z : Nat × mS} (h : f_copyOf h0 x1 σ = some z) : Met l yJ7_copyOf_59c91 wsJ7_copyOf_59c91 rm_copyOf (va_Pc [.ref h0, .int x1] (mB G σ)) (mQ G (.returned (some (.ref z.1))) z.2) 1 160 (mF G) := by
  obtain ⟨e0, g1, h⟩ := ob_some h
  obtain ⟨⟨n0, f⟩, g2, h⟩ := ob_some h
  obtain ⟨g3, h⟩ := on_some h
  have hz := (Option.some.inj h).symm
  subst hz
  have hb0 := xI_some g2
  subst hb0
  dsimp only at g1 g3 ⊢
  simp only [not_or, Nat.not_lt] at g3
  obtain ⟨hn, hle, h160⟩ := g3
  refine m_start (cc := cJ7_copyOf_59c91) (maxL := 3) (ret := (some (.array .int))) (by decide) rfl [.ref h0, .int x1] (Nat.le_of_ble_eq_true rfl) ?_
  intro p e s m args below meth c ls hx hb hr hml hown hts hlocks hnm hK hM hl
  have hown : s.vm.findClass RJ7 = some m.cls := hown
  obtain ⟨locs, hlocs⟩ : ∃ l : List Loc, l = [] := ⟨_, rfl⟩
  have hL : mL G locs := by rw [hlocs]; exact mL_nil G
  rw [← hlocs]
  generalize s.heap = H at hM ⊢
  have hl : lv_has ls 3 [(0, .ref h0), (1, .int x1)] := hl
  have hlen : aL σ h0 = some (Int32.ofNat n0) := by simp [aL, g1, xI]
  have hlen' : (aL σ h0).bind (fun x => some x) = some (Int32.ofNat n0) := by rw [hlen]; rfl
  refine lv_iload_n hx hb dJ7_copyOf_59c91_0 rfl (lv_at hl 1 rfl) ?_
  refine lv_aload_n hx hb dJ7_copyOf_59c91_1 rfl (lv_at hl 0 rfl) ?_
  refine m_alen hx hb hK hM hlen' dJ7_copyOf_59c91_2 (fun x gx hx2 => ?_)
  have hx3 : x = Int32.ofNat n0 := Option.some.inj hx2
  subst hx3
  have hnn := nn_clamp hn
  refine lv_icmp_ne (tgt := 14) hx hb dJ7_copyOf_59c91_3 (by decide) (fun c1 => ?_) (fun c1 => ?_)
  · refine lv_iload_n hx hb dJ7_copyOf_59c91_14 rfl (lv_at hl 1 rfl) ?_
    have hlt : h0 < σ.1 := mP_lt hM g1
    have hne : h0 ≠ σ.1 := Nat.ne_of_lt hlt
    refine m_newa (N' := x1.toNatClampNeg) hx hb (hts (.arrayClass .int) (List.mem_of_getElem? (i := 7) rfl)) hK hM hn rfl (by show _ * 4 ≤ _; omega) (Nat.le_of_ble_eq_true rfl) (by show 0 + x1.toNatClampNeg ≤ 160; omega) dJ7_copyOf_59c91_15 (fun H hM => ?_)
    obtain ⟨t, et⟩ : ∃ t, t = nI_ σ x1.toNatClampNeg := ⟨_, rfl⟩
    have hM : mP G t H := by rw [et]; exact hM
    have t0 : t.2 h0 = some (.inl (0, n0, .inl f)) := by rw [et]; simp [nI_, va_up, hne, g1]
    have t1 : t.2 σ.1 = some (.inl (0, x1.toNatClampNeg, .inl (fun _ => 0))) := by rw [et]; simp [nI_, va_up]
    have hlen2 : (aL t h0).bind (fun x => some x) = some (Int32.ofNat n0) := by simp [aL, t0, xI]
    refine lv_astore_n (lv' := [(2, .ref σ.1), (0, .ref h0), (1, .int x1)]) hx hb dJ7_copyOf_59c91_17 rfl hl (by decide) rfl (fun ls hl => ?_)
    refine lv_aload_n hx hb dJ7_copyOf_59c91_18 rfl (lv_at hl 1 rfl) ?_
    refine lv_iconst (v := 0) hx hb dJ7_copyOf_59c91_19 (by decide) ?_
    refine lv_aload_n hx hb dJ7_copyOf_59c91_20 rfl (lv_at hl 0 rfl) ?_
    refine lv_iconst (v := 0) hx hb dJ7_copyOf_59c91_21 (by decide) ?_
    refine lv_aload_n hx hb dJ7_copyOf_59c91_22 rfl (lv_at hl 1 rfl) ?_
    refine m_alen hx hb hK hM hlen2 dJ7_copyOf_59c91_23 (fun x gx hx2 => ?_)
    have hx3 : x = Int32.ofNat n0 := Option.some.inj hx2
    subst hx3
    refine lv_iload_n hx hb dJ7_copyOf_59c91_24 rfl (lv_at hl 2 rfl) ?_
    refine va_mmin hx hb (hml.trans hl.1.symm) hown (hts (.methodLink RJ7 304 Lib.Math.min.name) (List.mem_of_getElem? (i := 8) rfl)) (hts (.static Lib.Math.min.name) (List.mem_of_getElem? (i := 9) rfl)) (hts (.initialized "java/lang/Math") (List.mem_of_getElem? (i := 10) rfl)) (hts (.code Lib.Math.min.name Lib.Math.min.code 2 (some .int)) (List.mem_of_getElem? (i := 11) rfl)) (Nat.le_of_ble_eq_true rfl) (Nat.le_of_ble_eq_true rfl) (Nat.le_of_ble_eq_true rfl) (by show 0 + x1.toNatClampNeg ≤ 160; omega) dJ7_copyOf_59c91_25 ?_
    have hmin : (if x1 < Int32.ofNat n0 then x1 else Int32.ofNat n0) = x1 := by
      by_cases q : x1 < Int32.ofNat n0
      · rw [if_pos q]
      · rw [if_neg q]
        have h3 : (Int32.ofNat n0).toInt = (n0 : Int) := nI_toInt (by omega)
        have h4 := Int32.not_lt.mp q
        have h5 := Int32.le_iff_toInt_le.mp h4
        exact Int32.toInt_inj.mp (by omega)
    rw [hmin]
    obtain ⟨τ, eτ⟩ : ∃ τ, τ = (t.1, va_up t.2 σ.1 (some (.inl (0, x1.toNatClampNeg, .inl (va_cpy f (fun _ => 0) (0 : Int32).toNatClampNeg (0 : Int32).toNatClampNeg x1.toNatClampNeg)) : mE))) := ⟨_, rfl⟩
    have hcp : (cP t h0 0 σ.1 0 x1).bind (fun x => some x) = some τ := by
      have z0 : (0 : Int32).toNatClampNeg = 0 := by decide
      rw [eτ]
      simp only [cP, t0, t1, xI, Option.bind_some]
      rw [if_neg]
      · rfl
      · simp only [not_or, Nat.not_lt]
        exact ⟨by decide, by decide, hn, by rw [z0]; omega, by rw [z0]; omega⟩
    refine m_copy hx hb (hml.trans hl.1.symm) hown (hts (.methodLink RJ7 150 arraycopyName) (List.mem_of_getElem? (i := 12) rfl)) (hts (.native arraycopyName) (List.mem_of_getElem? (i := 13) rfl)) (hts (.static arraycopyName) (List.mem_of_getElem? (i := 14) rfl)) (hts (.initialized "java/lang/System") (List.mem_of_getElem? (i := 15) rfl)) hK hM hL hcp (Nat.le_of_ble_eq_true rfl) (Nat.le_of_ble_eq_true rfl) dJ7_copyOf_59c91_28 (fun τ2 H locs h hM hL => ?_)
    have h := Option.some.inj h
    subst h
    have hat : τ2.2 σ.1 = some (.inl (0, x1.toNatClampNeg, .inl (va_cpy f (fun _ => 0) (0 : Int32).toNatClampNeg (0 : Int32).toNatClampNeg x1.toNatClampNeg))) := by rw [eτ]; simp [va_up]
    have hM : mP G (τ2.1, va_up τ2.2 σ.1 (some (.inl (0, x1.toNatClampNeg, .inl f)))) H := mP_same hM hat (fun j hj => by
      have z0 : (0 : Int32).toNatClampNeg = 0 := by decide
      rw [z0, pk_cpy_in (Nat.zero_le _) (by omega)]
      congr 1
      omega)
    have hM : mP G (σ.1 + 1, va_up σ.2 σ.1 (some (.inl (0, x1.toNatClampNeg, .inl f)))) H := by
      rw [eτ, et] at hM
      simp only [nI_, va_up_up] at hM
      exact hM
    refine lv_aload_n hx hb dJ7_copyOf_59c91_31 rfl (lv_at hl 0 rfl) ?_
    refine W.widen (k := 1) (n := 160) (by omega) (by omega) ?_
    exact m_aret hx hb hr (Or.inr ⟨_, rfl⟩) hM hL dJ7_copyOf_59c91_32 hlocks
  · have c2 : x1.toNatClampNeg = n0 := by
      have h3 : (Int32.ofNat n0).toNatClampNeg = n0 := nI_clamp (by omega)
      rw [c1, h3]
    refine lv_aload_n hx hb dJ7_copyOf_59c91_6 rfl (lv_at hl 0 rfl) ?_
    refine m_clone hx hb (hml.trans hl.1.symm) hown (hts (.methodLink RJ7 316 ⟨"[I", "clone", "()Ljava/lang/Object;"⟩) (List.mem_of_getElem? (i := 1) rfl)) (hts (.sameMethod "[I" "java/lang/Object" "clone" "()Ljava/lang/Object;") (List.mem_of_getElem? (i := 2) rfl)) (hts (.native ⟨"java/lang/Object", "clone", "()Ljava/lang/Object;"⟩) (List.mem_of_getElem? (i := 3) rfl)) (hts (.instanceMethod ⟨"java/lang/Object", "clone", "()Ljava/lang/Object;"⟩) (List.mem_of_getElem? (i := 4) rfl)) (hts (.selects "[I" ⟨"[I", "clone", "()Ljava/lang/Object;"⟩ ⟨"java/lang/Object", "clone", "()Ljava/lang/Object;"⟩) (List.mem_of_getElem? (i := 5) rfl)) hK hM g1 (Nat.le_of_ble_eq_true rfl) (Nat.le_of_ble_eq_true rfl) (Nat.le_of_ble_eq_true rfl) (by show 0 + n0 ≤ 160; omega) dJ7_copyOf_59c91_7 (fun H hM => ?_)
    have hcell : (σ.1 + 1, va_up σ.2 σ.1 (some (.inl (0, n0, .inl f) : mE))).2 σ.1 = some (.inl (0, n0, .inl f)) := by simp [va_up]
    refine va_castA hx hb hown (hts (.classLink RJ7 317 "[I") (List.mem_of_getElem? (i := 6) rfl)) (va_one (hM.2.2.2 σ.1 _ hcell).2) 0 rfl (va_nm_int (hK.1.2 0 _ rfl).2) dJ7_copyOf_59c91_10 ?_
    refine W.widen (k := 1) (n := 160) (by omega) (by omega) ?_
    rw [c2]
    exact m_aret hx hb hr (Or.inr ⟨_, rfl⟩) hM hL dJ7_copyOf_59c91_13 hlocks
