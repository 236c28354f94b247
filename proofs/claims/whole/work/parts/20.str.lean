/-! ROWS on the two String constants: what they hold never changes. -/
section MKR
variable {p : Program} {l : Launch} {e : Env} {R : Room} {s : State} {m : MethodId} {args : Array Value} {below : List Frame} {meth : Method} {c : Code} {H : Heap} {locs : List Loc} {cells slots : Nat} {Q : State → Prop}
variable {cc : ByteArray} {pc : Nat} {ls : Array Slot} {rest : List Value} {G : mG} {σ τ : mS} {β : Type} {z : β}
theorem m_kh (h0 : mP G σ H) : ∀ a : Nat, a < G.2.2.2.1.size → ¬ mF G a → H[a]? = G.2.2.2.1[a]? := fun a _ ha => h0.2.2.1 a (Nat.not_le.mp ha)
theorem m_kS (hM0 : mP G σ s.heap) (hM : mP G σ H) (hL : mL G locs) : va_S (mF G) s.heap H locs := ⟨by rw [hM0.1, hM.1]; exact Nat.le_refl _, fun q _ hq => (hM.2.2.1 q (Nat.not_le.mp hq)).trans (hM0.2.2.1 q (Nat.not_le.mp hq)).symm, hL⟩
theorem m_kcs (hexec : p.tables.exec = Jvm.exec) (hb : c.code = cc) {own : String} {index : Nat} (hown : s.vm.findClass own = some m.cls) (hK : mK G s) (hM0 : mP G σ s.heap) (hM : mP G σ H) (hL : mL G locs) (hlink : (Cond.fieldLink own index "java/lang/String" "COMPACT_STRINGS" "Z").before args s = true) (hdg : decode cc pc = .ok (.getstatic index, 3))
    (kk : W p l e R s m args below meth c H locs cells slots Q (F0 m (pc + 3) ls (.int 1 :: rest))) : W p l e R s m args below meth c H locs cells slots Q (F0 m pc ls rest) :=
  va_gets hexec hb (hK.2.2.2.2.2.2.2.1.kept (m_kh hM0)) (m_kS hM0 hM hL) hown hlink (fun _ q => q) hdg kk
theorem m_ksi (hexec : p.tables.exec = Jvm.exec) (hb : c.code = cc) {own : String} {index : Nat} (hown : s.vm.findClass own = some m.cls) (hK : mK G s) (hM0 : mP G σ s.heap) (hM : mP G σ H) (hL : mL G locs) (hlink : (Cond.fieldLink own index "jdk/internal/util/Preconditions" "SIOOBE_FORMATTER" "Ljava/util/function/BiFunction;").before args s = true) (hdg : decode cc pc = .ok (.getstatic index, 3))
    (kk : W p l e R s m args below meth c H locs cells slots Q (F0 m (pc + 3) ls (va_rf G.2.2.2.2.2.2 :: rest))) : W p l e R s m args below meth c H locs cells slots Q (F0 m pc ls rest) :=
  va_gets hexec hb (hK.2.2.2.2.2.2.2.2.kept (m_kh hM0)) (m_kS hM0 hM hL) hown hlink (fun _ q => q) hdg kk
theorem m_kst (hK : mK G s) (hM0 : mP G σ s.heap) : vk_S 2 [8, 65] [mTb 0, mTb 1] G.2.2.2.2.1 G.2.2.2.2.2.1 (mF G) s s.heap := hK.2.2.2.2.2.2.1.kept (m_kh hM0)
theorem m_kval (k : Nat) (hk : k < 2) (hexec : p.tables.exec = Jvm.exec) (hb : c.code = cc) {own : String} {index : Nat} (hown : s.vm.findClass own = some m.cls) (hK : mK G s) (hM0 : mP G σ s.heap) (hM : mP G σ H) (hL : mL G locs) (hlink : (Cond.fieldLink own index "java/lang/String" "value" "[B").before args s = true) (hdg : decode cc pc = .ok (.getfield index, 3))
    (kk : W p l e R s m args below meth c H locs cells slots Q (F0 m (pc + 3) ls (.ref (G.2.2.2.2.2.1 k) :: rest))) : W p l e R s m args below meth c H locs cells slots Q (F0 m pc ls (.ref (G.2.2.2.2.1 k) :: rest)) :=
  vk_getf hexec hb ((m_kst hK hM0).1 k hk).2.2.1 (m_kS hM0 hM hL) hown hlink (fun _ q => q) hdg kk
theorem m_kcod (k : Nat) (hk : k < 2) (hexec : p.tables.exec = Jvm.exec) (hb : c.code = cc) {own : String} {index : Nat} (hown : s.vm.findClass own = some m.cls) (hK : mK G s) (hM0 : mP G σ s.heap) (hM : mP G σ H) (hL : mL G locs) (hlink : (Cond.fieldLink own index "java/lang/String" "coder" "B").before args s = true) (hdg : decode cc pc = .ok (.getfield index, 3))
    (kk : W p l e R s m args below meth c H locs cells slots Q (F0 m (pc + 3) ls (.int 0 :: rest))) : W p l e R s m args below meth c H locs cells slots Q (F0 m pc ls (.ref (G.2.2.2.2.1 k) :: rest)) :=
  vk_getf hexec hb ((m_kst hK hM0).1 k hk).2.1 (m_kS hM0 hM hL) hown hlink (fun _ q => q) hdg kk
theorem m_klen (k : Nat) (hk : k < 2) (hexec : p.tables.exec = Jvm.exec) (hb : c.code = cc) (hK : mK G s) (hM0 : mP G σ s.heap) (hM : mP G σ H) (hL : mL G locs) {v : Int32} (hv : Int32.ofNat (([8, 65] : List Nat).getD k 0) = v) (hdg : decode cc pc = .ok (.arraylength, 1))
    (kk : W p l e R s m args below meth c H locs cells slots Q (F0 m (pc + 1) ls (.int v :: rest))) : W p l e R s m args below meth c H locs cells slots Q (F0 m pc ls (.ref (G.2.2.2.2.2.1 k) :: rest)) :=
  va_tlen hexec hb ((m_kst hK hM0).1 k hk).2.2.2 (m_kS hM0 hM hL) hv hdg kk
theorem m_kbld (k : Nat) (hk : k < 2) (hexec : p.tables.exec = Jvm.exec) (hb : c.code = cc) (hK : mK G s) (hM0 : mP G σ s.heap) (hM : mP G σ H) (hL : mL G locs) {i : Int32} {K : Int32 → Option β} (h : (bK k i).bind K = some z) (hdg : decode cc pc = .ok (.baload, 1))
    (kk : ∀ x : Int32, K x = some z → W p l e R s m args below meth c H locs cells slots Q (F0 m (pc + 1) ls (.int x :: rest))) : W p l e R s m args below meth c H locs cells slots Q (F0 m pc ls (.int i :: .ref (G.2.2.2.2.2.1 k) :: rest)) := by
  obtain ⟨x, hx, h⟩ := ob_some h
  obtain ⟨h1, h2⟩ := on_some hx
  refine va_tb hexec hb ((m_kst hK hM0).1 k hk).2.2.2 (m_kS hM0 hM hL) h1 (v := .int x) ?_ hdg (kk x h)
  show Value.int _ = Value.int x
  rw [← Option.some.inj h2]
  match k, hk with
  | 0, _ => rfl
  | 1, _ => rfl
theorem m_preK {As : List Value} (hK : mK G s) (hM : mP G σ H) (k : Nat) (hk : k < 2) : PreV s H RJ0 (G.2.2.2.2.1 k) (va_Pc (.ref (G.2.2.2.2.1 k) :: As) (mB G σ)) As := by
  obtain ⟨cell, h1, h2, h3, h4⟩ := (hK.2.2.2.2.2.2.1.1 k hk).1
  exact ⟨mB_blind, ⟨cell, by rw [hM.2.2.1 _ (Nat.not_le.mp h4)]; exact h1, h2, h3⟩, fun U hU hW => ⟨rfl, mB_of hK hM U hU hW⟩⟩
theorem zc_of {x : Int32} (h : (x.toUInt32 % 65536).toInt32 = x) : narrow .char (.int x) = .int x := by
  have h1 := pk_nc x
  rw [h] at h1
  exact h1
end MKR
