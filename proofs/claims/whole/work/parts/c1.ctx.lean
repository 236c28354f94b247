/-! THE CLAIM OUT OF ONE WALK OF THE LAW'S BODY. Your part is whole_start (and what it stands on); all else here is the same for every law, but numbers. -/
def R_law : String := "HandkerchiefsDroppedLaw"
def lw_P (b : Addr) (xs : List Int32) (args : Array Value) (s : State) : Prop := args = #[.ref b] ∧ s.IntsAt b xs ∧ xs.length ≤ 3584 ∧ (Jvm.Cond.and given_1 narrow_1).before args s = true
def lw_Q (_ : Array Value) (s : State) (o : Outcome) (t : State) : Prop := o = .returned (some (.int 1)) ∧ Framed s o t [] 600000 7302250
def lw_Z (below : List Frame) (a : Array Value) (s : State) : State → Prop := fun t => ∃ o, t.status = .running ∧ Ended t below o ∧ lw_Q a s o t
/-- the law's own end, with 1 on the stack, nothing written that was there before, its room as the claim has it -/
theorem lw_ret {p : Program} {l : Launch} {e : Env} {s : State} {m : MethodId} {below : List Frame} {meth : Method} {c : Code} {b : Nat} (hx : p.tables.exec = Jvm.exec) (hb : c.code = code) (hr : meth.sig.returnType = ret) (hlocks : meth.locks = false) {pc : Nat} {H : Heap} {ls : Array Slot} (hdg : decode code pc = .ok (.ireturn, 1)) : W p l e room_1 s m #[Value.ref b] below meth c H [] 600000 7302250 (lw_Z below #[Value.ref b] s) (F0 m pc ls [.int 1]) := by
  intro T hT X
  obtain ⟨fs, hret, hrun, hended, hW, hframe⟩ := X.leave (v := some (.int 1)) (hlocks := hlocks) (fun h => by rw [hr] at h; cases h)
  have hmeth' : T.vm.method? m = some meth := X.method'
  refine ⟨T.setFrames fs, ?_, .returned (some (.int 1)), hrun, hended, rfl, ⟨_, rfl⟩, hW, hframe⟩
  jvm_step X.here [X.here.top, hx, hb, hdg, hmeth', hr, ret, narrow_b1]
  (try refine ⟨rfl, ?_⟩); (try refine ⟨rfl, ?_⟩)
  first | (intro acts; rw [hret _ acts rfl rfl rfl]) | rw [hret _ _ rfl rfl rfl]
  exact Steps.refl _
/-- what holds at the law's entry: the machine, the code, the tables' words (any of lw_tbl by 'hts w (by decide +kernel)'), the script of L ints xs at the cell b, what the Statement gives of the start (any of its parts by flat_of_before) -/
def lw_At (p : Program) (s : State) (m : MethodId) (meth : Method) (c : Code) (b L : Nat) (xs : Nat → Int32) : Prop :=
  p.tables.exec = Jvm.exec ∧ c.code = code ∧ meth.sig.returnType = ret ∧ c.maxLocals = 4 ∧ s.vm.findClass R_law = some m.cls ∧ (∀ w ∈ lw_tbl, w.before #[Value.ref b] s = true) ∧ va_X b L xs s s.heap ∧ b < s.heap.size ∧ meth.locks = false ∧ (Jvm.Cond.and given_1 narrow_1).before #[Value.ref b] s = true

/-! THE LAW: what stays through its loop. -/
def LCtx (p : Program) (s : State) (m : MethodId) (meth : Method) (c : Code) (bs L : Nat) (xs : Nat → Int32) (G : mG) : Prop := lw_At p s m meth c bs L xs ∧ G.2.2.1 = s.heap.size ∧ G.2.2.2.1 = s.heap ∧ mK G s
theorem LCtx.get {p : Program} {s : State} {m : MethodId} {meth : Method} {c : Code} {bs L : Nat} {xs : Nat → Int32} {G : mG} (h : LCtx p s m meth c bs L xs G) : p.tables.exec = Jvm.exec ∧ c.code = cL_law ∧ c.maxLocals = 4 ∧ s.vm.findClass RL = some m.cls ∧ (∀ w ∈ lw_tbl, w.before #[Value.ref bs] s = true) ∧ va_X bs L xs s s.heap ∧ bs < s.heap.size ∧ ¬ mF G bs ∧ mK G s := by
  obtain ⟨⟨hx, hb, hr, hml, hown, hts, hX, hbl, hlocks, hgv⟩, h1, h2, hK⟩ := h
  exact ⟨hx, hb, hml, hown, hts, hX, hbl, by show ¬ G.2.2.1 ≤ bs; omega, hK⟩
theorem LCtx.S {p : Program} {s : State} {m : MethodId} {meth : Method} {c : Code} {bs L : Nat} {xs : Nat → Int32} {G : mG} {σ : mS} {H : Heap} {locs : List Loc} (h : LCtx p s m meth c bs L xs G) (hM : mP G σ H) (hL : mL G locs) : va_S (mF G) s.heap H locs := by
  obtain ⟨_, h1, h2, _⟩ := h
  refine ⟨?_, fun q hq hn => ?_, hL⟩
  · have a1 := hM.1
    have a2 := hM.2.1
    omega
  · rw [hM.2.2.1 q (Nat.not_le.mp hn), h2]
def hin6 (x : Int32) (L : Nat) : Prop := vp_in (x + 1) L ∧ vp_in (x + 2) L ∧ vp_in (x + 3) L ∧ vp_in (x + 4) L ∧ vp_in (x + 5) L ∧ vp_in (x + 6) L
def LNext (p : Program) (l : Launch) (e : Env) (s : State) (m : MethodId) (bs : Nat) (below : List Frame) (meth : Method) (c : Code) (G : mG) (b r : Nat) (ls : Array Slot) (cells slots : Nat) (Q : State → Prop) : Prop := ∀ (S : XS) (O : MS) (μ : mS) (H : Heap) (locs : List Loc) (cells' slots' : Nat), Rlw b r S O μ → mP G (Wd b r S O μ) H → mL G locs → cells' ≤ cells + 2 → slots' ≤ slots + 164 → W p l e room_1 s m #[Value.ref bs] below meth c H locs cells' slots' Q (F0 m 1515 ls [])
theorem lg_cmp_self (v : Int64) : lg_cmp v v = 0 := by
  have h : ¬ v < v := Int64.lt_irrefl
  simp [lg_cmp, h]
theorem Rlw.lm {b r : Nat} {S : XS} {O : MS} {μ : mS} (h : Rlw b r S O μ) : b + 85 ≤ r := by
  obtain ⟨tc, q, T, Q, h⟩ := h
  exact RLx.lm h
theorem isO5 {b r : Nat} {S : XS} {O : MS} {μ : mS} : isO (Wd b r S O μ) b 4 = true := isO_H
theorem isO6 {b r : Nat} {S : XS} {O : MS} {μ : mS} (h : b + 85 ≤ r) : isO (Wd b r S O μ) r 5 = true := by
  rw [Wd_M h]
  exact isO_M
theorem hdl_X5_count : yX5_count.cls = RX5 ∧ yX5_count.cls ≠ "java/lang/invoke/MethodHandle" ∧ yX5_count.cls ≠ "java/lang/invoke/VarHandle" ∧ (parseMethodDescriptor yX5_count.desc).map (fun d => d.parameters.length) = some 1 := by decide +kernel
theorem hdl_X6_count : yX6_count.cls = RX6 ∧ yX6_count.cls ≠ "java/lang/invoke/MethodHandle" ∧ yX6_count.cls ≠ "java/lang/invoke/VarHandle" ∧ (parseMethodDescriptor yX6_count.desc).map (fun d => d.parameters.length) = some 1 := by decide +kernel
theorem hdl_X5_court : yX5_court.cls = RX5 ∧ yX5_court.cls ≠ "java/lang/invoke/MethodHandle" ∧ yX5_court.cls ≠ "java/lang/invoke/VarHandle" ∧ (parseMethodDescriptor yX5_court.desc).map (fun d => d.parameters.length) = some 3 := by decide +kernel
theorem hdl_X6_court : yX6_court.cls = RX6 ∧ yX6_court.cls ≠ "java/lang/invoke/MethodHandle" ∧ yX6_court.cls ≠ "java/lang/invoke/VarHandle" ∧ (parseMethodDescriptor yX6_court.desc).map (fun d => d.parameters.length) = some 3 := by decide +kernel
theorem hdl_X5_bench : yX5_bench.cls = RX5 ∧ yX5_bench.cls ≠ "java/lang/invoke/MethodHandle" ∧ yX5_bench.cls ≠ "java/lang/invoke/VarHandle" ∧ (parseMethodDescriptor yX5_bench.desc).map (fun d => d.parameters.length) = some 2 := by decide +kernel
theorem hdl_X6_bench : yX6_bench.cls = RX6 ∧ yX6_bench.cls ≠ "java/lang/invoke/MethodHandle" ∧ yX6_bench.cls ≠ "java/lang/invoke/VarHandle" ∧ (parseMethodDescriptor yX6_bench.desc).map (fun d => d.parameters.length) = some 2 := by decide +kernel
theorem hdl_X5_feed : yX5_feed.cls = RX5 ∧ yX5_feed.cls ≠ "java/lang/invoke/MethodHandle" ∧ yX5_feed.cls ≠ "java/lang/invoke/VarHandle" ∧ (parseMethodDescriptor yX5_feed.desc).map (fun d => d.parameters.length) = some 6 := by decide +kernel
theorem hdl_X6_feed : yX6_feed.cls = RX6 ∧ yX6_feed.cls ≠ "java/lang/invoke/MethodHandle" ∧ yX6_feed.cls ≠ "java/lang/invoke/VarHandle" ∧ (parseMethodDescriptor yX6_feed.desc).map (fun d => d.parameters.length) = some 6 := by decide +kernel
theorem hdl_X5_text : yX5_text.cls = RX5 ∧ yX5_text.cls ≠ "java/lang/invoke/MethodHandle" ∧ yX5_text.cls ≠ "java/lang/invoke/VarHandle" ∧ (parseMethodDescriptor yX5_text.desc).map (fun d => d.parameters.length) = some 0 := by decide +kernel
theorem hdl_X6_text : yX6_text.cls = RX6 ∧ yX6_text.cls ≠ "java/lang/invoke/MethodHandle" ∧ yX6_text.cls ≠ "java/lang/invoke/VarHandle" ∧ (parseMethodDescriptor yX6_text.desc).map (fun d => d.parameters.length) = some 0 := by decide +kernel
theorem hdl_X5_force : yX5_force.cls = RX5 ∧ yX5_force.cls ≠ "java/lang/invoke/MethodHandle" ∧ yX5_force.cls ≠ "java/lang/invoke/VarHandle" ∧ (parseMethodDescriptor yX5_force.desc).map (fun d => d.parameters.length) = some 1 := by decide +kernel
theorem hdl_X6_force : yX6_force.cls = RX6 ∧ yX6_force.cls ≠ "java/lang/invoke/MethodHandle" ∧ yX6_force.cls ≠ "java/lang/invoke/VarHandle" ∧ (parseMethodDescriptor yX6_force.desc).map (fun d => d.parameters.length) = some 1 := by decide +kernel
theorem hdl_X5_asks : yX5_asks.cls = RX5 ∧ yX5_asks.cls ≠ "java/lang/invoke/MethodHandle" ∧ yX5_asks.cls ≠ "java/lang/invoke/VarHandle" ∧ (parseMethodDescriptor yX5_asks.desc).map (fun d => d.parameters.length) = some 2 := by decide +kernel
theorem hdl_X6_asks : yX6_asks.cls = RX6 ∧ yX6_asks.cls ≠ "java/lang/invoke/MethodHandle" ∧ yX6_asks.cls ≠ "java/lang/invoke/VarHandle" ∧ (parseMethodDescriptor yX6_asks.desc).map (fun d => d.parameters.length) = some 2 := by decide +kernel
theorem hdl_X5_witness : yX5_witness.cls = RX5 ∧ yX5_witness.cls ≠ "java/lang/invoke/MethodHandle" ∧ yX5_witness.cls ≠ "java/lang/invoke/VarHandle" ∧ (parseMethodDescriptor yX5_witness.desc).map (fun d => d.parameters.length) = some 3 := by decide +kernel
theorem hdl_X6_witness : yX6_witness.cls = RX6 ∧ yX6_witness.cls ≠ "java/lang/invoke/MethodHandle" ∧ yX6_witness.cls ≠ "java/lang/invoke/VarHandle" ∧ (parseMethodDescriptor yX6_witness.desc).map (fun d => d.parameters.length) = some 3 := by decide +kernel
theorem hdl_X5_put : yX5_put.cls = RX5 ∧ yX5_put.cls ≠ "java/lang/invoke/MethodHandle" ∧ yX5_put.cls ≠ "java/lang/invoke/VarHandle" ∧ (parseMethodDescriptor yX5_put.desc).map (fun d => d.parameters.length) = some 3 := by decide +kernel
theorem hdl_X6_put : yX6_put.cls = RX6 ∧ yX6_put.cls ≠ "java/lang/invoke/MethodHandle" ∧ yX6_put.cls ≠ "java/lang/invoke/VarHandle" ∧ (parseMethodDescriptor yX6_put.desc).map (fun d => d.parameters.length) = some 3 := by decide +kernel
theorem hdl_X5_told : yX5_told.cls = RX5 ∧ yX5_told.cls ≠ "java/lang/invoke/MethodHandle" ∧ yX5_told.cls ≠ "java/lang/invoke/VarHandle" ∧ (parseMethodDescriptor yX5_told.desc).map (fun d => d.parameters.length) = some 2 := by decide +kernel
theorem hdl_X6_told : yX6_told.cls = RX6 ∧ yX6_told.cls ≠ "java/lang/invoke/MethodHandle" ∧ yX6_told.cls ≠ "java/lang/invoke/VarHandle" ∧ (parseMethodDescriptor yX6_told.desc).map (fun d => d.parameters.length) = some 2 := by decide +kernel
theorem hdl_X5_regard : yX5_regard.cls = RX5 ∧ yX5_regard.cls ≠ "java/lang/invoke/MethodHandle" ∧ yX5_regard.cls ≠ "java/lang/invoke/VarHandle" ∧ (parseMethodDescriptor yX5_regard.desc).map (fun d => d.parameters.length) = some 3 := by decide +kernel
theorem hdl_X6_regard : yX6_regard.cls = RX6 ∧ yX6_regard.cls ≠ "java/lang/invoke/MethodHandle" ∧ yX6_regard.cls ≠ "java/lang/invoke/VarHandle" ∧ (parseMethodDescriptor yX6_regard.desc).map (fun d => d.parameters.length) = some 3 := by decide +kernel
theorem hdl_X5_linen : yX5_linen.cls = RX5 ∧ yX5_linen.cls ≠ "java/lang/invoke/MethodHandle" ∧ yX5_linen.cls ≠ "java/lang/invoke/VarHandle" ∧ (parseMethodDescriptor yX5_linen.desc).map (fun d => d.parameters.length) = some 2 := by decide +kernel
theorem hdl_X6_linen : yX6_linen.cls = RX6 ∧ yX6_linen.cls ≠ "java/lang/invoke/MethodHandle" ∧ yX6_linen.cls ≠ "java/lang/invoke/VarHandle" ∧ (parseMethodDescriptor yX6_linen.desc).map (fun d => d.parameters.length) = some 2 := by decide +kernel
theorem hdl_X5_drop : yX5_drop.cls = RX5 ∧ yX5_drop.cls ≠ "java/lang/invoke/MethodHandle" ∧ yX5_drop.cls ≠ "java/lang/invoke/VarHandle" ∧ (parseMethodDescriptor yX5_drop.desc).map (fun d => d.parameters.length) = some 1 := by decide +kernel
theorem hdl_X6_drop : yX6_drop.cls = RX6 ∧ yX6_drop.cls ≠ "java/lang/invoke/MethodHandle" ∧ yX6_drop.cls ≠ "java/lang/invoke/VarHandle" ∧ (parseMethodDescriptor yX6_drop.desc).map (fun d => d.parameters.length) = some 1 := by decide +kernel
theorem hdl_X5_hour : yX5_hour.cls = RX5 ∧ yX5_hour.cls ≠ "java/lang/invoke/MethodHandle" ∧ yX5_hour.cls ≠ "java/lang/invoke/VarHandle" ∧ (parseMethodDescriptor yX5_hour.desc).map (fun d => d.parameters.length) = some 0 := by decide +kernel
theorem hdl_X6_hour : yX6_hour.cls = RX6 ∧ yX6_hour.cls ≠ "java/lang/invoke/MethodHandle" ∧ yX6_hour.cls ≠ "java/lang/invoke/VarHandle" ∧ (parseMethodDescriptor yX6_hour.desc).map (fun d => d.parameters.length) = some 0 := by decide +kernel
theorem hdl_X5_burn : yX5_burn.cls = RX5 ∧ yX5_burn.cls ≠ "java/lang/invoke/MethodHandle" ∧ yX5_burn.cls ≠ "java/lang/invoke/VarHandle" ∧ (parseMethodDescriptor yX5_burn.desc).map (fun d => d.parameters.length) = some 1 := by decide +kernel
theorem hdl_X6_burn : yX6_burn.cls = RX6 ∧ yX6_burn.cls ≠ "java/lang/invoke/MethodHandle" ∧ yX6_burn.cls ≠ "java/lang/invoke/VarHandle" ∧ (parseMethodDescriptor yX6_burn.desc).map (fun d => d.parameters.length) = some 1 := by decide +kernel
theorem hdl_X5_run : yX5_run.cls = RX5 ∧ yX5_run.cls ≠ "java/lang/invoke/MethodHandle" ∧ yX5_run.cls ≠ "java/lang/invoke/VarHandle" ∧ (parseMethodDescriptor yX5_run.desc).map (fun d => d.parameters.length) = some 2 := by decide +kernel
theorem hdl_X6_run : yX6_run.cls = RX6 ∧ yX6_run.cls ≠ "java/lang/invoke/MethodHandle" ∧ yX6_run.cls ≠ "java/lang/invoke/VarHandle" ∧ (parseMethodDescriptor yX6_run.desc).map (fun d => d.parameters.length) = some 2 := by decide +kernel
theorem hdl_X5_when : yX5_when.cls = RX5 ∧ yX5_when.cls ≠ "java/lang/invoke/MethodHandle" ∧ yX5_when.cls ≠ "java/lang/invoke/VarHandle" ∧ (parseMethodDescriptor yX5_when.desc).map (fun d => d.parameters.length) = some 1 := by decide +kernel
theorem hdl_X6_when : yX6_when.cls = RX6 ∧ yX6_when.cls ≠ "java/lang/invoke/MethodHandle" ∧ yX6_when.cls ≠ "java/lang/invoke/VarHandle" ∧ (parseMethodDescriptor yX6_when.desc).map (fun d => d.parameters.length) = some 1 := by decide +kernel
theorem hdl_X5_fate : yX5_fate.cls = RX5 ∧ yX5_fate.cls ≠ "java/lang/invoke/MethodHandle" ∧ yX5_fate.cls ≠ "java/lang/invoke/VarHandle" ∧ (parseMethodDescriptor yX5_fate.desc).map (fun d => d.parameters.length) = some 2 := by decide +kernel
theorem hdl_X6_fate : yX6_fate.cls = RX6 ∧ yX6_fate.cls ≠ "java/lang/invoke/MethodHandle" ∧ yX6_fate.cls ≠ "java/lang/invoke/VarHandle" ∧ (parseMethodDescriptor yX6_fate.desc).map (fun d => d.parameters.length) = some 2 := by decide +kernel
theorem hdl_X5_advise : yX5_advise.cls = RX5 ∧ yX5_advise.cls ≠ "java/lang/invoke/MethodHandle" ∧ yX5_advise.cls ≠ "java/lang/invoke/VarHandle" ∧ (parseMethodDescriptor yX5_advise.desc).map (fun d => d.parameters.length) = some 2 := by decide +kernel
theorem hdl_X6_advise : yX6_advise.cls = RX6 ∧ yX6_advise.cls ≠ "java/lang/invoke/MethodHandle" ∧ yX6_advise.cls ≠ "java/lang/invoke/VarHandle" ∧ (parseMethodDescriptor yX6_advise.desc).map (fun d => d.parameters.length) = some 2 := by decide +kernel
theorem hdl_X5_turn : yX5_turn.cls = RX5 ∧ yX5_turn.cls ≠ "java/lang/invoke/MethodHandle" ∧ yX5_turn.cls ≠ "java/lang/invoke/VarHandle" ∧ (parseMethodDescriptor yX5_turn.desc).map (fun d => d.parameters.length) = some 1 := by decide +kernel
theorem hdl_X6_turn : yX6_turn.cls = RX6 ∧ yX6_turn.cls ≠ "java/lang/invoke/MethodHandle" ∧ yX6_turn.cls ≠ "java/lang/invoke/VarHandle" ∧ (parseMethodDescriptor yX6_turn.desc).map (fun d => d.parameters.length) = some 1 := by decide +kernel
theorem hdl_X5_gallant : yX5_gallant.cls = RX5 ∧ yX5_gallant.cls ≠ "java/lang/invoke/MethodHandle" ∧ yX5_gallant.cls ≠ "java/lang/invoke/VarHandle" ∧ (parseMethodDescriptor yX5_gallant.desc).map (fun d => d.parameters.length) = some 2 := by decide +kernel
theorem hdl_X6_gallant : yX6_gallant.cls = RX6 ∧ yX6_gallant.cls ≠ "java/lang/invoke/MethodHandle" ∧ yX6_gallant.cls ≠ "java/lang/invoke/VarHandle" ∧ (parseMethodDescriptor yX6_gallant.desc).map (fun d => d.parameters.length) = some 2 := by decide +kernel
theorem hdl_X5_cast : yX5_cast.cls = RX5 ∧ yX5_cast.cls ≠ "java/lang/invoke/MethodHandle" ∧ yX5_cast.cls ≠ "java/lang/invoke/VarHandle" ∧ (parseMethodDescriptor yX5_cast.desc).map (fun d => d.parameters.length) = some 2 := by decide +kernel
theorem hdl_X6_cast : yX6_cast.cls = RX6 ∧ yX6_cast.cls ≠ "java/lang/invoke/MethodHandle" ∧ yX6_cast.cls ≠ "java/lang/invoke/VarHandle" ∧ (parseMethodDescriptor yX6_cast.desc).map (fun d => d.parameters.length) = some 2 := by decide +kernel
theorem hdl_X5_mean : yX5_mean.cls = RX5 ∧ yX5_mean.cls ≠ "java/lang/invoke/MethodHandle" ∧ yX5_mean.cls ≠ "java/lang/invoke/VarHandle" ∧ (parseMethodDescriptor yX5_mean.desc).map (fun d => d.parameters.length) = some 1 := by decide +kernel
theorem hdl_X6_mean : yX6_mean.cls = RX6 ∧ yX6_mean.cls ≠ "java/lang/invoke/MethodHandle" ∧ yX6_mean.cls ≠ "java/lang/invoke/VarHandle" ∧ (parseMethodDescriptor yX6_mean.desc).map (fun d => d.parameters.length) = some 1 := by decide +kernel
theorem hdl_X5_judge : yX5_judge.cls = RX5 ∧ yX5_judge.cls ≠ "java/lang/invoke/MethodHandle" ∧ yX5_judge.cls ≠ "java/lang/invoke/VarHandle" ∧ (parseMethodDescriptor yX5_judge.desc).map (fun d => d.parameters.length) = some 1 := by decide +kernel
theorem hdl_X6_judge : yX6_judge.cls = RX6 ∧ yX6_judge.cls ≠ "java/lang/invoke/MethodHandle" ∧ yX6_judge.cls ≠ "java/lang/invoke/VarHandle" ∧ (parseMethodDescriptor yX6_judge.desc).map (fun d => d.parameters.length) = some 1 := by decide +kernel
theorem hdl_X5_kinds : yX5_kinds.cls = RX5 ∧ yX5_kinds.cls ≠ "java/lang/invoke/MethodHandle" ∧ yX5_kinds.cls ≠ "java/lang/invoke/VarHandle" ∧ (parseMethodDescriptor yX5_kinds.desc).map (fun d => d.parameters.length) = some 3 := by decide +kernel
theorem hdl_X6_kinds : yX6_kinds.cls = RX6 ∧ yX6_kinds.cls ≠ "java/lang/invoke/MethodHandle" ∧ yX6_kinds.cls ≠ "java/lang/invoke/VarHandle" ∧ (parseMethodDescriptor yX6_kinds.desc).map (fun d => d.parameters.length) = some 3 := by decide +kernel
theorem hdl_X5_faces : yX5_faces.cls = RX5 ∧ yX5_faces.cls ≠ "java/lang/invoke/MethodHandle" ∧ yX5_faces.cls ≠ "java/lang/invoke/VarHandle" ∧ (parseMethodDescriptor yX5_faces.desc).map (fun d => d.parameters.length) = some 3 := by decide +kernel
theorem hdl_X6_faces : yX6_faces.cls = RX6 ∧ yX6_faces.cls ≠ "java/lang/invoke/MethodHandle" ∧ yX6_faces.cls ≠ "java/lang/invoke/VarHandle" ∧ (parseMethodDescriptor yX6_faces.desc).map (fun d => d.parameters.length) = some 3 := by decide +kernel
theorem hdl_X5_keens : yX5_keens.cls = RX5 ∧ yX5_keens.cls ≠ "java/lang/invoke/MethodHandle" ∧ yX5_keens.cls ≠ "java/lang/invoke/VarHandle" ∧ (parseMethodDescriptor yX5_keens.desc).map (fun d => d.parameters.length) = some 3 := by decide +kernel
theorem hdl_X6_keens : yX6_keens.cls = RX6 ∧ yX6_keens.cls ≠ "java/lang/invoke/MethodHandle" ∧ yX6_keens.cls ≠ "java/lang/invoke/VarHandle" ∧ (parseMethodDescriptor yX6_keens.desc).map (fun d => d.parameters.length) = some 3 := by decide +kernel
theorem hdl_X5_burnt : yX5_burnt.cls = RX5 ∧ yX5_burnt.cls ≠ "java/lang/invoke/MethodHandle" ∧ yX5_burnt.cls ≠ "java/lang/invoke/VarHandle" ∧ (parseMethodDescriptor yX5_burnt.desc).map (fun d => d.parameters.length) = some 1 := by decide +kernel
theorem hdl_X6_burnt : yX6_burnt.cls = RX6 ∧ yX6_burnt.cls ≠ "java/lang/invoke/MethodHandle" ∧ yX6_burnt.cls ≠ "java/lang/invoke/VarHandle" ∧ (parseMethodDescriptor yX6_burnt.desc).map (fun d => d.parameters.length) = some 1 := by decide +kernel
theorem hdl_X5_laws : yX5_laws.cls = RX5 ∧ yX5_laws.cls ≠ "java/lang/invoke/MethodHandle" ∧ yX5_laws.cls ≠ "java/lang/invoke/VarHandle" ∧ (parseMethodDescriptor yX5_laws.desc).map (fun d => d.parameters.length) = some 1 := by decide +kernel
theorem hdl_X6_laws : yX6_laws.cls = RX6 ∧ yX6_laws.cls ≠ "java/lang/invoke/MethodHandle" ∧ yX6_laws.cls ≠ "java/lang/invoke/VarHandle" ∧ (parseMethodDescriptor yX6_laws.desc).map (fun d => d.parameters.length) = some 1 := by decide +kernel
theorem hdl_X5_film : yX5_film.cls = RX5 ∧ yX5_film.cls ≠ "java/lang/invoke/MethodHandle" ∧ yX5_film.cls ≠ "java/lang/invoke/VarHandle" ∧ (parseMethodDescriptor yX5_film.desc).map (fun d => d.parameters.length) = some 2 := by decide +kernel
theorem hdl_X6_film : yX6_film.cls = RX6 ∧ yX6_film.cls ≠ "java/lang/invoke/MethodHandle" ∧ yX6_film.cls ≠ "java/lang/invoke/VarHandle" ∧ (parseMethodDescriptor yX6_film.desc).map (fun d => d.parameters.length) = some 2 := by decide +kernel
theorem hdl_X5_drawn : yX5_drawn.cls = RX5 ∧ yX5_drawn.cls ≠ "java/lang/invoke/MethodHandle" ∧ yX5_drawn.cls ≠ "java/lang/invoke/VarHandle" ∧ (parseMethodDescriptor yX5_drawn.desc).map (fun d => d.parameters.length) = some 2 := by decide +kernel
theorem hdl_X6_drawn : yX6_drawn.cls = RX6 ∧ yX6_drawn.cls ≠ "java/lang/invoke/MethodHandle" ∧ yX6_drawn.cls ≠ "java/lang/invoke/VarHandle" ∧ (parseMethodDescriptor yX6_drawn.desc).map (fun d => d.parameters.length) = some 2 := by decide +kernel
theorem hdl_X5_odds : yX5_odds.cls = RX5 ∧ yX5_odds.cls ≠ "java/lang/invoke/MethodHandle" ∧ yX5_odds.cls ≠ "java/lang/invoke/VarHandle" ∧ (parseMethodDescriptor yX5_odds.desc).map (fun d => d.parameters.length) = some 4 := by decide +kernel
theorem hdl_X6_odds : yX6_odds.cls = RX6 ∧ yX6_odds.cls ≠ "java/lang/invoke/MethodHandle" ∧ yX6_odds.cls ≠ "java/lang/invoke/VarHandle" ∧ (parseMethodDescriptor yX6_odds.desc).map (fun d => d.parameters.length) = some 4 := by decide +kernel
theorem hdl_X5_image : yX5_image.cls = RX5 ∧ yX5_image.cls ≠ "java/lang/invoke/MethodHandle" ∧ yX5_image.cls ≠ "java/lang/invoke/VarHandle" ∧ (parseMethodDescriptor yX5_image.desc).map (fun d => d.parameters.length) = some 0 := by decide +kernel
theorem hdl_X6_image : yX6_image.cls = RX6 ∧ yX6_image.cls ≠ "java/lang/invoke/MethodHandle" ∧ yX6_image.cls ≠ "java/lang/invoke/VarHandle" ∧ (parseMethodDescriptor yX6_image.desc).map (fun d => d.parameters.length) = some 0 := by decide +kernel
theorem hdl_X5_back : yX5_back.cls = RX5 ∧ yX5_back.cls ≠ "java/lang/invoke/MethodHandle" ∧ yX5_back.cls ≠ "java/lang/invoke/VarHandle" ∧ (parseMethodDescriptor yX5_back.desc).map (fun d => d.parameters.length) = some 0 := by decide +kernel
theorem hdl_X6_back : yX6_back.cls = RX6 ∧ yX6_back.cls ≠ "java/lang/invoke/MethodHandle" ∧ yX6_back.cls ≠ "java/lang/invoke/VarHandle" ∧ (parseMethodDescriptor yX6_back.desc).map (fun d => d.parameters.length) = some 0 := by decide +kernel
theorem hdl_X5_sheet : yX5_sheet.cls = RX5 ∧ yX5_sheet.cls ≠ "java/lang/invoke/MethodHandle" ∧ yX5_sheet.cls ≠ "java/lang/invoke/VarHandle" ∧ (parseMethodDescriptor yX5_sheet.desc).map (fun d => d.parameters.length) = some 3 := by decide +kernel
theorem hdl_X6_sheet : yX6_sheet.cls = RX6 ∧ yX6_sheet.cls ≠ "java/lang/invoke/MethodHandle" ∧ yX6_sheet.cls ≠ "java/lang/invoke/VarHandle" ∧ (parseMethodDescriptor yX6_sheet.desc).map (fun d => d.parameters.length) = some 3 := by decide +kernel
theorem hdl_X5_cell : yX5_cell.cls = RX5 ∧ yX5_cell.cls ≠ "java/lang/invoke/MethodHandle" ∧ yX5_cell.cls ≠ "java/lang/invoke/VarHandle" ∧ (parseMethodDescriptor yX5_cell.desc).map (fun d => d.parameters.length) = some 3 := by decide +kernel
theorem hdl_X6_cell : yX6_cell.cls = RX6 ∧ yX6_cell.cls ≠ "java/lang/invoke/MethodHandle" ∧ yX6_cell.cls ≠ "java/lang/invoke/VarHandle" ∧ (parseMethodDescriptor yX6_cell.desc).map (fun d => d.parameters.length) = some 3 := by decide +kernel
theorem hdl_X5_copy : yX5_copy.cls = RX5 ∧ yX5_copy.cls ≠ "java/lang/invoke/MethodHandle" ∧ yX5_copy.cls ≠ "java/lang/invoke/VarHandle" ∧ (parseMethodDescriptor yX5_copy.desc).map (fun d => d.parameters.length) = some 5 := by decide +kernel
theorem hdl_X6_copy : yX6_copy.cls = RX6 ∧ yX6_copy.cls ≠ "java/lang/invoke/MethodHandle" ∧ yX6_copy.cls ≠ "java/lang/invoke/VarHandle" ∧ (parseMethodDescriptor yX6_copy.desc).map (fun d => d.parameters.length) = some 5 := by decide +kernel
theorem hdl_X5_witnessesBy : yX5_witnessesBy.cls = RX5 ∧ yX5_witnessesBy.cls ≠ "java/lang/invoke/MethodHandle" ∧ yX5_witnessesBy.cls ≠ "java/lang/invoke/VarHandle" ∧ (parseMethodDescriptor yX5_witnessesBy.desc).map (fun d => d.parameters.length) = some 4 := by decide +kernel
theorem hdl_X6_witnessesBy : yX6_witnessesBy.cls = RX6 ∧ yX6_witnessesBy.cls ≠ "java/lang/invoke/MethodHandle" ∧ yX6_witnessesBy.cls ≠ "java/lang/invoke/VarHandle" ∧ (parseMethodDescriptor yX6_witnessesBy.desc).map (fun d => d.parameters.length) = some 4 := by decide +kernel
theorem hdl_X5_taken : yX5_taken.cls = RX5 ∧ yX5_taken.cls ≠ "java/lang/invoke/MethodHandle" ∧ yX5_taken.cls ≠ "java/lang/invoke/VarHandle" ∧ (parseMethodDescriptor yX5_taken.desc).map (fun d => d.parameters.length) = some 2 := by decide +kernel
theorem hdl_X6_taken : yX6_taken.cls = RX6 ∧ yX6_taken.cls ≠ "java/lang/invoke/MethodHandle" ∧ yX6_taken.cls ≠ "java/lang/invoke/VarHandle" ∧ (parseMethodDescriptor yX6_taken.desc).map (fun d => d.parameters.length) = some 2 := by decide +kernel
