/-! THE CLAIM OUT OF ONE WALK OF THE LAW'S BODY. Your part is whole_start (and what it stands on); all else here is the same for every law, but numbers. -/
def R_law : String := "LeastPlacesLaw"
def lw_P (b : Addr) (xs : List Int32) (args : Array Value) (s : State) : Prop := args = #[.ref b] ∧ s.IntsAt b xs ∧ xs.length ≤ 2048 ∧ (Jvm.Cond.and given_1 narrow_1).before args s = true
def lw_Q (_ : Array Value) (s : State) (o : Outcome) (t : State) : Prop := o = .returned (some (.int 1)) ∧ Framed s o t [] 600000 7302250
def lw_Z (below : List Frame) (a : Array Value) (s : State) : State → Prop := fun t => ∃ o, t.status = .running ∧ Ended t below o ∧ lw_Q a s o t
/-- the law's own end, with 1 on the stack, nothing written that was there before, its room as the claim has it -/
theorem lw_ret {p : Program} {l : Launch} {e : Env} {s : State} {m : MethodId} {below : List Frame} {meth : Method} {c : Code} {b : Nat} (hx : p.tables.exec = Jvm.exec) (hb : c.code = code) (hr : meth.sig.returnType = ret) (hlocks : meth.locks = false) {pc : Nat} {H : Heap} {ls : Array Slot} (hdg : decode code pc = .ok (.ireturn, 1)) : W p l e room_1 s m #[Value.ref b] below meth c H [] 600000 7302250 (lw_Z below #[Value.ref b] s) (F0 m pc ls [.int 1]) := by
  intro T hT X
  obtain ⟨fs, hret, hrun, hended, hW, hframe⟩ := X.leave (v := some (.int 1)) (hlocks := hlocks) (fun h => by rw [hr] at h; cases h)
  have hmeth' : T.vm.method? m = some meth := X.method'
  refine ⟨T.setFrames fs, ?_, .returned (some (.int 1)), hrun, hended, rfl, ⟨_, rfl⟩, hW, hframe⟩
  jvm_step X.here [X.here.top, hx, hb, hdg, hmeth', hr, ret, narrow_b1]
  (try refine ⟨rfl, ?_⟩); (try refine ⟨rfl, ?_⟩)
  first | (intro acts; rw [hret _ acts rfl rfl rfl]) | rw [hret _ _ rfl rfl rfl]
  exact Steps.refl _
/-- what holds at the law's entry: the machine, the code, the tables' words (any of lw_tbl by 'hts w (by decide +kernel)'), the script of L ints xs at the cell b, what the Statement gives of the start (any of its parts by flat_of_before) -/
def lw_At (p : Program) (s : State) (m : MethodId) (meth : Method) (c : Code) (b L : Nat) (xs : Nat → Int32) : Prop :=
  p.tables.exec = Jvm.exec ∧ c.code = code ∧ meth.sig.returnType = ret ∧ c.maxLocals = 4 ∧ s.vm.findClass R_law = some m.cls ∧ (∀ w ∈ lw_tbl, w.before #[Value.ref b] s = true) ∧ va_X b L xs s s.heap ∧ b < s.heap.size ∧ meth.locks = false ∧ (Jvm.Cond.and given_1 narrow_1).before #[Value.ref b] s = true
/-! rows of the law's walk -/
def CL (p : Program) (s : State) (m : MethodId) (args : Array Value) (meth : Method) (c : Code) (G : GT) (b L : Nat) (xs : Nat → Int32) : Prop :=
  p.tables.exec = Jvm.exec ∧ c.code = cL_law ∧ c.maxLocals = 4 ∧ s.vm.findClass RL = some m.cls ∧ (∀ w ∈ TBLG, w.before args s = true) ∧ Kx G s ∧ va_X b L xs s s.heap ∧ b < s.heap.size ∧ s.heap.size = G.2
section LR
variable {p : Program} {l : Launch} {e : Env} {s : State} {m : MethodId} {args : Array Value} {below : List Frame} {meth : Method} {c : Code} {H : Heap} {locs : List Loc} {cells slots : Nat} {Q : State → Prop} {G : GT} {pc b L : Nat} {xs : Nat → Int32} {ls : Array Slot} {rest : List Value} {M M1 : Mem}
theorem L_call (C0 : CL p s m args meth c G b L xs) (hR : Rep G M H) (hS : va_S (fun q => G.2 ≤ q) s.heap H locs) {y : MethodName} {bytes : ByteArray} {maxL index h2 a ci N : Nat} (n : Nat) {C : String} {T : u_T} {av : List Value} {v : Int32} {st0 : List Value} (hM : MC l G y bytes maxL (some .int) h2 (.ref (G.2 + a) :: av) M (vI v) M1) (hc : vwCl[ci]? = some (C, T, N)) (hci : ci < 10) (hsh : sh a = (ci, N)) (hw : Cond.methodLink RL index y ∈ TBLG) (hi : Cond.instanceMethod y ∈ TBLG) (hs : Cond.selects C y y ∈ TBLG) (hini : Cond.initialized C ∈ TBLG) (hcode : Cond.code y bytes maxL (some .int) ∈ TBLG) (hd : y.cls = C ∧ y.cls ≠ "java/lang/invoke/MethodHandle" ∧ y.cls ≠ "java/lang/invoke/VarHandle" ∧ (parseMethodDescriptor y.desc).map (fun d => d.parameters.length) = some n) (hh : h2 ≤ 310 ∧ maxL ≤ 20) (hn : av.length = n) (hls : ls.size = 4) (hst : (rest.map fun v => v.category).sum ≤ 8) (hst0 : st0 = av.reverse ++ .ref (G.2 + a) :: rest) (hdg : decode cL_law pc = .ok (.invokevirtual index, 3)) (hf : cells ≤ 600000 ∧ slots ≤ 7302250)
    (kk : ∀ (H1 : Heap) (locs1 : List Loc), Rep G M1 H1 → va_S (fun q => G.2 ≤ q) s.heap H1 locs1 → W p l e room_1 s m args below meth c H1 locs1 cells slots Q (F0 m (pc + 3) ls (.int v :: rest))) : W p l e room_1 s m args below meth c H locs cells slots Q (F0 m pc ls st0) := by
  obtain ⟨hx, hb, hml, hown, hts, hK, hX, hbl, hsz⟩ := C0
  have hw4 : ∀ w ∈ ([.methodLink RL index y, .instanceMethod y, .selects C y y, .initialized C] : List Cond), w ∈ TBLG := List.forall_mem_cons.mpr ⟨hw, List.forall_mem_cons.mpr ⟨hi, List.forall_mem_cons.mpr ⟨hs, List.forall_mem_cons.mpr ⟨hini, fun _ h => absurd h List.not_mem_nil⟩⟩⟩⟩
  exact V_run (va_runV (As := av) (rest := rest) (C := C) ⟨hx, hb, hml, hown, hts⟩ hM (cwV (R := room_1) n hts (ws_app hw4 (ws_in hcode)) rfl rfl rfl hd ⟨by show h2 + 1 ≤ 2048; omega, by show 8 + (maxL + 11) + 40 * h2 ≤ 84000; omega⟩) (PV.preV hc hci hsh hK hR) rfl hn hls hst0 (lv_room hst) hdg ⟨hf.1, hf.2⟩) hS kk
theorem lin {k j L : Nat} (h : 4 * k + j < L) (hL : L ≤ 2048) : vp_in (nI (4 * k) + nI j) L := by
  rw [nI_add]
  exact vp_in_nI h (by omega)
end LR
