/-! THE CLAIM OUT OF ONE WALK OF THE LAW'S BODY. Your part is whole_start (and what it stands on); all else here is the same for every law, but numbers. -/
def R_law : String := "LeastPlacesLaw"
def lw_P (b : Addr) (xs : List Int32) (args : Array Value) (s : State) : Prop := args = #[.ref b] ∧ s.IntsAt b xs ∧ xs.length ≤ 260 ∧ (Jvm.Cond.and given_1 narrow_1).before args s = true
def lw_Q (_ : Array Value) (s : State) (o : Outcome) (t : State) : Prop := o = .returned (some (.int 1)) ∧ Framed s o t [] 545410 7466020
def lw_Z (below : List Frame) (a : Array Value) (s : State) : State → Prop := fun t => ∃ o, t.status = .running ∧ Ended t below o ∧ lw_Q a s o t
/-- the law's own end, with 1 on the stack, nothing written that was there before, its room as the claim has it -/
theorem lw_ret {p : Program} {l : Launch} {e : Env} {s : State} {m : MethodId} {below : List Frame} {meth : Method} {c : Code} {b : Nat} (hx : p.tables.exec = Jvm.exec) (hb : c.code = code) (hr : meth.sig.returnType = ret) (hlocks : meth.locks = false) {pc : Nat} {H : Heap} {ls : Array Slot} (hdg : decode code pc = .ok (.ireturn, 1)) : W p l e room_1 s m #[Value.ref b] below meth c H [] 545410 7466020 (lw_Z below #[Value.ref b] s) (F0 m pc ls [.int 1]) := by
  intro T hT X
  obtain ⟨fs, hret, hrun, hended, hW, hframe⟩ := X.leave (v := some (.int 1)) (hlocks := hlocks) (fun h => by rw [hr] at h; cases h)
  have hmeth' : T.vm.method? m = some meth := X.method'
  refine ⟨T.setFrames fs, ?_, .returned (some (.int 1)), hrun, hended, rfl, ⟨_, rfl⟩, hW, hframe⟩
  jvm_step X.here [X.here.top, hx, hb, hdg, hmeth', hr, ret, narrow_b1]
  (try refine ⟨rfl, ?_⟩); (try refine ⟨rfl, ?_⟩)
  first | (intro acts; rw [hret _ acts rfl rfl rfl]) | rw [hret _ _ rfl rfl rfl]
  exact Steps.refl _
/-- what holds at the law's entry: the machine, the code, the tables' words (any of lw_tbl by 'hts w (by decide +kernel)'), the script of L ints xs at the cell b, what the Statement gives of the start (any of its parts by flat_of_before) -/
def lw_At (p : Program) (s : State) (m : MethodId) (meth : Method) (c : Code) (b L : Nat) (xs : Nat → Int32) : Prop :=
  p.tables.exec = Jvm.exec ∧ c.code = code ∧ meth.sig.returnType = ret ∧ c.maxLocals = 10 ∧ s.vm.findClass R_law = some m.cls ∧ (∀ w ∈ lw_tbl, w.before #[Value.ref b] s = true) ∧ va_X b L xs s s.heap ∧ b < s.heap.size ∧ meth.locks = false ∧ (Jvm.Cond.and given_1 narrow_1).before #[Value.ref b] s = true
/-! rows of the law's own walk: its script, its end -/
def scr (L : Nat) (xs : Nat → Int32) (k : Int32) : Int32 := if Int32.ofNat L ≤ k then 40503 * (k + 3) else xs (ix k)
def ScrOK (X : XT) (G : GT) (Z : ZT) (b L : Nat) (xs : Nat → Int32) : Prop :=
  match X with
  | (_, _, _, s, _, args, _, _, _) => args = #[Value.ref b] ∧ va_X b L xs s s.heap ∧ b < s.heap.size ∧ s.heap.size = G.2 ∧ Z = (Z.1, 0, 0, 545410, 7466020, room_1) ∧ L ≤ 260
def QLW (X : XT) (r : Int32) (_ : Mem) : State → Prop :=
  match X with
  | (_, _, _, s, _, args, below, _, _) => fun t => r = 1 → lw_Z below args s t
def PVS (G : GT) (b L : Nat) (xs : Nat → Int32) (av : List Value) (M : Mem) : Array Value → State → Prop := va_Pc av (fun U => Kx G U ∧ Rep G M U.heap ∧ va_X b L xs U U.heap ∧ b < G.2)
theorem PVS.blind {G : GT} {b L : Nat} {xs : Nat → Int32} {av : List Value} {M : Mem} : FrameBlind (PVS G b L xs av M) := fun _ U _ _ q => ⟨q.1, q.2.1.call, q.2.2.1, va_X.moved (u := U) (Vm.Alike.refl U.vm) q.2.2.2.1, q.2.2.2.2⟩
set_option maxHeartbeats 1000000 in
theorem mc_cell {l : Launch} {G : GT} {b L : Nat} {xs : Nat → Int32} {M : Mem} {k : Int32} (hk : ¬ k < 0) (hL : L ≤ 260) : Met l yL_cell (WS yL_cell cL_cell 2 (some .int)) (rm 0) (PVS G b L xs [.ref b, .int k] M) (QV G (vI (scr L xs k)) M) 0 0 (fun q => G.2 ≤ q) := by
  refine Met.ofW (cc := cL_cell) (maxL := 2) (ret := some .int) (ws' := TBLG) (by decide +kernel) rfl ?_
  intro p e s m args below meth c s₁ B hml hv
  obtain ⟨rfl, hK, hP, hX, hbG⟩ := hv
  have hx := B.exec
  have hb := B.bytes
  have hr := B.returns
  have hts : ∀ w ∈ WS yL_cell cL_cell 2 (some .int), w.before _ s = true := atoms_spec (ws := WS yL_cell cL_cell 2 (some .int)) B.pre
  have hw : s.vm.findClass RL = some m.cls := findClass_of_methodNamed B.named
  have hlocks := B.notSynchronized
  have hl := lv_entry [.ref b, .int k] (n := 2) (Nat.le_of_ble_eq_true rfl)
  rw [lg_entry_eq]
  generalize (lg_sl [.ref b, .int k] ++ List.replicate (2 - (lg_sl [.ref b, .int k]).length) Slot.unset).toArray = ls at hl ⊢
  have hl : lv_has ls 2 [(0, .ref b), (1, .int k)] := hl
  have hS : va_S (fun q => G.2 ≤ q) s.heap s.heap [] := va_S.rf
  have hbA : ¬ (fun q : Nat => G.2 ≤ q) b := Nat.not_le.mpr hbG
  have hbl : b < s.heap.size := by
    obtain ⟨sc, h1, -⟩ := hX
    exact (Array.getElem?_eq_some_iff.mp h1).1
  have fin : ∀ v : Int32, v = scr L xs k → W p l e (rm 0) s m [Value.ref b, Value.int k].toArray below meth c s.heap [] 0 0 (MQ below (QV G (vI (scr L xs k)) M) [Value.ref b, Value.int k].toArray s 0 0 (fun q => G.2 ≤ q)) (F0 m 18 ls [.int v]) := by
    intro v hv
    subst hv
    exact W.iret hx hb hr (fun t ht hW => ⟨rfl, by rw [ht]; exact hP, hS.F ht⟩) hS.2.2 dL_cell_18 (hlocks := hlocks)
  refine lv_iload_n hx hb dL_cell_0 rfl (lv_at hl 1 rfl) ?_
  refine lv_aload_n hx hb dL_cell_1 rfl (lv_at hl 0 rfl) ?_
  refine va_slen hx hb hX hbl hbA hS dL_cell_2 ?_
  refine lv_icmp_ge (tgt := 12) hx hb dL_cell_3 (by decide) (fun c1 => ?_) (fun c1 => ?_)
  · refine lv_ldc (v := 40503) hx hb hw (hts _ (List.mem_cons_of_mem _ wkL_7)) dL_cell_12 ?_
    refine lv_iload_n hx hb dL_cell_14 rfl (lv_at hl 1 rfl) ?_
    refine lv_iconst (v := 3) hx hb dL_cell_15 (by decide) ?_
    refine lv_iadd hx hb dL_cell_16 ?_
    refine lv_imul hx hb dL_cell_17 ?_
    exact fin _ (by rw [scr, if_pos c1])
  · refine lv_aload_n hx hb dL_cell_6 rfl (lv_at hl 0 rfl) ?_
    refine lv_iload_n hx hb dL_cell_7 rfl (lv_at hl 1 rfl) ?_
    have hin : vp_in k L := by
      obtain ⟨j, rfl, hj⟩ := nonneg_nI hk
      rintro (q | q)
      · exact hk q
      · rw [nI_clamp hj] at q
        exact c1 (show nI L ≤ nI j from nI_le q hj)
    refine va_sld hx hb hX hbl hbA hS hin dL_cell_8 ?_
    refine lv_goto (tgt := 18) hx hb dL_cell_9 (by decide) ?_
    exact fin _ (by rw [scr, if_neg c1])
section LW
variable {X : XT} {G : GT} {Z : ZT} {Q : Int32 → Mem → State → Prop} {nL pc : Nat} {lv : List (Nat × Value)} {st : List Value} {M : Mem} {o : Option (Int32 × Mem)} {b L : Nat} {xs : Nat → Int32}
theorem U_cell (hSc : ScrOK X G Z b L xs) (hZ : 1 ≤ Z.1) {k : Int32} (hst : (st.map fun v => v.category).sum ≤ 8) (hdg : decode cL_law pc = .ok (.invokestatic 109, 3)) (kk : U X G Z cL_law (some .boolean) Q nL (pc + 3) lv (.int (scr L xs k) :: st) M o) : U X G Z cL_law (some .boolean) Q nL pc lv (.int k :: .ref b :: st) M (gd (!(decide (k < 0))) o) := by
  refine U_gd fun hk => ?_
  have hk : ¬ k < 0 := by simpa using hk
  obtain ⟨p, l, e, s, m, args, below, meth, c⟩ := X
  obtain ⟨rfl, hX, hbl, hsz, hZ2, hL⟩ := hSc
  intro r M' ho
  refine ⟨(kk r M' ho).1, fun C0 H locs ls hL2 hP hS hN => ?_⟩
  have hk2 := (kk r M' ho).2 C0
  obtain ⟨hx, hb, hml, hown, hts, hK, hr, hlk, hs0, hR, hfr, hlo⟩ := C0
  have hw : ∀ w ∈ ([.methodLink RL 109 yL_cell, .static yL_cell, .initialized RL] : List Cond), w ∈ TBLG := List.forall_mem_cons.mpr ⟨wmL_109, List.forall_mem_cons.mpr ⟨wsL_cell, List.forall_mem_cons.mpr ⟨w0L, fun _ h => absurd h List.not_mem_nil⟩⟩⟩
  have hp : PreS s H (PVS G b L xs [.ref b, .int k] M) [.ref b, .int k] := ⟨PVS.blind, fun U hU hW => ⟨rfl, hK.warm hW, by rw [hU]; exact hP, by
    rw [hU]
    exact va_X.moved hW.alike (va_X.kept hX (hS.2.1 b hbl (by rw [hsz] at hbl; exact Nat.not_le.mpr hbl))), by rw [← hsz]; exact hbl⟩⟩
  exact V_run (va_runS (As := [.ref b, .int k]) (rest := st) ⟨hx, hb, hml, hown, hts⟩ (mc_cell hk hL) (cwS (R := Z.2.2.2.2.2) 2 hts (ws_app hw (ws_in wcL_cell)) rfl rfl rfl (by decide +kernel) ⟨by show 0 + 1 ≤ _; omega, by show 8 + (2 + 11) + 40 * 0 ≤ _; omega⟩) hp rfl rfl hL2.1 rfl (lv_room hst) hdg ⟨by rw [hR.1]; have := (kk r M' ho).1; omega, by rw [hR.2]; have := (kk r M' ho).1; omega⟩) hS (fun H1 locs1 hR1 hS1 => hk2 H1 locs1 ls hL2 hR1 hS1 hN)
theorem U_lret (hSc : ScrOK X G Z b L xs) {v : Int32} (hdg : decode cL_law pc = .ok (.ireturn, 1)) : U X G Z cL_law (some .boolean) (QLW X) nL pc lv [.int v] M (some (v, M)) := by
  obtain ⟨p, l, e, s, m, args, below, meth, c⟩ := X
  obtain ⟨rfl, hX, hbl, hsz, hZ2, hL⟩ := hSc
  intro r M' ho
  cases ho
  refine ⟨⟨Nat.le_refl _, Nat.le_refl _⟩, fun C0 H locs ls hL2 hP hS hN => ?_⟩
  by_cases h1 : v = 1
  · subst h1
    have hW : W p l e Z.2.2.2.2.2 s m #[Value.ref b] below meth c H locs (M.2 5 - Z.2.1) (M.2 6 - Z.2.2.1) (lw_Z below #[Value.ref b] s) (F0 m pc ls [.int 1]) := by
      rw [hZ2] at hN ⊢
      refine va_forget (fun q hq => by rw [hsz]; exact hS.2.2 q hq) ?_
      have h5 : M.2 5 ≤ 545410 := hN.2.2.1
      have h6 : M.2 6 ≤ 7466020 := hN.2.2.2
      refine W.widen (show M.2 5 - 0 ≤ 545410 from by omega) (show M.2 6 - 0 ≤ 7466020 from by omega) ?_
      exact lw_ret C0.1 C0.2.1 C0.2.2.2.2.2.2.1 C0.2.2.2.2.2.2.2.1 hdg
    intro T hT X
    obtain ⟨t, a, b⟩ := hW T hT X
    exact ⟨t, a, fun _ => b⟩
  · intro T hT X
    exact ⟨_, Steps.refl _, fun q => absurd q h1⟩
end LW
