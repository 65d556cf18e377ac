/-! the law from its entry: the object is made, then the law's own rows -/
section LS
variable {p : Program} {l : Launch} {e : Env} {s : State} {m : MethodId} {args : Array Value} {below : List Frame} {meth : Method} {c : Code} {H : Heap} {locs : List Loc} {cells slots : Nat} {Q : State → Prop} {G : GT} {pc n : Nat} {ls : Array Slot} {rest : List Value} {f : Nat → va_E}
theorem L_new (hx : p.tables.exec = Jvm.exec) (hb : c.code = cL_law) (hown : s.vm.findClass RL = some m.cls) (hts : ∀ w ∈ TBLG, w.before args s = true) (hK : KxB G s) (hz : H.size = G.2 + n) (hP : BW G n f H) (hS : va_S (fun q => G.2 ≤ q) s.heap H locs) {C : String} {T : u_T} {N ci index : Nat} (hin : ∀ w ∈ u_ws C T N, w ∈ TBLG) (ty : Nat → FieldType) (hty : ∀ k, k < N → parseFieldDescriptor (T k).2.2.1 = some (ty k)) (hcl : Cond.classLink RL index C ∈ TBLG) (hinst : Cond.instantiable C N ∈ TBLG) (hini : Cond.initialized C ∈ TBLG) (hc : vwCl[ci]? = some (C, T, N)) (fs : List Value) (hfs : ∀ j, j < N → defaultValue (ty j) = vp_V fs j) (hcells : cells + 1 ≤ 545410) (hslots : slots + N ≤ 7466020) (hdg : decode cL_law pc = .ok (.new index, 3))
    (kk : ∀ H1, H1.size = G.2 + (n + 1) → BW G (n + 1) (fup f n (.inr (ci, fs))) H1 → va_S (fun q => G.2 ≤ q) s.heap H1 locs → W p l e room_1 s m args below meth c H1 locs (cells + 1) (slots + N) Q (F0 m (pc + 3) ls (.ref (G.2 + n) :: rest))) : W p l e room_1 s m args below meth c H locs cells slots Q (F0 m pc ls rest) := by
  have hKn := hK.1.1.1 ci _ hc
  refine W.newcK hx hb hown (hts _ hcl) (hts _ hinst) (hts _ hini) rfl hdg hcells hslots hKn.2.1 hz fun H1 kC hkC e1 z1 o1 => ?_
  refine kk H1 (by rw [z1]; rfl) ?_ ⟨by rw [z1, ← hz]; exact Nat.le_succ_of_le hS.1, fun x h1 h2 => (o1 x (by rw [← hz]; exact Nat.lt_of_lt_of_le h1 hS.1)).trans (hS.2.1 x h1 h2), hS.2.2⟩
  rw [BW, bld_push]
  refine va_P.app (va_P.kept hP fun k x hx => o1 x.1 (by rw [← hz]; exact (hP k x hx).lt)) fun k x hx => ?_
  have hk : k < 1 := (List.getElem?_eq_some_iff.mp hx).1
  rw [show k = 0 by omega] at hx
  cases hx
  exact ⟨_, hc, (u_born ty hts hin hKn hkC e1 hty).to hfs⟩
theorem L_ctor (hx : p.tables.exec = Jvm.exec) (hb : c.code = cL_law) (hml : c.maxLocals = 10) (hown : s.vm.findClass RL = some m.cls) (hts : ∀ w ∈ TBLG, w.before args s = true) (hK : KxB G s) (hz : H.size = G.2 + n) (hP : BW G n f H) (hS : va_S (fun q => G.2 ≤ q) s.heap H locs) {y : MethodName} {bytes : ByteArray} {maxL index h2 mc2 ms2 a : Nat} {f' : Nat → va_E} (hM : MI l G y bytes maxL h2 mc2 ms2 [.ref (G.2 + a)] n f f') (hh : h2 ≤ 310 ∧ maxL ≤ 20) (hcode : Cond.code y bytes maxL none ∈ TBLG) (hw : Cond.methodLink RL index y ∈ TBLG) (hini : Cond.initialized y.cls ∈ TBLG) (hinst : Cond.instanceMethod y ∈ TBLG) (hname : y.name = "<init>") (hd : y.cls ≠ "java/lang/invoke/MethodHandle" ∧ y.cls ≠ "java/lang/invoke/VarHandle" ∧ (parseMethodDescriptor y.desc).map (fun d => d.parameters.length) = some 0) (hls : ls.size = 10) (hst : (rest.map fun v => v.category).sum ≤ 8) (hc1 : cells + mc2 ≤ 545410) (hc2 : slots + ms2 ≤ 7466020) (hdg : decode cL_law pc = .ok (.invokespecial index, 3))
    (kk : ∀ (H1 : Heap) (locs1 : List Loc), BW G (n + mc2) f' H1 → va_S (fun q => G.2 ≤ q) s.heap H1 locs1 → W p l e room_1 s m args below meth c H1 locs1 (cells + mc2) (slots + ms2) Q (F0 m (pc + 3) ls rest)) : W p l e room_1 s m args below meth c H locs cells slots Q (F0 m pc ls (.ref (G.2 + a) :: rest)) := by
  refine B_back (va_runI (As := []) (rest := rest) ⟨hx, hb, hml, hown, hts⟩ hM (cwI (R := room_1) 0 hts (ws_in hcode) rfl rfl rfl (hts _ hini) (hts _ hw) (hts _ hinst) hname hd ⟨by show h2 + 1 ≤ 2048; omega, by show 8 + (maxL + 11) + 40 * h2 ≤ 84000; omega⟩) (PVB.pre hK hz hP) rfl rfl hls rfl (lv_room hst) hdg ⟨hc1, hc2⟩) hS kk
end LS
theorem arr_i {s : State} {A : Array Value} {ty : FieldType} (h : (Cond.arrayClass ty).before A s = true) (hty : ∀ C, ty ≠ .object C) : ∃ cA : ClassId, ArrOfT s cA ty ∧ va_RA s cA ty := by
  obtain ⟨cA, kA, comp, h1, h2, h3⟩ := Cond.arrayClass_spec h
  refine ⟨cA, fun n z => ⟨fun k h => (by cases h), kA, h2, comp, h3⟩, ?_⟩
  cases ty with
  | object C => exact absurd rfl (hty C)
  | _ => exact h1
theorem arr_q {s : State} {C : String} (h : va_AO C s) : ∃ cA : ClassId, ArrOfT s cA (.object C) ∧ va_RA s cA (.object C) := by
  obtain ⟨comp, cA, kA, h1, -, h3, h4, h5⟩ := Cond.arrayOver_spec h
  exact ⟨cA, fun n z => ⟨fun k h => (by cases h), kA, h3, comp, h4⟩, kA, comp, h3, h4, h1, h5⟩
/-- the worlds that the tables tell of -/
theorem law_world {s : State} {A : Array Value} (hts : ∀ w ∈ lw_tbl, w.before A s = true) : ∃ G : GT, G.2 = s.heap.size ∧ KxB G s := by
  have hT : ∀ w ∈ TBLG, w.before A s = true := fun w h => hts w (tblg_in h)
  have a1 : va_AO RX1 s := va_AO.of (hts (.arrayOver (.object RX1)) (List.mem_of_getElem? (i := 77) (by decide +kernel)))
  have a4 : va_AO RX4 s := va_AO.of (hts (.arrayOver (.object RX4)) (List.mem_of_getElem? (i := 138) (by decide +kernel)))
  have a0 : va_AO RX0 s := va_AO.of (hts (.arrayOver (.object RX0)) (List.mem_of_getElem? (i := 140) (by decide +kernel)))
  obtain ⟨c0, i0, k0⟩ := u_known (C := RX0) (T := TX0) (N := 7) (n := 7) hT inG_X0 (hT _ xn0)
  obtain ⟨c1, i1, k1⟩ := u_known (C := RX1) (T := TX1) (N := 3) (n := 3) hT inG_X1 (hT _ xn1)
  obtain ⟨c2, i2, k2⟩ := u_known (C := RX2) (T := TX2) (N := 10) (n := 10) hT inG_X2 (hT _ xn2)
  obtain ⟨c3, i3, k3⟩ := u_known (C := RX3) (T := TX3) (N := 4) (n := 4) hT inG_X3 (hT _ xn3)
  obtain ⟨c4, i4, k4⟩ := u_known (C := RX4) (T := TX4) (N := 4) (n := 4) hT inG_X4 (hT _ xn4)
  obtain ⟨c5, i5, k5⟩ := u_known (C := RX5) (T := TX5) (N := 3) (n := 3) hT inG_X5 (hT _ xn5)
  obtain ⟨c6, i6, k6⟩ := u_known (C := RX6) (T := TX6) (N := 7) (n := 7) hT inG_X6 (hT _ xn6)
  obtain ⟨d0, g0⟩ := arr_i (hT _ xa_i) (fun C h => by cases h)
  obtain ⟨d2, g2⟩ := arr_q a1
  obtain ⟨d3, g3⟩ := arr_q a4
  obtain ⟨d4, g4⟩ := arr_q a0
  refine ⟨((((fun k => match k with | 0 => c0 | 1 => c1 | 2 => c2 | 3 => c3 | 4 => c4 | 5 => c5 | _ => c6), (fun k => match k with | 0 => i0 | 1 => i1 | 2 => i2 | 3 => i3 | 4 => i4 | 5 => i5 | _ => i6)), fun k => match k with | 0 => d0 | 1 => d0 | 2 => d2 | 3 => d3 | _ => d4), s.heap.size), rfl, ⟨⟨fun k q hk => ?_, fun k q hk => ?_⟩, fun w h => va_Nw.of (nwl_on h) (hts w (List.mem_filter.mp h).1)⟩, a1, a4, a0⟩
  · match k, hk with
    | 0, hk => cases hk; exact k0
    | 1, hk => cases hk; exact k1
    | 2, hk => cases hk; exact k2
    | 3, hk => cases hk; exact k3
    | 4, hk => cases hk; exact k4
    | 5, hk => cases hk; exact k5
    | 6, hk => cases hk; exact k6
    | k + 7, hk => cases hk
  · match k, hk with
    | 0, hk => cases hk; exact g0
    | 1, hk => cases hk; exact g0
    | 2, hk => cases hk; exact g2
    | 3, hk => cases hk; exact g3
    | 4, hk => cases hk; exact g4
    | k + 5, hk => cases hk
/-- what is left to show: the law's own function answers 1, in the room that there is -/
def LawOK : Prop := ∀ (L : Nat) (xs : Nat → Int32), ∃ M', f_L_law L xs M0 = some (1, M') ∧ M'.2 5 ≤ 545410 ∧ M'.2 6 ≤ 7466020
set_option maxHeartbeats 4000000 in
theorem whole_open (hLaw : LawOK) {p : Program} {e : Env} {s : State} {m : MethodId} {below : List Frame} {meth : Method} {c : Code} (l : Launch) (hflags : l.flags = flags0) {b L : Nat} {xs : Nat → Int32} (hL : L ≤ 260) (C0 : lw_At p s m meth c b L xs) : W p l e room_1 s m #[Value.ref b] below meth c s.heap [] 0 0 (lw_Z below #[Value.ref b] s) (entryFrame m ([Value.ref b] : List Value).toArray 10) := by
  obtain ⟨hx, hb, hr, hml, hown, hts, hX, hbl, hlocks, hgv⟩ := id C0
  have hT : ∀ w ∈ TBLG, w.before #[Value.ref b] s = true := fun w h => hts w (tblg_in h)
  obtain ⟨G, hG, hK⟩ := law_world hts
  have hS : va_S (fun q => G.2 ≤ q) s.heap s.heap [] := va_S.rf
  have hP : BW G 0 (fun _ => .inr (0, [])) s.heap := fun k q hk => by simp [bld] at hk
  have hl := lv_entry ([.ref b]) (n := 10) (Nat.le_of_ble_eq_true rfl)
  rw [lg_entry_eq]
  generalize (lg_sl ([.ref b]) ++ List.replicate (10 - (lg_sl ([.ref b])).length) Slot.unset).toArray = ls at hl ⊢
  have hl : lv_has ls 10 [(0, .ref b)] := hl
  refine L_new hx hb hown hT hK (n := 0) hG.symm hP hS inG_X6 tyX6 tyX6_ok xlL_30 xn6 w0X6 (ci := 6) rfl [.null, .null, .null, .int 0, .null, .null, .null] (by decide) (Nat.le_of_ble_eq_true rfl) (Nat.le_of_ble_eq_true rfl) dL_law_0 (fun H hz hP hS => ?_)
  refine lv_dup hx hb dL_law_3 rfl ?_
  refine L_ctor hx hb hml hown hT hK hz hP hS (mi_X6 fup_eq) ⟨by omega, by omega⟩ xcX6 wmL_104 w0X6 xiX6 rfl (by decide +kernel) hl.1 (Nat.le_of_ble_eq_true rfl) (Nat.le_of_ble_eq_true rfl) (Nat.le_of_ble_eq_true rfl) dL_law_4 (fun H locs hP hS => ?_)
  refine lv_astore_n (lv' := [(1, .ref (G.2 + 0)), (0, .ref b)]) hx hb dL_law_7 rfl hl (by decide) rfl (fun ls hl => ?_)
  have hP : BW G 208 (En G) H := hP.cg fun c _ => by rw [cE_ge (Nat.zero_le _)]
  have hR : Rep G M0 H := ⟨hP, by decide +kernel, by decide +kernel⟩
  obtain ⟨M', h1, h2, h3⟩ := hLaw L xs
  have hU := ((u_f_L_law (X := (p, l, e, s, m, #[Value.ref b], below, meth, c)) (G := G) (Z := (307, 0, 0, 545410, 7466020, room_1)) (Nat.le_refl _) (b := b) ⟨rfl, hX, hbl, hG.symm, rfl, hL⟩ M0) 1 M' h1).2 ⟨hx, hb, hml, hown, hT, hK.1, hr, hlocks, hG.symm, ⟨rfl, rfl⟩, Nat.le_of_ble_eq_true rfl, Nat.le_of_ble_eq_true rfl⟩ H locs ls hl hR hS ⟨Nat.zero_le _, Nat.zero_le _, h2, h3⟩
  intro T hT2 X
  obtain ⟨t, a, b⟩ := hU T hT2 X
  exact ⟨t, a, b rfl⟩
