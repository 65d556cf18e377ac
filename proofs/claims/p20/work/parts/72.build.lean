/-! the heap while it is built: n cells from the law's entry on, as f says of each -/
def bld (b n : Nat) (f : Nat → va_E) : va_W := (List.range n).map (fun a => (b + a, f a))
theorem bld_at {b n a : Nat} {f : Nat → va_E} (h : a < n) : (bld b n f)[a]? = some (b + a, f a) := by simp [bld, h]
theorem bld_len {b n : Nat} {f : Nat → va_E} : (bld b n f).length = n := by simp [bld]
theorem bld_inv {b n k : Nat} {f : Nat → va_E} {q : Nat × va_E} (h : (bld b n f)[k]? = some q) : q = (b + k, f k) ∧ k < n := by
  have hk : k < n := by
    have := (List.getElem?_eq_some_iff.mp h).1
    rwa [bld_len] at this
  rw [bld_at hk] at h
  exact ⟨(Option.some.inj h).symm, hk⟩
theorem bld_D {b n : Nat} {f : Nat → va_E} : va_D (fun q => b ≤ q) (bld b n f) := by
  refine ⟨fun i j p q hi hj hpq => ?_, fun k q hk => ?_⟩
  · obtain ⟨rfl, -⟩ := bld_inv hi
    obtain ⟨rfl, -⟩ := bld_inv hj
    have : b + i = b + j := hpq
    omega
  · obtain ⟨rfl, -⟩ := bld_inv hk
    exact Nat.le_add_right _ _
def fup (f : Nat → va_E) (a : Nat) (e : va_E) : Nat → va_E := fun c => if c = a then e else f c
theorem fup_eq {f : Nat → va_E} {a : Nat} {e : va_E} : fup f a e a = e := if_pos rfl
theorem fup_ne {f : Nat → va_E} {a c : Nat} {e : va_E} (h : c ≠ a) : fup f a e c = f c := if_neg h
theorem bld_cg {b n : Nat} {f g : Nat → va_E} (h : ∀ c, c < n → g c = f c) : bld b n g = bld b n f := List.map_congr_left (fun c hc => by rw [h c (List.mem_range.mp hc)])
theorem bld_set {b n a : Nat} {f : Nat → va_E} {e : va_E} (ha : a < n) : (bld b n f).set a (b + a, e) = bld b n (fup f a e) := by
  apply List.ext_getElem?
  intro k
  by_cases hk : k = a
  · subst hk
    rw [List.getElem?_set_self (by rw [bld_len]; exact ha), bld_at ha, fup_eq]
  · rw [List.getElem?_set_ne (Ne.symm hk)]
    by_cases hl : k < n
    · rw [bld_at hl, bld_at hl, fup_ne hk]
    · rw [List.getElem?_eq_none (by rw [bld_len]; omega), List.getElem?_eq_none (by rw [bld_len]; omega)]
theorem bld_push {b n : Nat} {f : Nat → va_E} {e : va_E} : bld b (n + 1) (fup f n e) = bld b n f ++ [(b + n, e)] := by
  have h : bld b n (fup f n e) = bld b n f := bld_cg (fun c hc => fup_ne (by omega))
  rw [← h, bld, bld, List.range_succ, List.map_append]
  simp [fup_eq]
def BW (G : GT) (n : Nat) (f : Nat → va_E) (H : Heap) : Prop := va_P G.1.1 vwCl (bld G.2 n f) H
theorem BW.cg {G : GT} {n : Nat} {f g : Nat → va_E} {H : Heap} (h : BW G n f H) (hf : ∀ c, c < n → g c = f c) : BW G n g H := by
  rw [BW, bld_cg hf]
  exact h
theorem BW.size {G : GT} {n : Nat} {f : Nat → va_E} {H : Heap} (h : BW G n f H) (h0 : 0 < n) : G.2 + n ≤ H.size := by
  have h1 := (h (n - 1) _ (bld_at (by omega))).lt
  have h2 : G.2 + (n - 1) < H.size := h1
  omega
def KxB (G : GT) (U : State) : Prop := Kx G U ∧ va_AO RX1 U ∧ va_AO RX4 U ∧ va_AO RX0 U
theorem KxB.warm {G : GT} {s U : State} (hW : s.WarmedH U.vm) (h : KxB G s) : KxB G U := ⟨h.1.warm hW, h.2.1.moved hW.alike, h.2.2.1.moved hW.alike, h.2.2.2.moved hW.alike⟩
theorem KxB.call {G : GT} {U : State} {g : JFrame} {mk : MethodId} {a : Array Value} (h : KxB G U) : KxB G (U.calling g mk a) :=
  ⟨h.1.call, va_AO.moved (u := U) (U := U.calling g mk a) (Vm.Alike.refl U.vm) h.2.1, va_AO.moved (u := U) (U := U.calling g mk a) (Vm.Alike.refl U.vm) h.2.2.1, va_AO.moved (u := U) (U := U.calling g mk a) (Vm.Alike.refl U.vm) h.2.2.2⟩
def rmB (h mc ms : Nat) : Jvm.Room := { frames := h, cells := mc, slots := ms, locals := 40 * h }
def QB (G : GT) (n : Nat) (f : Nat → va_E) : Array Value → State → Outcome → State → Prop := fun _ st oc t => oc = .returned none ∧ BW G n f t.heap ∧ va_F (fun q => G.2 ≤ q) st t
def PVB (G : GT) (av : List Value) (n : Nat) (f : Nat → va_E) : Array Value → State → Prop := va_Pc av (fun U => KxB G U ∧ U.heap.size = G.2 + n ∧ BW G n f U.heap)
theorem PVB.blind {G : GT} {av : List Value} {n : Nat} {f : Nat → va_E} : FrameBlind (PVB G av n f) := fun _ _ _ _ q => ⟨q.1, q.2.1.call, q.2.2⟩
/-- a constructor's contract: from n cells, as f says, to n + mc cells, as f' says -/
def MI (l : Launch) (G : GT) (y : MethodName) (cc : ByteArray) (maxL h mc ms : Nat) (av : List Value) (n : Nat) (f f' : Nat → va_E) : Prop :=
  Met l y (WS y cc maxL none) (rmB h mc ms) (PVB G av n f) (QB G (n + mc) f') mc ms (fun q => G.2 ≤ q)
def CB (p : Program) (s : State) (m : MethodId) (args : Array Value) (meth : Method) (c : Code) (G : GT) (cc : ByteArray) (nL : Nat) (own : String) (n0 : Nat) : Prop :=
  p.tables.exec = Jvm.exec ∧ c.code = cc ∧ c.maxLocals = nL ∧ s.vm.findClass own = some m.cls ∧ (∀ w ∈ TBLG, w.before args s = true) ∧ KxB G s ∧ meth.sig.returnType = none ∧ meth.locks = false ∧ meth.name = "<init>" ∧ s.heap.size = G.2 + n0 ∧ 0 < n0
theorem MI.ofB {l : Launch} {G : GT} {y : MethodName} {cc : ByteArray} {maxL h mc ms n : Nat} {av : List Value} {f f' : Nat → va_E} {lv : List (Nat × Value)} {own : String} (hy : plainName y.cls = true) (hown : y.cls = own) (hname : y.name = "<init>") (hlv : lv_args 0 av = lv) (hlen : (lg_sl av).length ≤ maxL) (hn : 0 < n)
    (body : ∀ (p : Program) (e : Env) (s : State) (m : MethodId) (below : List Frame) (meth : Method) (c : Code) (ls : Array Slot), CB p s m av.toArray meth c G cc maxL own n → lv_has ls maxL lv → BW G (n + 0) f s.heap → va_S (fun q => G.2 ≤ q) s.heap s.heap [] →
      W p l e (rmB h mc ms) s m av.toArray below meth c s.heap [] 0 0 (MQ below (QB G (n + mc) f') av.toArray s mc ms (fun q => G.2 ≤ q)) (F0 m 0 ls [])) : MI l G y cc maxL h mc ms av n f f' := by
  refine Met.ofW (cc := cc) (maxL := maxL) (ret := none) (ws' := TBLG) hy rfl ?_
  intro p e s m args below meth c s₁ B hml hv
  obtain ⟨rfl, hK, hsz, hP⟩ := hv
  have hx := B.exec
  have hb := B.bytes
  have hr := B.returns
  have hts := atoms_spec (ws := WS y cc maxL none) B.pre
  have hw : s.vm.findClass own = some m.cls := hown ▸ findClass_of_methodNamed B.named
  have hlocks := B.notSynchronized
  have hin : meth.name = "<init>" := hname ▸ (name_of_methodNamed B.named B.method).1
  have hl := lv_entry av (n := maxL) hlen
  rw [lg_entry_eq]
  rw [hlv] at hl
  exact body p e s m below meth c _ ⟨hx, hb, hml, hw, fun w h => hts w (List.mem_cons_of_mem _ h), hK, hr, hlocks, hin, hsz, hn⟩ hl hP va_S.rf
section BR
variable {p : Program} {l : Launch} {e : Env} {R : Jvm.Room} {s : State} {m : MethodId} {args : Array Value} {below : List Frame} {meth : Method} {c : Code} {H : Heap} {locs : List Loc} {cells slots : Nat} {Q : State → Prop} {G : GT} {cc : ByteArray} {nL pc : Nat} {ls : Array Slot} {rest : List Value} {own : String} {n0 : Nat} {f : Nat → va_E}
theorem W_sz {g : JFrame} (C0 : CB p s m args meth c G cc nL own n0) (hP : BW G (n0 + cells) f H) (k : H.size = G.2 + (n0 + cells) → W p l e R s m args below meth c H locs cells slots Q g) : W p l e R s m args below meth c H locs cells slots Q g := by
  intro T hT X
  obtain ⟨-, -, -, -, -, -, -, -, -, hs, h0⟩ := C0
  have h1 := X.heapSize
  have h2 := hP.size (by omega)
  rw [hT] at h1
  exact k (by omega) T hT X
theorem B_obj (C0 : CB p s m args meth c G cc nL own n0) {idx a : Nat} (hls : ls.size = nL) (hlink : Cond.methodLink own idx Lib.objectInit ∈ TBLG) (hinst : Cond.instanceMethod Lib.objectInit ∈ TBLG) (hcode : Cond.code Lib.objectInit ⟨#[0xb1]⟩ 1 none ∈ TBLG) (hfr : 1 ≤ R.frames) (hlo : 12 ≤ R.locals) (hdg : decode cc pc = .ok (.invokespecial idx, 3))
    (kk : W p l e R s m args below meth c H locs cells slots Q (F0 m (pc + 3) ls [])) : W p l e R s m args below meth c H locs cells slots Q (F0 m pc ls [.ref a]) :=
  W.objInit C0.1 C0.2.1 C0.2.2.2.1 (C0.2.2.2.2.1 _ hlink) (C0.2.2.2.2.1 _ hinst) (C0.2.2.2.2.1 _ hcode) rfl (by rw [C0.2.2.1]; exact hls) rfl hdg hfr (by show 2 * 0 + 0 + 12 ≤ _; omega) kk
theorem B_new (C0 : CB p s m args meth c G cc nL own n0) (hP : BW G (n0 + cells) f H) (hS : va_S (fun q => G.2 ≤ q) s.heap H locs) {C : String} {T : u_T} {N ci index : Nat} (hin : ∀ w ∈ u_ws C T N, w ∈ TBLG) (ty : Nat → FieldType) (hty : ∀ k, k < N → parseFieldDescriptor (T k).2.2.1 = some (ty k)) (hcl : Cond.classLink own index C ∈ TBLG) (hinst : Cond.instantiable C N ∈ TBLG) (hini : Cond.initialized C ∈ TBLG) (hc : vwCl[ci]? = some (C, T, N)) (fs : List Value) (hfs : ∀ j, j < N → defaultValue (ty j) = vp_V fs j) (hcells : cells + 1 ≤ R.cells) (hslots : slots + N ≤ R.slots) (hdg : decode cc pc = .ok (.new index, 3))
    (kk : ∀ H1, BW G (n0 + (cells + 1)) (fup f (n0 + cells) (.inr (ci, fs))) H1 → va_S (fun q => G.2 ≤ q) s.heap H1 locs → W p l e R s m args below meth c H1 locs (cells + 1) (slots + N) Q (F0 m (pc + 3) ls (.ref (G.2 + (n0 + cells)) :: rest))) : W p l e R s m args below meth c H locs cells slots Q (F0 m pc ls rest) := by
  refine W_sz C0 hP fun hz => ?_
  have hts := C0.2.2.2.2.1
  have hKn := C0.2.2.2.2.2.1.1.1.1 ci _ hc
  refine W.newcK C0.1 C0.2.1 C0.2.2.2.1 (hts _ hcl) (hts _ hinst) (hts _ hini) rfl hdg hcells hslots hKn.2.1 hz fun H1 kC hkC e1 z1 o1 => ?_
  refine kk H1 ?_ ⟨by rw [z1, ← hz]; exact Nat.le_succ_of_le hS.1, fun x h1 h2 => (o1 x (by rw [← hz]; exact Nat.lt_of_lt_of_le h1 hS.1)).trans (hS.2.1 x h1 h2), hS.2.2⟩
  show va_P _ _ (bld G.2 (n0 + cells + 1) _) H1
  rw [bld_push]
  refine va_P.app (va_P.kept hP fun k x hx => o1 x.1 (by rw [← hz]; exact (hP k x hx).lt)) fun k x hx => ?_
  have hk : k < 1 := (List.getElem?_eq_some_iff.mp hx).1
  rw [show k = 0 by omega] at hx
  cases hx
  exact ⟨_, hc, (u_born ty hts hin hKn hkC e1 hty).to hfs⟩
theorem B_newi (C0 : CB p s m args meth c G cc nL own n0) (hP : BW G (n0 + cells) f H) (hS : va_S (fun q => G.2 ≤ q) s.heap H locs) (harr : Cond.arrayClass .int ∈ TBLG) {n : Int32} (N : Nat) (hn : ¬ n < 0) (hN : n.toNatClampNeg = N) (hbytes : N * 4 ≤ 536870912) (hcells : cells + 1 ≤ R.cells) (hslots : slots + N ≤ R.slots) (hdg : decode cc pc = .ok (.newarray .int, 2))
    (kk : ∀ H1, BW G (n0 + (cells + 1)) (fup f (n0 + cells) (.inl (G.1.2 0, N, .inl fun _ => 0))) H1 → va_S (fun q => G.2 ≤ q) s.heap H1 locs → W p l e R s m args below meth c H1 locs (cells + 1) (slots + N) Q (F0 m (pc + 2) ls (.ref (G.2 + (n0 + cells)) :: rest))) : W p l e R s m args below meth c H locs cells slots Q (F0 m pc ls (.int n :: rest)) := by
  refine W_sz C0 hP fun hz => ?_
  have hK := (C0.2.2.2.2.2.1.1.1.2 0 _ rfl).2
  refine va_newaK C0.1 C0.2.1 (atype := .int) (C0.2.2.2.2.1 _ harr) rfl hdg rfl hn hN hbytes hcells hslots hz fun H1 cA e1 z1 o1 _ hNm => ?_
  have hcA : cA = G.1.2 0 := Option.some.inj (hNm.symm.trans hK)
  subst hcA
  refine kk H1 ?_ ⟨by rw [z1, ← hz]; exact Nat.le_succ_of_le hS.1, fun x h1 h2 => (o1 x (by rw [← hz]; exact Nat.lt_of_lt_of_le h1 hS.1)).trans (hS.2.1 x h1 h2), hS.2.2⟩
  show va_P _ _ (bld G.2 (n0 + cells + 1) _) H1
  rw [bld_push]
  refine va_P.app (va_P.kept hP fun k x hx => o1 x.1 (by rw [← hz]; exact (hP k x hx).lt)) fun k x hx => ?_
  have hk : k < 1 := (List.getElem?_eq_some_iff.mp hx).1
  rw [show k = 0 by omega] at hx
  cases hx
  exact e1
theorem B_newq (C0 : CB p s m args meth c G cc nL own n0) (hP : BW G (n0 + cells) f H) (hS : va_S (fun q => G.2 ≤ q) s.heap H locs) {C : String} {index : Nat} (t0 : Nat) (ht : (tysL G.1.2)[t0]? = some (G.1.2 t0, .object C)) (hAO : va_AO C s) (hcl : Cond.classLink own index C ∈ TBLG) {n : Int32} (N : Nat) (hn : ¬ n < 0) (hN : n.toNatClampNeg = N) (hbytes : N * 4 ≤ 536870912) (hcells : cells + 1 ≤ R.cells) (hslots : slots + N ≤ R.slots) (hdg : decode cc pc = .ok (.anewarray index, 3))
    (kk : ∀ H1, BW G (n0 + (cells + 1)) (fup f (n0 + cells) (.inl (G.1.2 t0, N, .inr (.inr (.inr (.inr fun _ => none)))))) H1 → va_S (fun q => G.2 ≤ q) s.heap H1 locs → W p l e R s m args below meth c H1 locs (cells + 1) (slots + N) Q (F0 m (pc + 3) ls (.ref (G.2 + (n0 + cells)) :: rest))) : W p l e R s m args below meth c H locs cells slots Q (F0 m pc ls (.int n :: rest)) := by
  subst hN
  refine W_sz C0 hP fun hz => ?_
  obtain ⟨_, _, -, -, -, hK⟩ := (C0.2.2.2.2.2.1.1.1.2 t0 _ ht).2
  refine W.anew C0.1 C0.2.1 C0.2.2.2.1 (C0.2.2.2.2.1 _ hcl) (va_AO.use hAO) rfl hdg rfl hn hbytes hcells hslots fun cA kA comp f1 _ _ _ => ?_
  have hcA : cA = G.1.2 t0 := Option.some.inj (f1.symm.trans hK)
  subst hcA
  generalize hH1 : H.push ({ cls := G.1.2 t0, slots := Array.replicate n.toNatClampNeg .null, vm := .none } : Cell) = H1
  have z1 : H1.size = H.size + 1 := by rw [← hH1, Array.size_push]
  have e1 : H1[H.size]? = some (arrV (G.1.2 t0) n.toNatClampNeg (fun _ => .null)) := by rw [← hH1, Array.getElem?_push_size, ← arrV_new]
  have o1 : ∀ q : Nat, q < H.size → H1[q]? = H[q]? := fun q hq => by rw [← hH1, Array.getElem?_push, if_neg (Nat.ne_of_lt hq)]
  rw [hz] at e1 ⊢
  refine kk H1 ?_ ⟨by rw [z1]; exact Nat.le_succ_of_le hS.1, fun x h1 h2 => (o1 x (Nat.lt_of_lt_of_le h1 hS.1)).trans (hS.2.1 x h1 h2), hS.2.2⟩
  show va_P _ _ (bld G.2 (n0 + cells + 1) _) H1
  rw [bld_push]
  refine va_P.app (va_P.kept hP fun k x hx => o1 x.1 ((hP k x hx).lt)) fun k x hx => ?_
  have hk : k < 1 := (List.getElem?_eq_some_iff.mp hx).1
  rw [show k = 0 by omega] at hx
  cases hx
  exact e1
theorem B_get (C0 : CB p s m args meth c G cc nL own n0) (hP : BW G (n0 + cells) f H) {C : String} {T : u_T} {N ci index a : Nat} (kf : Nat) {fs : List Value} (ha : a < n0 + cells) (he : f a = .inr (ci, fs)) (hin : ∀ w ∈ u_ws C T N, w ∈ TBLG) (hc : vwCl[ci]? = some (C, T, N)) (hk : kf < N) (hw : Cond.fieldLink own index C (T kf).2.1 (T kf).2.2.1 ∈ TBLG) (hT : (T kf).1 = C) {v : Value} (hv : fs[kf]? = some v) (hdg : decode cc pc = .ok (.getfield index, 3))
    (kk : W p l e R s m args below meth c H locs cells slots Q (F0 m (pc + 3) ls (v :: rest))) : W p l e R s m args below meth c H locs cells slots Q (F0 m pc ls (.ref (G.2 + a) :: rest)) :=
  va_get (C := C) (T := T) (N := N) C0.1 C0.2.1 C0.2.2.2.2.1 hin C0.2.2.2.1 C0.2.2.2.2.2.1.1.1 hP a (by rw [bld_at ha, he]) hc kf hk (C0.2.2.2.2.1 _ hw) (fun _ hx => by rw [← hT]; exact hx) hv hdg kk
theorem B_put (C0 : CB p s m args meth c G cc nL own n0) (hP : BW G (n0 + cells) f H) (hS : va_S (fun q => G.2 ≤ q) s.heap H locs) {C : String} {T : u_T} {N ci index a : Nat} (kf : Nat) {fs : List Value} (ha : a < n0 + cells) (he : f a = .inr (ci, fs)) (hin : ∀ w ∈ u_ws C T N, w ∈ TBLG) (hc : vwCl[ci]? = some (C, T, N)) (hk : kf < N) (hw : Cond.fieldLink own index C (T kf).2.1 (T kf).2.2.1 ∈ TBLG) (hT : (T kf).1 = C) (ty0 : Nat → FieldType) (hty : ∀ k, k < N → parseFieldDescriptor (T k).2.2.1 = some (ty0 k)) (hnm : ∀ a, a < N → ∀ b, b < N → a ≠ b → (T a).2.1 ≠ (T b).2.1) (hfin : (T kf).2.2.2 = false) {ty : FieldType} {v : Value} (hd : parseFieldDescriptor (T kf).2.2.1 = some ty) (hn : narrow ty v = v) (hfit : fits ty v = true) (hl : kf < fs.length) (hdg : decode cc pc = .ok (.putfield index, 3))
    (kk : ∀ (H1 : Heap) (locs1 : List Loc), BW G (n0 + cells) (fup f a (.inr (ci, fs.set kf v))) H1 → va_S (fun q => G.2 ≤ q) s.heap H1 locs1 → W p l e R s m args below meth c H1 locs1 cells slots Q (F0 m (pc + 3) ls rest)) : W p l e R s m args below meth c H locs cells slots Q (F0 m pc ls (v :: .ref (G.2 + a) :: rest)) :=
  va_put (C := C) (T := T) (N := N) C0.1 C0.2.1 C0.2.2.2.2.1 hin ty0 hty hnm C0.2.2.2.1 C0.2.2.2.2.2.1.1.1 hP bld_D hS a (by rw [bld_at ha, he]) hc kf hk (C0.2.2.2.2.1 _ hw) (fun _ hx => by rw [← hT]; exact hx) hfin hd hn hfit hl hdg (fun H1 locs1 hP1 _ hS1 => kk H1 locs1 (by rw [bld_set ha] at hP1; exact hP1) hS1)
theorem B_putF (C0 : CB p s m args meth c G cc nL own n0) (hP : BW G (n0 + cells) f H) (hS : va_S (fun q => G.2 ≤ q) s.heap H locs) {T : u_T} {N ci index a : Nat} (kf : Nat) {fs : List Value} (ha : a < n0 + cells) (he : f a = .inr (ci, fs)) (hin : ∀ w ∈ u_ws own T N, w ∈ TBLG) (hc : vwCl[ci]? = some (own, T, N)) (hk : kf < N) (hw : Cond.fieldLink own index own (T kf).2.1 (T kf).2.2.1 ∈ TBLG) (hT : (T kf).1 = own) (ty0 : Nat → FieldType) (hty : ∀ k, k < N → parseFieldDescriptor (T k).2.2.1 = some (ty0 k)) (hnm : ∀ a, a < N → ∀ b, b < N → a ≠ b → (T a).2.1 ≠ (T b).2.1) (hfin : (T kf).2.2.2 = true) {ty : FieldType} {v : Value} (hd : parseFieldDescriptor (T kf).2.2.1 = some ty) (hn : narrow ty v = v) (hfit : fits ty v = true) (hl : kf < fs.length) (hdg : decode cc pc = .ok (.putfield index, 3))
    (kk : ∀ (H1 : Heap) (locs1 : List Loc), BW G (n0 + cells) (fup f a (.inr (ci, fs.set kf v))) H1 → va_S (fun q => G.2 ≤ q) s.heap H1 locs1 → W p l e R s m args below meth c H1 locs1 cells slots Q (F0 m (pc + 3) ls rest)) : W p l e R s m args below meth c H locs cells slots Q (F0 m pc ls (v :: .ref (G.2 + a) :: rest)) :=
  va_putF (C := own) (T := T) (N := N) C0.1 C0.2.1 C0.2.2.2.2.1 hin ty0 hty hnm C0.2.2.2.1 C0.2.2.2.2.2.1.1.1 hP bld_D hS a (by rw [bld_at ha, he]) hc kf hk (C0.2.2.2.2.1 _ hw) (fun _ hx => by rw [← hT]; exact hx) hfin C0.2.2.2.2.2.2.2.2.1 hT hd hn hfit hl hdg (fun H1 locs1 hP1 _ hS1 => kk H1 locs1 (by rw [bld_set ha] at hP1; exact hP1) hS1)
theorem B_iast (C0 : CB p s m args meth c G cc nL own n0) (hP : BW G (n0 + cells) f H) (hS : va_S (fun q => G.2 ≤ q) s.heap H locs) {a N : Nat} {g : Nat → Int32} (ha : a < n0 + cells) (he : f a = .inl (G.1.2 0, N, .inl g)) {i x : Int32} (hi : inb i N = true) (hdg : decode cc pc = .ok (.iastore, 1))
    (kk : ∀ (H1 : Heap) (locs1 : List Loc), BW G (n0 + cells) (fup f a (.inl (G.1.2 0, N, .inl (upd g (ix i) x)))) H1 → va_S (fun q => G.2 ≤ q) s.heap H1 locs1 → W p l e R s m args below meth c H1 locs1 cells slots Q (F0 m (pc + 1) ls rest)) : W p l e R s m args below meth c H locs cells slots Q (F0 m pc ls (.int x :: .int i :: .ref (G.2 + a) :: rest)) :=
  va_iast C0.1 C0.2.1 C0.2.2.2.2.2.1.1.1 hP bld_D hS a 0 (by rw [bld_at ha, he]) rfl (inb_vp hi) hdg (fun H1 locs1 hP1 _ hS1 => kk H1 locs1 (by rw [bld_set ha] at hP1; exact hP1) hS1)
theorem B_alen (C0 : CB p s m args meth c G cc nL own n0) (hP : BW G (n0 + cells) f H) {a N t0 : Nat} {C : String} {g : Nat → Option Nat} (ht : (tysL G.1.2)[t0]? = some (G.1.2 t0, .object C)) (ha : a < n0 + cells) (he : f a = .inl (G.1.2 t0, N, .inr (.inr (.inr (.inr g))))) {v : Int32} (hv : Int32.ofNat N = v) (hdg : decode cc pc = .ok (.arraylength, 1))
    (kk : W p l e R s m args below meth c H locs cells slots Q (F0 m (pc + 1) ls (.int v :: rest))) : W p l e R s m args below meth c H locs cells slots Q (F0 m pc ls (.ref (G.2 + a) :: rest)) :=
  va_alen C0.1 C0.2.1 C0.2.2.2.2.2.1.1.1 hP a t0 (by rw [bld_at ha, he]) ht hv hdg kk
theorem B_astq (C0 : CB p s m args meth c G cc nL own n0) (hP : BW G (n0 + cells) f H) (hS : va_S (fun q => G.2 ≤ q) s.heap H locs) {a v N t0 ci : Nat} {r : vw_C} {vs : List Value} {g : Nat → Option Nat} (ht : (tysL G.1.2)[t0]? = some (G.1.2 t0, .object r.1)) (hc : vwCl[ci]? = some r) (ha : a < n0 + cells) (he : f a = .inl (G.1.2 t0, N, .inr (.inr (.inr (.inr g))))) (hv : v < n0 + cells) (hev : f v = .inr (ci, vs)) {i : Int32} (hi : inb i N = true) (hdg : decode cc pc = .ok (.aastore, 1))
    (kk : ∀ (H1 : Heap) (locs1 : List Loc), BW G (n0 + cells) (fup f a (.inl (G.1.2 t0, N, .inr (.inr (.inr (.inr (va_up g (ix i) (some (G.2 + v)))))))))  H1 → va_S (fun q => G.2 ≤ q) s.heap H1 locs1 → W p l e R s m args below meth c H1 locs1 cells slots Q (F0 m (pc + 1) ls rest)) : W p l e R s m args below meth c H locs cells slots Q (F0 m pc ls (.ref (G.2 + v) :: .int i :: .ref (G.2 + a) :: rest)) :=
  va_astq C0.1 C0.2.1 C0.2.2.2.2.2.1.1.1 hP bld_D hS a t0 v ci (by rw [bld_at ha, he]) ht (by rw [bld_at hv, hev]) hc (inb_vp hi) hdg (fun H1 locs1 hP1 _ hS1 => kk H1 locs1 (by rw [bld_set ha] at hP1; exact hP1) hS1)
theorem B_ret (C0 : CB p s m args meth c G cc nL own n0) {f' : Nat → va_E} (hP : BW G (n0 + cells) f' H) (hS : va_S (fun q => G.2 ≤ q) s.heap H locs) (hdg : decode cc pc = .ok (.return_, 1)) : W p l e R s m args below meth c H locs cells slots (MQ below (QB G (n0 + cells) f') args s cells slots (fun q => G.2 ≤ q)) (F0 m pc ls []) :=
  W.vret C0.1 C0.2.1 C0.2.2.2.2.2.2.1 (fun t ht _ => ⟨rfl, by rw [ht]; exact hP, hS.F ht⟩) hS.2.2 hdg (hlocks := C0.2.2.2.2.2.2.2.1)
theorem B_back {n2 mc ms : Nat} {f' : Nat → va_E} {a : Array Value} {st0 : List Value} (hr : va_Run p l e R s m args below meth c H locs cells slots mc ms (F0 m pc ls st0) rest (QB G n2 f' a) (fun q => G.2 ≤ q)) (hS : va_S (fun q => G.2 ≤ q) s.heap H locs)
    (kk : ∀ (H1 : Heap) (locs1 : List Loc), BW G n2 f' H1 → va_S (fun q => G.2 ≤ q) s.heap H1 locs1 → W p l e R s m args below meth c H1 locs1 (cells + mc) (slots + ms) Q (F0 m (pc + 3) ls rest)) : W p l e R s m args below meth c H locs cells slots Q (F0 m pc ls st0) := by
  intro T hT X
  obtain ⟨v', st₀, t, T', L, h0, X', hL, e1, e2, ⟨hv, hR, hz, hk⟩, st⟩ := hr T hT X
  cases hv
  rw [h0] at hz hk
  obtain ⟨t2, a1, b1⟩ := kk T'.heap (locs ++ L) (by rw [e1]; exact hR) ⟨Nat.le_trans hS.1 (by rw [e1]; exact hz), fun q h1 h2 => by rw [e1, hk q (Nat.lt_of_lt_of_le h1 hS.1) h2]; exact hS.2.1 q h1 h2, fun q hq => by
      rcases List.mem_append.mp hq with hq | hq
      · exact hS.2.2 q hq
      · exact hL q hq⟩ T' rfl X'
  exact ⟨t2, st t2 a1, b1⟩
theorem PVB.pre {H : Heap} {av : List Value} {n : Nat} (hK : KxB G s) (hz : H.size = G.2 + n) (hP : BW G n f H) : PreS s H (PVB G av n f) av := ⟨PVB.blind, fun U hU hW => ⟨rfl, hK.warm hW, by rw [hU]; exact hz, by rw [hU]; exact hP⟩⟩
/-- a nest mate's constructor, called -/
theorem B_call (C0 : CB p s m args meth c G cc nL own n0) (hP : BW G (n0 + cells) f H) (hS : va_S (fun q => G.2 ≤ q) s.heap H locs) {y : MethodName} {bytes : ByteArray} {maxL index h h2 mc ms mc2 ms2 a : Nat} {host : String} (n : Nat) {av : List Value} {f' : Nat → va_E} (hM : MI l G y bytes maxL h2 mc2 ms2 (.ref (G.2 + a) :: av) (n0 + cells) f f') (hR : R = rmB h mc ms) (hh : h2 < h) (hmL : maxL ≤ 8) (hcode : Cond.code y bytes maxL none ∈ TBLG) (hw : Cond.methodLinkNest own index y host ∈ NWL) (hini : Cond.initialized y.cls ∈ TBLG) (hinst : Cond.instanceMethod y ∈ TBLG) (hname : y.name = "<init>") (hd : y.cls ≠ "java/lang/invoke/MethodHandle" ∧ y.cls ≠ "java/lang/invoke/VarHandle" ∧ (parseMethodDescriptor y.desc).map (fun d => d.parameters.length) = some n) (hn : av.length = n) (hls : ls.size = nL) (hst : (rest.map fun v => v.category).sum ≤ 8) (hc1 : cells + mc2 ≤ mc) (hc2 : slots + ms2 ≤ ms) {st0 : List Value} (hst0 : st0 = av.reverse ++ .ref (G.2 + a) :: rest) (hdg : decode cc pc = .ok (.invokespecial index, 3))
    (kk : ∀ (H1 : Heap) (locs1 : List Loc), BW G (n0 + (cells + mc2)) f' H1 → va_S (fun q => G.2 ≤ q) s.heap H1 locs1 → W p l e R s m args below meth c H1 locs1 (cells + mc2) (slots + ms2) Q (F0 m (pc + 3) ls rest)) : W p l e R s m args below meth c H locs cells slots Q (F0 m pc ls st0) := by
  subst hR
  refine W_sz C0 hP fun hz => ?_
  refine B_back (va_runIN (As := av) (rest := rest) ⟨C0.1, C0.2.1, C0.2.2.1, C0.2.2.2.1, C0.2.2.2.2.1⟩ hM ⟨va_cnB (R := rmB h mc ms) n C0.2.2.2.2.1 (ws_in hcode) rfl rfl rfl (C0.2.2.2.2.2.1.1.2 _ hw) (C0.2.2.2.2.1 _ hini) hd ⟨hh, by show 8 + (maxL + 11) + 40 * h2 ≤ 40 * h; omega⟩, hname, C0.2.2.2.2.1 _ hinst⟩ (PVB.pre C0.2.2.2.2.2.1 hz hP) rfl hn hls hst0 (lv_room hst) hdg ⟨hc1, hc2⟩) hS fun H1 locs1 hP1 hS1 => kk H1 locs1 (by rw [← Nat.add_assoc]; exact hP1) hS1
end BR
