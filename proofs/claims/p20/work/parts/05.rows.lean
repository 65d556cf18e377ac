/-! words, room, contracts, and the judgement V of a walk against a function of the memory -/
def isNestW : Cond → Bool
  | .fieldLinkNest .. => true
  | .methodLinkNest .. => true
  | _ => false
def TBLG : List Cond := lw_tbl.filter goodWord
def NWL : List Cond := lw_tbl.filter isNestW
theorem tblg_good {w : Cond} (h : w ∈ TBLG) : (w.onTables && w.keeps) = true ∨ ∃ ty, w = .arrayClass ty := good_of_word (List.mem_filter.mp h).2
theorem tblg_in {w : Cond} (h : w ∈ TBLG) : w ∈ lw_tbl := (List.mem_filter.mp h).1
theorem nwl_warm {w : Cond} (h : w ∈ NWL) {s U : State} (hW : s.WarmedH U.vm) (hZ : va_Nw w s) : va_Nw w U := by
  have h2 : isNestW w = true := (List.mem_filter.mp h).2
  cases w <;> first | exact va_Nw.warmF hW hZ | exact va_Nw.warmM hW hZ | (exact absurd h2 (by decide)) | (simp [isNestW] at h2)
theorem nwl_on {w : Cond} (h : w ∈ NWL) : w.onTables = true := by
  have h2 : isNestW w = true := (List.mem_filter.mp h).2
  cases w <;> first | rfl | (simp [isNestW] at h2)
def WS (y : MethodName) (cc : ByteArray) (maxL : Nat) (ret : Option FieldType) : List Cond := .code y cc maxL ret :: TBLG
theorem ws_in {y : MethodName} {cc : ByteArray} {maxL : Nat} {ret : Option FieldType} (h : Cond.code y cc maxL ret ∈ TBLG) : GoodIn TBLG (WS y cc maxL ret) := by
  intro w hw
  rcases List.mem_cons.mp hw with rfl | hw
  · exact ⟨h, tblg_good h⟩
  · exact ⟨hw, tblg_good hw⟩
theorem ws_app {a b : List Cond} (ha : ∀ w ∈ a, w ∈ TBLG) (hb : GoodIn TBLG b) : GoodIn TBLG (a ++ b) := fun w h => (List.mem_append.mp h).elim (fun h => ⟨ha w h, tblg_good (ha w h)⟩) (hb w)
def rm (h : Nat) : Jvm.Room := { frames := h, cells := 0, slots := 0, locals := 40 * h }
def tysL (dA : Nat → ClassId) : List (ClassId × FieldType) := [(dA 0, .int), (dA 1, .int), (dA 2, .object RX1), (dA 3, .object RX4), (dA 4, .object RX0)]
def Kx (G : GT) (U : State) : Prop := va_K G.1.1 vwCl (tysL G.1.2) U ∧ ∀ w ∈ NWL, va_Nw w U
theorem Kx.warm {G : GT} {s U : State} (hW : s.WarmedH U.vm) (h : Kx G s) : Kx G U := ⟨h.1.moved hW.alike, fun w hw => nwl_warm hw hW (h.2 w hw)⟩
theorem Kx.call {G : GT} {U : State} {g : JFrame} {mk : MethodId} {a : Array Value} (h : Kx G U) : Kx G (U.calling g mk a) :=
  ⟨va_K.moved (u := U) (U := U.calling g mk a) (Vm.Alike.refl U.vm) h.1, fun w hw => va_Nw.same (u := U) (U := U.calling g mk a) (nwl_on hw) rfl (h.2 w hw)⟩
/-- the worlds behind a method -/
def QV (G : GT) (v : Option Value) (M' : Mem) : Array Value → State → Outcome → State → Prop := fun _ st oc t => oc = .returned v ∧ Rep G M' t.heap ∧ va_F (fun q => G.2 ≤ q) st t
def PV (G : GT) (av : List Value) (M : Mem) : Array Value → State → Prop := va_Pc av (fun U => Kx G U ∧ Rep G M U.heap)
theorem PV.blind {G : GT} {av : List Value} {M : Mem} : FrameBlind (PV G av M) := fun _ _ _ _ q => ⟨q.1, q.2.1.call, q.2.2⟩
/-- a contract: from the memory M, with these arguments, the method returns v and leaves the memory M' -/
def MC (l : Launch) (G : GT) (y : MethodName) (cc : ByteArray) (maxL : Nat) (ret : Option FieldType) (h : Nat) (av : List Value) (M : Mem) (v : Option Value) (M' : Mem) : Prop :=
  Met l y (WS y cc maxL ret) (rm h) (PV G av M) (QV G v M') 0 0 (fun q => G.2 ≤ q)
abbrev XT : Type := Program × Launch × Env × State × MethodId × Array Value × List Frame × Method × Code
def Cx (X : XT) (G : GT) (cc : ByteArray) (nL : Nat) (own : String) (ret : Option FieldType) : Prop :=
  match X with
  | (p, _, _, s, m, args, _, meth, c) => p.tables.exec = Jvm.exec ∧ c.code = cc ∧ c.maxLocals = nL ∧ s.vm.findClass own = some m.cls ∧ (∀ w ∈ TBLG, w.before args s = true) ∧ Kx G s ∧ meth.sig.returnType = ret ∧ meth.locks = false
def V (X : XT) (G : GT) (h : Nat) {ρ : Type} (val : ρ → Option Value) (nL pc : Nat) (lv : List (Nat × Value)) (st : List Value) (M : Mem) (o : Option (ρ × Mem)) : Prop :=
  match X with
  | (p, l, e, s, m, args, below, meth, c) => ∀ (r : ρ) (M' : Mem), o = some (r, M') → ∀ (H : Heap) (locs : List Loc) (ls : Array Slot), lv_has ls nL lv → Rep G M H → va_S (fun q => G.2 ≤ q) s.heap H locs →
    W p l e (rm h) s m args below meth c H locs 0 0 (MQ below (QV G (val r) M') args s 0 0 (fun q => G.2 ≤ q)) (F0 m pc ls st)
def vI (r : Int32) : Option Value := some (.int r)
def vU (_ : Unit) : Option Value := none
def mxI (x y : Int32) : Int32 := if x < y then y else x
def mnI (x y : Int32) : Int32 := if y < x then y else x
def mxL (x y : Int64) : Int64 := if y < x then x else y
def mnL (x y : Int64) : Int64 := if y < x then y else x
/-- words of the pure functions -/
def gd {α : Type} (b : Bool) (o : Option α) : Option α := if b = true then o else none
def bd {α β : Type} (o : Option (α × Mem)) (k : α → Mem → Option β) : Option β := match o with | some q => k q.1 q.2 | none => none
def bm {α : Type} (M : Mem) (f : Mem → α) : α := f M
def bi {α : Type} (x : Int32) (f : Int32 → α) : α := f x
def bl {α : Type} (x : Int64) (f : Int64 → α) : α := f x
def bn {α : Type} (x : Nat) (f : Nat → α) : α := f x
def isB (x : Int32) : Bool := x == 0 || x == 1
theorem isB_or {x : Int32} (h : isB x = true) : x = 0 ∨ x = 1 := by simpa [isB] using h
theorem MC.ofV {l : Launch} {G : GT} {y : MethodName} {cc : ByteArray} {maxL : Nat} {ret : Option FieldType} {h : Nat} {av : List Value} {M M' : Mem} {ρ : Type} {val : ρ → Option Value} {r : ρ} {o : Option (ρ × Mem)} {lv : List (Nat × Value)} {own : String} (hy : plainName y.cls = true) (hown : y.cls = own) (hlv : lv_args 0 av = lv) (hlen : (lg_sl av).length ≤ maxL) (ho : o = some (r, M'))
    (body : ∀ X : XT, X.2.1 = l → Cx X G cc maxL own ret → V X G h val maxL 0 lv [] M o) : MC l G y cc maxL ret h av M (val r) M' := by
  refine Met.ofW (cc := cc) (maxL := maxL) (ret := ret) (ws' := TBLG) hy rfl ?_
  intro p e s m args below meth c s₁ B hml hv
  obtain ⟨rfl, hK, hR⟩ := hv
  have hx := B.exec
  have hb := B.bytes
  have hr := B.returns
  have hts := atoms_spec (ws := WS y cc maxL ret) B.pre
  have hw : s.vm.findClass own = some m.cls := hown ▸ findClass_of_methodNamed B.named
  have hlocks := B.notSynchronized
  have hl := lv_entry av (n := maxL) hlen
  rw [lg_entry_eq]
  rw [hlv] at hl
  exact body (p, l, e, s, m, av.toArray, below, meth, c) rfl ⟨hx, hb, hml, hw, fun w h => hts w (List.mem_cons_of_mem _ h), hK, hr, hlocks⟩ r M' ho s.heap [] _ hl hR va_S.rf
section VR
variable {X : XT} {G : GT} {h : Nat} {ρ : Type} {val : ρ → Option Value} {nL pc : Nat} {lv : List (Nat × Value)} {st : List Value} {M : Mem} {o o1 o2 : Option (ρ × Mem)} {cc : ByteArray} {own : String} {ret : Option FieldType}
theorem V_none : V X G h val nL pc lv st M none := by
  obtain ⟨p, l, e, s, m, args, below, meth, c⟩ := X
  intro r M' ho
  cases ho
theorem V_sub {lv' : List (Nat × Value)} (ks : List Nat) (hl : lv_pick lv ks = lv') (k : V X G h val nL pc lv' st M o) : V X G h val nL pc lv st M o := by
  obtain ⟨p, l, e, s, m, args, below, meth, c⟩ := X
  intro r M' ho H locs ls hL hP hS
  exact k r M' ho H locs ls (lv_sub hL ks hl) hP hS
theorem V_gd {b : Bool} (k : b = true → V X G h val nL pc lv st M o) : V X G h val nL pc lv st M (gd b o) := by
  cases b with
  | false => exact V_none
  | true => exact k rfl
theorem V_bi {x : Int32} {f : Int32 → Option (ρ × Mem)} (k : ∀ y : Int32, V X G h val nL pc lv (.int y :: st) M (f y)) : V X G h val nL pc lv (.int x :: st) M (bi x f) := k x
theorem V_bl {x : Int64} {f : Int64 → Option (ρ × Mem)} (k : ∀ y : Int64, V X G h val nL pc lv (.long y :: st) M (f y)) : V X G h val nL pc lv (.long x :: st) M (bl x f) := k x
theorem V_bn {x c : Nat} {f : Nat → Option (ρ × Mem)} (hx : (sh x).1 = c) (k : ∀ y : Nat, (sh y).1 = c → V X G h val nL pc lv (.ref (G.2 + y) :: st) M (f y)) : V X G h val nL pc lv (.ref (G.2 + x) :: st) M (bn x f) := k x hx

theorem V_iconst (C0 : Cx X G cc nL own ret) {v : Int32} {n : Int} (hdg : decode cc pc = .ok (.iconst n, 1)) (hv : Int32.ofInt n = v) (k : V X G h val nL (pc + 1) lv (.int v :: st) M o) : V X G h val nL pc lv st M o := by
  obtain ⟨p, l, e, s, m, args, below, meth, c⟩ := X
  intro r M' ho H locs ls hL hP hS
  exact lv_iconst C0.1 C0.2.1 hdg hv (k r M' ho H locs ls hL hP hS)
theorem V_bipush (C0 : Cx X G cc nL own ret) {v : Int32} {n : Int} (hdg : decode cc pc = .ok (.bipush n, 2)) (hv : (Int8.ofInt n).toInt32 = v) (k : V X G h val nL (pc + 2) lv (.int v :: st) M o) : V X G h val nL pc lv st M o := by
  obtain ⟨p, l, e, s, m, args, below, meth, c⟩ := X
  intro r M' ho H locs ls hL hP hS
  exact lv_bipush C0.1 C0.2.1 hdg hv (k r M' ho H locs ls hL hP hS)
theorem V_sipush (C0 : Cx X G cc nL own ret) {v : Int32} {n : Int} (hdg : decode cc pc = .ok (.sipush n, 3)) (hv : (Int16.ofInt n).toInt32 = v) (k : V X G h val nL (pc + 3) lv (.int v :: st) M o) : V X G h val nL pc lv st M o := by
  obtain ⟨p, l, e, s, m, args, below, meth, c⟩ := X
  intro r M' ho H locs ls hL hP hS
  exact lv_sipush C0.1 C0.2.1 hdg hv (k r M' ho H locs ls hL hP hS)
theorem V_ldc (C0 : Cx X G cc nL own ret) {v : Int32} {index : Nat} (hw : Cond.constant own index v ∈ TBLG) (hdg : decode cc pc = .ok (.ldc index, 2)) (k : V X G h val nL (pc + 2) lv (.int v :: st) M o) : V X G h val nL pc lv st M o := by
  obtain ⟨p, l, e, s, m, args, below, meth, c⟩ := X
  intro r M' ho H locs ls hL hP hS
  exact lv_ldc C0.1 C0.2.1 C0.2.2.2.1 (C0.2.2.2.2.1 _ hw) hdg (k r M' ho H locs ls hL hP hS)
theorem V_ldc2 (C0 : Cx X G cc nL own ret) {v : Int64} {index : Nat} (hw : Cond.constantLong own index v ∈ TBLG) (hdg : decode cc pc = .ok (.ldc2_w index, 3)) (k : V X G h val nL (pc + 3) lv (.long v :: st) M o) : V X G h val nL pc lv st M o := by
  obtain ⟨p, l, e, s, m, args, below, meth, c⟩ := X
  intro r M' ho H locs ls hL hP hS
  exact lv_ldc2 C0.1 C0.2.1 C0.2.2.2.1 (C0.2.2.2.2.1 _ hw) hdg (k r M' ho H locs ls hL hP hS)
theorem V_iload_n (C0 : Cx X G cc nL own ret) {kk : Fin 4} {x : Int32} (i : Nat) (hi : (kk : Nat) = i) (q : Nat) (hq : lv[q]? = some (i, .int x)) (hdg : decode cc pc = .ok (.iload_n kk, 1)) (k : V X G h val nL (pc + 1) lv (.int x :: st) M o) : V X G h val nL pc lv st M o := by
  obtain ⟨p, l, e, s, m, args, below, meth, c⟩ := X
  intro r M' ho H locs ls hL hP hS
  exact lv_iload_n C0.1 C0.2.1 hdg hi (lv_at hL q hq) (k r M' ho H locs ls hL hP hS)
theorem V_iload (C0 : Cx X G cc nL own ret) {x : Int32} (i : Nat) (q : Nat) (hq : lv[q]? = some (i, .int x)) (hdg : decode cc pc = .ok (.iload i, 2)) (k : V X G h val nL (pc + 2) lv (.int x :: st) M o) : V X G h val nL pc lv st M o := by
  obtain ⟨p, l, e, s, m, args, below, meth, c⟩ := X
  intro r M' ho H locs ls hL hP hS
  exact lv_iload C0.1 C0.2.1 hdg (lv_at hL q hq) (k r M' ho H locs ls hL hP hS)
theorem V_lload_n (C0 : Cx X G cc nL own ret) {kk : Fin 4} {x : Int64} (i : Nat) (hi : (kk : Nat) = i) (q : Nat) (hq : lv[q]? = some (i, .long x)) (hdg : decode cc pc = .ok (.lload_n kk, 1)) (k : V X G h val nL (pc + 1) lv (.long x :: st) M o) : V X G h val nL pc lv st M o := by
  obtain ⟨p, l, e, s, m, args, below, meth, c⟩ := X
  intro r M' ho H locs ls hL hP hS
  exact lv_lload_n C0.1 C0.2.1 hdg hi (lv_at hL q hq) (k r M' ho H locs ls hL hP hS)
theorem V_lload (C0 : Cx X G cc nL own ret) {x : Int64} (i : Nat) (q : Nat) (hq : lv[q]? = some (i, .long x)) (hdg : decode cc pc = .ok (.lload i, 2)) (k : V X G h val nL (pc + 2) lv (.long x :: st) M o) : V X G h val nL pc lv st M o := by
  obtain ⟨p, l, e, s, m, args, below, meth, c⟩ := X
  intro r M' ho H locs ls hL hP hS
  exact lv_lload C0.1 C0.2.1 hdg (lv_at hL q hq) (k r M' ho H locs ls hL hP hS)
theorem V_aload_n (C0 : Cx X G cc nL own ret) {kk : Fin 4} {x : Nat} (i : Nat) (hi : (kk : Nat) = i) (q : Nat) (hq : lv[q]? = some (i, .ref x)) (hdg : decode cc pc = .ok (.aload_n kk, 1)) (k : V X G h val nL (pc + 1) lv (.ref x :: st) M o) : V X G h val nL pc lv st M o := by
  obtain ⟨p, l, e, s, m, args, below, meth, c⟩ := X
  intro r M' ho H locs ls hL hP hS
  exact lv_aload_n C0.1 C0.2.1 hdg hi (lv_at hL q hq) (k r M' ho H locs ls hL hP hS)
theorem V_aload (C0 : Cx X G cc nL own ret) {x : Nat} (i : Nat) (q : Nat) (hq : lv[q]? = some (i, .ref x)) (hdg : decode cc pc = .ok (.aload i, 2)) (k : V X G h val nL (pc + 2) lv (.ref x :: st) M o) : V X G h val nL pc lv st M o := by
  obtain ⟨p, l, e, s, m, args, below, meth, c⟩ := X
  intro r M' ho H locs ls hL hP hS
  exact lv_aload C0.1 C0.2.1 hdg (lv_at hL q hq) (k r M' ho H locs ls hL hP hS)
theorem V_istore_n (C0 : Cx X G cc nL own ret) {kk : Fin 4} {x : Int32} (i : Nat) (lv' : List (Nat × Value)) (hi : (kk : Nat) = i) (hn : i < nL) (hl : (i, Value.int x) :: lv.filter (fun q => !(q.1 == i) && !(q.1 + 1 == i && q.2.category == 2)) = lv') (hdg : decode cc pc = .ok (.istore_n kk, 1)) (k : V X G h val nL (pc + 1) lv' st M o) : V X G h val nL pc lv (.int x :: st) M o := by
  obtain ⟨p, l, e, s, m, args, below, meth, c⟩ := X
  intro r M' ho H locs ls hL hP hS
  exact lv_istore_n C0.1 C0.2.1 hdg hi hL hn hl (fun ls' hL' => k r M' ho H locs ls' hL' hP hS)
theorem V_istore (C0 : Cx X G cc nL own ret) {x : Int32} (i : Nat) (lv' : List (Nat × Value)) (hn : i < nL) (hl : (i, Value.int x) :: lv.filter (fun q => !(q.1 == i) && !(q.1 + 1 == i && q.2.category == 2)) = lv') (hdg : decode cc pc = .ok (.istore i, 2)) (k : V X G h val nL (pc + 2) lv' st M o) : V X G h val nL pc lv (.int x :: st) M o := by
  obtain ⟨p, l, e, s, m, args, below, meth, c⟩ := X
  intro r M' ho H locs ls hL hP hS
  exact lv_istore C0.1 C0.2.1 hdg hL hn hl (fun ls' hL' => k r M' ho H locs ls' hL' hP hS)
theorem V_lstore_n (C0 : Cx X G cc nL own ret) {kk : Fin 4} {x : Int64} (i : Nat) (lv' : List (Nat × Value)) (hi : (kk : Nat) = i) (hn : i + 1 < nL) (hl : (i, Value.long x) :: lv.filter (fun q => !(q.1 == i) && (!(q.1 == i + 1) && !(q.1 + 1 == i && q.2.category == 2))) = lv') (hdg : decode cc pc = .ok (.lstore_n kk, 1)) (k : V X G h val nL (pc + 1) lv' st M o) : V X G h val nL pc lv (.long x :: st) M o := by
  obtain ⟨p, l, e, s, m, args, below, meth, c⟩ := X
  intro r M' ho H locs ls hL hP hS
  exact lv_lstore_n C0.1 C0.2.1 hdg hi hL hn hl (fun ls' hL' => k r M' ho H locs ls' hL' hP hS)
theorem V_lstore (C0 : Cx X G cc nL own ret) {x : Int64} (i : Nat) (lv' : List (Nat × Value)) (hn : i + 1 < nL) (hl : (i, Value.long x) :: lv.filter (fun q => !(q.1 == i) && (!(q.1 == i + 1) && !(q.1 + 1 == i && q.2.category == 2))) = lv') (hdg : decode cc pc = .ok (.lstore i, 2)) (k : V X G h val nL (pc + 2) lv' st M o) : V X G h val nL pc lv (.long x :: st) M o := by
  obtain ⟨p, l, e, s, m, args, below, meth, c⟩ := X
  intro r M' ho H locs ls hL hP hS
  exact lv_lstore C0.1 C0.2.1 hdg hL hn hl (fun ls' hL' => k r M' ho H locs ls' hL' hP hS)
theorem V_astore_n (C0 : Cx X G cc nL own ret) {kk : Fin 4} {x : Nat} (i : Nat) (lv' : List (Nat × Value)) (hi : (kk : Nat) = i) (hn : i < nL) (hl : (i, Value.ref x) :: lv.filter (fun q => !(q.1 == i) && !(q.1 + 1 == i && q.2.category == 2)) = lv') (hdg : decode cc pc = .ok (.astore_n kk, 1)) (k : V X G h val nL (pc + 1) lv' st M o) : V X G h val nL pc lv (.ref x :: st) M o := by
  obtain ⟨p, l, e, s, m, args, below, meth, c⟩ := X
  intro r M' ho H locs ls hL hP hS
  exact lv_astore_n C0.1 C0.2.1 hdg hi hL hn hl (fun ls' hL' => k r M' ho H locs ls' hL' hP hS)
theorem V_astore (C0 : Cx X G cc nL own ret) {x : Nat} (i : Nat) (lv' : List (Nat × Value)) (hn : i < nL) (hl : (i, Value.ref x) :: lv.filter (fun q => !(q.1 == i) && !(q.1 + 1 == i && q.2.category == 2)) = lv') (hdg : decode cc pc = .ok (.astore i, 2)) (k : V X G h val nL (pc + 2) lv' st M o) : V X G h val nL pc lv (.ref x :: st) M o := by
  obtain ⟨p, l, e, s, m, args, below, meth, c⟩ := X
  intro r M' ho H locs ls hL hP hS
  exact lv_astore C0.1 C0.2.1 hdg hL hn hl (fun ls' hL' => k r M' ho H locs ls' hL' hP hS)
theorem V_iinc (C0 : Cx X G cc nL own ret) {n : Int} {x y : Int32} (i q : Nat) (lv' : List (Nat × Value)) (hq : lv[q]? = some (i, .int x)) (hv : Int32.ofInt n = y) (hn : i < nL) (hl : (i, Value.int (x + y)) :: lv.filter (fun q => !(q.1 == i) && !(q.1 + 1 == i && q.2.category == 2)) = lv') (hdg : decode cc pc = .ok (.iinc i n, 3)) (k : V X G h val nL (pc + 3) lv' st M o) : V X G h val nL pc lv st M o := by
  subst hv
  obtain ⟨p, l, e, s, m, args, below, meth, c⟩ := X
  intro r M' ho H locs ls hL hP hS
  exact lv_iinc C0.1 C0.2.1 hdg hL hq rfl hn hl (fun ls' hL' => k r M' ho H locs ls' hL' hP hS)
theorem V_iincB (C0 : Cx X G cc nL own ret) {n : Int} {x y : Int32} {f : Int32 → Option (ρ × Mem)} (i q : Nat) (lv' : Int32 → List (Nat × Value)) (hq : lv[q]? = some (i, .int x)) (hv : Int32.ofInt n = y) (hn : i < nL) (hl : ∀ z : Int32, (i, Value.int z) :: lv.filter (fun q => !(q.1 == i) && !(q.1 + 1 == i && q.2.category == 2)) = lv' z) (hdg : decode cc pc = .ok (.iinc i n, 3)) (k : ∀ z : Int32, V X G h val nL (pc + 3) (lv' z) st M (f z)) : V X G h val nL pc lv st M (bi (x + y) f) :=
  V_iinc C0 i q (lv' (x + y)) hq hv hn (hl _) hdg (k (x + y))
theorem V_iadd (C0 : Cx X G cc nL own ret) {x y : Int32} (hdg : decode cc pc = .ok (.iadd, 1)) (k : V X G h val nL (pc + 1) lv (.int (x + y) :: st) M o) : V X G h val nL pc lv (.int y :: .int x :: st) M o := by
  obtain ⟨p, l, e, s, m, args, below, meth, c⟩ := X
  intro r M' ho H locs ls hL hP hS
  exact lv_iadd C0.1 C0.2.1 hdg (k r M' ho H locs ls hL hP hS)
theorem V_isub (C0 : Cx X G cc nL own ret) {x y : Int32} (hdg : decode cc pc = .ok (.isub, 1)) (k : V X G h val nL (pc + 1) lv (.int (x - y) :: st) M o) : V X G h val nL pc lv (.int y :: .int x :: st) M o := by
  obtain ⟨p, l, e, s, m, args, below, meth, c⟩ := X
  intro r M' ho H locs ls hL hP hS
  exact lv_isub C0.1 C0.2.1 hdg (k r M' ho H locs ls hL hP hS)
theorem V_imul (C0 : Cx X G cc nL own ret) {x y : Int32} (hdg : decode cc pc = .ok (.imul, 1)) (k : V X G h val nL (pc + 1) lv (.int (x * y) :: st) M o) : V X G h val nL pc lv (.int y :: .int x :: st) M o := by
  obtain ⟨p, l, e, s, m, args, below, meth, c⟩ := X
  intro r M' ho H locs ls hL hP hS
  exact lv_imul C0.1 C0.2.1 hdg (k r M' ho H locs ls hL hP hS)
theorem V_iand (C0 : Cx X G cc nL own ret) {x y : Int32} (hdg : decode cc pc = .ok (.iand, 1)) (k : V X G h val nL (pc + 1) lv (.int (x &&& y) :: st) M o) : V X G h val nL pc lv (.int y :: .int x :: st) M o := by
  obtain ⟨p, l, e, s, m, args, below, meth, c⟩ := X
  intro r M' ho H locs ls hL hP hS
  exact lv_iand C0.1 C0.2.1 hdg (k r M' ho H locs ls hL hP hS)
theorem V_ladd (C0 : Cx X G cc nL own ret) {x y : Int64} (hdg : decode cc pc = .ok (.ladd, 1)) (k : V X G h val nL (pc + 1) lv (.long (x + y) :: st) M o) : V X G h val nL pc lv (.long y :: .long x :: st) M o := by
  obtain ⟨p, l, e, s, m, args, below, meth, c⟩ := X
  intro r M' ho H locs ls hL hP hS
  exact lv_ladd C0.1 C0.2.1 hdg (k r M' ho H locs ls hL hP hS)
theorem V_lsub (C0 : Cx X G cc nL own ret) {x y : Int64} (hdg : decode cc pc = .ok (.lsub, 1)) (k : V X G h val nL (pc + 1) lv (.long (x - y) :: st) M o) : V X G h val nL pc lv (.long y :: .long x :: st) M o := by
  obtain ⟨p, l, e, s, m, args, below, meth, c⟩ := X
  intro r M' ho H locs ls hL hP hS
  exact lv_lsub C0.1 C0.2.1 hdg (k r M' ho H locs ls hL hP hS)
theorem V_lmul (C0 : Cx X G cc nL own ret) {x y : Int64} (hdg : decode cc pc = .ok (.lmul, 1)) (k : V X G h val nL (pc + 1) lv (.long (x * y) :: st) M o) : V X G h val nL pc lv (.long y :: .long x :: st) M o := by
  obtain ⟨p, l, e, s, m, args, below, meth, c⟩ := X
  intro r M' ho H locs ls hL hP hS
  exact lv_lmul C0.1 C0.2.1 hdg (k r M' ho H locs ls hL hP hS)
theorem V_ineg (C0 : Cx X G cc nL own ret) {x : Int32} (hdg : decode cc pc = .ok (.ineg, 1)) (k : V X G h val nL (pc + 1) lv (.int (-x) :: st) M o) : V X G h val nL pc lv (.int x :: st) M o := by
  obtain ⟨p, l, e, s, m, args, below, meth, c⟩ := X
  intro r M' ho H locs ls hL hP hS
  exact lv_ineg C0.1 C0.2.1 hdg (k r M' ho H locs ls hL hP hS)
theorem V_idiv (C0 : Cx X G cc nL own ret) {x y : Int32} (hne : ¬ y = 0) (hdg : decode cc pc = .ok (.idiv, 1)) (k : V X G h val nL (pc + 1) lv (.int (x / y) :: st) M o) : V X G h val nL pc lv (.int y :: .int x :: st) M o := by
  obtain ⟨p, l, e, s, m, args, below, meth, c⟩ := X
  intro r M' ho H locs ls hL hP hS
  exact lv_idiv C0.1 C0.2.1 hdg hne (k r M' ho H locs ls hL hP hS)
theorem V_irem (C0 : Cx X G cc nL own ret) {x y : Int32} (hne : ¬ y = 0) (hdg : decode cc pc = .ok (.irem, 1)) (k : V X G h val nL (pc + 1) lv (.int (x - x / y * y) :: st) M o) : V X G h val nL pc lv (.int y :: .int x :: st) M o := by
  obtain ⟨p, l, e, s, m, args, below, meth, c⟩ := X
  intro r M' ho H locs ls hL hP hS
  exact lv_irem C0.1 C0.2.1 hdg hne (k r M' ho H locs ls hL hP hS)
theorem V_i2l (C0 : Cx X G cc nL own ret) {x : Int32} (hdg : decode cc pc = .ok (.i2l, 1)) (k : V X G h val nL (pc + 1) lv (.long x.toInt64 :: st) M o) : V X G h val nL pc lv (.int x :: st) M o := by
  obtain ⟨p, l, e, s, m, args, below, meth, c⟩ := X
  intro r M' ho H locs ls hL hP hS
  exact lv_i2l C0.1 C0.2.1 hdg rfl (k r M' ho H locs ls hL hP hS)
theorem V_l2i (C0 : Cx X G cc nL own ret) {x : Int64} (hdg : decode cc pc = .ok (.l2i, 1)) (k : V X G h val nL (pc + 1) lv (.int x.toInt32 :: st) M o) : V X G h val nL pc lv (.long x :: st) M o := by
  obtain ⟨p, l, e, s, m, args, below, meth, c⟩ := X
  intro r M' ho H locs ls hL hP hS
  exact lv_l2i C0.1 C0.2.1 hdg rfl (k r M' ho H locs ls hL hP hS)
theorem V_lcmp (C0 : Cx X G cc nL own ret) {x y : Int64} (hdg : decode cc pc = .ok (.lcmp, 1)) (k : V X G h val nL (pc + 1) lv (.int (lg_cmp x y) :: st) M o) : V X G h val nL pc lv (.long y :: .long x :: st) M o := by
  obtain ⟨p, l, e, s, m, args, below, meth, c⟩ := X
  intro r M' ho H locs ls hL hP hS
  exact W.lcmp C0.1 C0.2.1 hdg (k r M' ho H locs ls hL hP hS)
theorem V_dup (C0 : Cx X G cc nL own ret) {va : Value} (hva : va.category = 1) (hdg : decode cc pc = .ok (.dup, 1)) (k : V X G h val nL (pc + 1) lv (va :: va :: st) M o) : V X G h val nL pc lv (va :: st) M o := by
  obtain ⟨p, l, e, s, m, args, below, meth, c⟩ := X
  intro r M' ho H locs ls hL hP hS
  exact lv_dup C0.1 C0.2.1 hdg hva (k r M' ho H locs ls hL hP hS)
theorem V_dup2 (C0 : Cx X G cc nL own ret) {va vb : Value} (hva : va.category = 1) (hvb : vb.category = 1) (hdg : decode cc pc = .ok (.dup2, 1)) (k : V X G h val nL (pc + 1) lv (va :: vb :: va :: vb :: st) M o) : V X G h val nL pc lv (va :: vb :: st) M o := by
  obtain ⟨p, l, e, s, m, args, below, meth, c⟩ := X
  intro r M' ho H locs ls hL hP hS
  exact lv_dup2_11 C0.1 C0.2.1 hdg hva hvb (k r M' ho H locs ls hL hP hS)
theorem V_pop (C0 : Cx X G cc nL own ret) {va : Value} (hva : va.category = 1) (hdg : decode cc pc = .ok (.pop, 1)) (k : V X G h val nL (pc + 1) lv st M o) : V X G h val nL pc lv (va :: st) M o := by
  obtain ⟨p, l, e, s, m, args, below, meth, c⟩ := X
  intro r M' ho H locs ls hL hP hS
  exact lv_pop C0.1 C0.2.1 hdg hva (k r M' ho H locs ls hL hP hS)
theorem V_goto (C0 : Cx X G cc nL own ret) {off : Int} (tgt : Nat) (hdg : decode cc pc = .ok (.goto off, 3)) (ht : (pc : Int) + off = (tgt : Int)) (k : V X G h val nL tgt lv st M o) : V X G h val nL pc lv st M o := by
  obtain ⟨p, l, e, s, m, args, below, meth, c⟩ := X
  intro r M' ho H locs ls hL hP hS
  exact lv_goto C0.1 C0.2.1 hdg ht (k r M' ho H locs ls hL hP hS)
theorem V_ifeq (C0 : Cx X G cc nL own ret) {x : Int32} {off : Int} (tgt : Nat) (hdg : decode cc pc = .ok (.ifCond .eq off, 3)) (ht : (pc : Int) + off = (tgt : Int)) (k1 : x = 0 → V X G h val nL tgt lv st M o1) (k2 : ¬ x = 0 → V X G h val nL (pc + 3) lv st M o2) : V X G h val nL pc lv (.int x :: st) M (if x = 0 then o1 else o2) := by
  obtain ⟨p, l, e, s, m, args, below, meth, c⟩ := X
  intro r M' ho H locs ls hL hP hS
  exact lv_if_eq C0.1 C0.2.1 hdg ht (fun q => k1 q r M' (by rw [if_pos q] at ho; exact ho) H locs ls hL hP hS) (fun q => k2 q r M' (by rw [if_neg q] at ho; exact ho) H locs ls hL hP hS)
theorem V_ifne (C0 : Cx X G cc nL own ret) {x : Int32} {off : Int} (tgt : Nat) (hdg : decode cc pc = .ok (.ifCond .ne off, 3)) (ht : (pc : Int) + off = (tgt : Int)) (k1 : ¬ x = 0 → V X G h val nL tgt lv st M o1) (k2 : x = 0 → V X G h val nL (pc + 3) lv st M o2) : V X G h val nL pc lv (.int x :: st) M (if x = 0 then o2 else o1) := by
  obtain ⟨p, l, e, s, m, args, below, meth, c⟩ := X
  intro r M' ho H locs ls hL hP hS
  exact lv_if_ne C0.1 C0.2.1 hdg ht (fun q => k1 q r M' (by rw [if_neg q] at ho; exact ho) H locs ls hL hP hS) (fun q => k2 q r M' (by rw [if_pos q] at ho; exact ho) H locs ls hL hP hS)
theorem V_iflt (C0 : Cx X G cc nL own ret) {x : Int32} {off : Int} (tgt : Nat) (hdg : decode cc pc = .ok (.ifCond .lt off, 3)) (ht : (pc : Int) + off = (tgt : Int)) (k1 : x < 0 → V X G h val nL tgt lv st M o1) (k2 : ¬ x < 0 → V X G h val nL (pc + 3) lv st M o2) : V X G h val nL pc lv (.int x :: st) M (if x < 0 then o1 else o2) := by
  obtain ⟨p, l, e, s, m, args, below, meth, c⟩ := X
  intro r M' ho H locs ls hL hP hS
  exact lv_if_lt C0.1 C0.2.1 hdg ht (fun q => k1 q r M' (by rw [if_pos q] at ho; exact ho) H locs ls hL hP hS) (fun q => k2 q r M' (by rw [if_neg q] at ho; exact ho) H locs ls hL hP hS)
theorem V_ifge (C0 : Cx X G cc nL own ret) {x : Int32} {off : Int} (tgt : Nat) (hdg : decode cc pc = .ok (.ifCond .ge off, 3)) (ht : (pc : Int) + off = (tgt : Int)) (k1 : 0 ≤ x → V X G h val nL tgt lv st M o1) (k2 : ¬ 0 ≤ x → V X G h val nL (pc + 3) lv st M o2) : V X G h val nL pc lv (.int x :: st) M (if 0 ≤ x then o1 else o2) := by
  obtain ⟨p, l, e, s, m, args, below, meth, c⟩ := X
  intro r M' ho H locs ls hL hP hS
  exact lv_if_ge C0.1 C0.2.1 hdg ht (fun q => k1 q r M' (by rw [if_pos q] at ho; exact ho) H locs ls hL hP hS) (fun q => k2 q r M' (by rw [if_neg q] at ho; exact ho) H locs ls hL hP hS)
theorem V_ifgt (C0 : Cx X G cc nL own ret) {x : Int32} {off : Int} (tgt : Nat) (hdg : decode cc pc = .ok (.ifCond .gt off, 3)) (ht : (pc : Int) + off = (tgt : Int)) (k1 : 0 < x → V X G h val nL tgt lv st M o1) (k2 : ¬ 0 < x → V X G h val nL (pc + 3) lv st M o2) : V X G h val nL pc lv (.int x :: st) M (if 0 < x then o1 else o2) := by
  obtain ⟨p, l, e, s, m, args, below, meth, c⟩ := X
  intro r M' ho H locs ls hL hP hS
  exact lv_if_gt C0.1 C0.2.1 hdg ht (fun q => k1 q r M' (by rw [if_pos q] at ho; exact ho) H locs ls hL hP hS) (fun q => k2 q r M' (by rw [if_neg q] at ho; exact ho) H locs ls hL hP hS)
theorem V_ifle (C0 : Cx X G cc nL own ret) {x : Int32} {off : Int} (tgt : Nat) (hdg : decode cc pc = .ok (.ifCond .le off, 3)) (ht : (pc : Int) + off = (tgt : Int)) (k1 : x ≤ 0 → V X G h val nL tgt lv st M o1) (k2 : ¬ x ≤ 0 → V X G h val nL (pc + 3) lv st M o2) : V X G h val nL pc lv (.int x :: st) M (if x ≤ 0 then o1 else o2) := by
  obtain ⟨p, l, e, s, m, args, below, meth, c⟩ := X
  intro r M' ho H locs ls hL hP hS
  exact lv_if_le C0.1 C0.2.1 hdg ht (fun q => k1 q r M' (by rw [if_pos q] at ho; exact ho) H locs ls hL hP hS) (fun q => k2 q r M' (by rw [if_neg q] at ho; exact ho) H locs ls hL hP hS)
theorem V_icmpeq (C0 : Cx X G cc nL own ret) {x y : Int32} {off : Int} (tgt : Nat) (hdg : decode cc pc = .ok (.if_icmp .eq off, 3)) (ht : (pc : Int) + off = (tgt : Int)) (k1 : x = y → V X G h val nL tgt lv st M o1) (k2 : ¬ x = y → V X G h val nL (pc + 3) lv st M o2) : V X G h val nL pc lv (.int y :: .int x :: st) M (if x = y then o1 else o2) := by
  obtain ⟨p, l, e, s, m, args, below, meth, c⟩ := X
  intro r M' ho H locs ls hL hP hS
  exact lv_icmp_eq C0.1 C0.2.1 hdg ht (fun q => k1 q r M' (by rw [if_pos q] at ho; exact ho) H locs ls hL hP hS) (fun q => k2 q r M' (by rw [if_neg q] at ho; exact ho) H locs ls hL hP hS)
theorem V_icmpne (C0 : Cx X G cc nL own ret) {x y : Int32} {off : Int} (tgt : Nat) (hdg : decode cc pc = .ok (.if_icmp .ne off, 3)) (ht : (pc : Int) + off = (tgt : Int)) (k1 : ¬ x = y → V X G h val nL tgt lv st M o1) (k2 : x = y → V X G h val nL (pc + 3) lv st M o2) : V X G h val nL pc lv (.int y :: .int x :: st) M (if x = y then o2 else o1) := by
  obtain ⟨p, l, e, s, m, args, below, meth, c⟩ := X
  intro r M' ho H locs ls hL hP hS
  exact lv_icmp_ne C0.1 C0.2.1 hdg ht (fun q => k1 q r M' (by rw [if_neg q] at ho; exact ho) H locs ls hL hP hS) (fun q => k2 q r M' (by rw [if_pos q] at ho; exact ho) H locs ls hL hP hS)
theorem V_icmplt (C0 : Cx X G cc nL own ret) {x y : Int32} {off : Int} (tgt : Nat) (hdg : decode cc pc = .ok (.if_icmp .lt off, 3)) (ht : (pc : Int) + off = (tgt : Int)) (k1 : x < y → V X G h val nL tgt lv st M o1) (k2 : ¬ x < y → V X G h val nL (pc + 3) lv st M o2) : V X G h val nL pc lv (.int y :: .int x :: st) M (if x < y then o1 else o2) := by
  obtain ⟨p, l, e, s, m, args, below, meth, c⟩ := X
  intro r M' ho H locs ls hL hP hS
  exact lv_icmp_lt C0.1 C0.2.1 hdg ht (fun q => k1 q r M' (by rw [if_pos q] at ho; exact ho) H locs ls hL hP hS) (fun q => k2 q r M' (by rw [if_neg q] at ho; exact ho) H locs ls hL hP hS)
theorem V_icmpge (C0 : Cx X G cc nL own ret) {x y : Int32} {off : Int} (tgt : Nat) (hdg : decode cc pc = .ok (.if_icmp .ge off, 3)) (ht : (pc : Int) + off = (tgt : Int)) (k1 : y ≤ x → V X G h val nL tgt lv st M o1) (k2 : ¬ y ≤ x → V X G h val nL (pc + 3) lv st M o2) : V X G h val nL pc lv (.int y :: .int x :: st) M (if y ≤ x then o1 else o2) := by
  obtain ⟨p, l, e, s, m, args, below, meth, c⟩ := X
  intro r M' ho H locs ls hL hP hS
  exact lv_icmp_ge C0.1 C0.2.1 hdg ht (fun q => k1 q r M' (by rw [if_pos q] at ho; exact ho) H locs ls hL hP hS) (fun q => k2 q r M' (by rw [if_neg q] at ho; exact ho) H locs ls hL hP hS)
theorem V_icmpgt (C0 : Cx X G cc nL own ret) {x y : Int32} {off : Int} (tgt : Nat) (hdg : decode cc pc = .ok (.if_icmp .gt off, 3)) (ht : (pc : Int) + off = (tgt : Int)) (k1 : y < x → V X G h val nL tgt lv st M o1) (k2 : ¬ y < x → V X G h val nL (pc + 3) lv st M o2) : V X G h val nL pc lv (.int y :: .int x :: st) M (if y < x then o1 else o2) := by
  obtain ⟨p, l, e, s, m, args, below, meth, c⟩ := X
  intro r M' ho H locs ls hL hP hS
  exact lv_icmp_gt C0.1 C0.2.1 hdg ht (fun q => k1 q r M' (by rw [if_pos q] at ho; exact ho) H locs ls hL hP hS) (fun q => k2 q r M' (by rw [if_neg q] at ho; exact ho) H locs ls hL hP hS)
theorem V_icmple (C0 : Cx X G cc nL own ret) {x y : Int32} {off : Int} (tgt : Nat) (hdg : decode cc pc = .ok (.if_icmp .le off, 3)) (ht : (pc : Int) + off = (tgt : Int)) (k1 : x ≤ y → V X G h val nL tgt lv st M o1) (k2 : ¬ x ≤ y → V X G h val nL (pc + 3) lv st M o2) : V X G h val nL pc lv (.int y :: .int x :: st) M (if x ≤ y then o1 else o2) := by
  obtain ⟨p, l, e, s, m, args, below, meth, c⟩ := X
  intro r M' ho H locs ls hL hP hS
  exact lv_icmp_le C0.1 C0.2.1 hdg ht (fun q => k1 q r M' (by rw [if_pos q] at ho; exact ho) H locs ls hL hP hS) (fun q => k2 q r M' (by rw [if_neg q] at ho; exact ho) H locs ls hL hP hS)
/-- a switch: one value, the others behind it -/
theorem V_ts (C0 : Cx X G cc nL own ret) {x : Int32} {dflt lo hi off : Int} {offs : Array Int} {len : Nat} (v : Int32) (tgt : Nat) (hdg : decode cc pc = .ok (.tableswitch dflt lo hi offs, len)) (h1 : ¬ v.toInt < lo) (h2 : ¬ hi < v.toInt) (hof : offs[(v.toInt - lo).toNat]? = some off) (ht : (pc : Int) + off = (tgt : Int)) (k1 : x = v → V X G h val nL tgt lv st M o1) (k2 : ¬ x = v → V X G h val nL pc lv (.int x :: st) M o2) : V X G h val nL pc lv (.int x :: st) M (if x = v then o1 else o2) := by
  by_cases q : x = v
  · rw [if_pos q]
    subst q
    obtain ⟨p, l, e, s, m, args, below, meth, c⟩ := X
    intro r M' ho H locs ls hL hP hS
    exact lv_tableIn C0.1 C0.2.1 hdg h1 h2 hof ht (k1 rfl r M' ho H locs ls hL hP hS)
  · rw [if_neg q]
    exact k2 q
theorem V_tsO (C0 : Cx X G cc nL own ret) {x : Int32} {dflt lo hi : Int} {offs : Array Int} {len : Nat} (tgt : Nat) (hdg : decode cc pc = .ok (.tableswitch dflt lo hi offs, len)) (hx : x.toInt < lo ∨ hi < x.toInt) (ht : (pc : Int) + dflt = (tgt : Int)) (k : V X G h val nL tgt lv st M o) : V X G h val nL pc lv (.int x :: st) M o := by
  obtain ⟨p, l, e, s, m, args, below, meth, c⟩ := X
  intro r M' ho H locs ls hL hP hS
  exact lv_tableOut C0.1 C0.2.1 hdg hx ht (k r M' ho H locs ls hL hP hS)
theorem V_getI (C0 : Cx X G cc nL own ret) {C : String} {T : u_T} {N ci index a : Nat} (kf : Nat) (hin : ∀ w ∈ u_ws C T N, w ∈ TBLG) (hc : vwCl[ci]? = some (C, T, N)) (hci : ci < 10) (hk : kf < N) (hw : Cond.fieldLink own index C (T kf).2.1 (T kf).2.2.1 ∈ TBLG) (hT : (T kf).1 = C) (hsh : sh a = (ci, N)) (hrf : isRf ci kf = false) (hdg : decode cc pc = .ok (.getfield index, 3)) (k : V X G h val nL (pc + 3) lv (.int (M.1 a kf) :: st) M o) : V X G h val nL pc lv (.ref (G.2 + a) :: st) M o := by
  obtain ⟨p, l, e, s, m, args, below, meth, c⟩ := X
  intro r M' ho H locs ls hL hP hS
  exact va_get (C := C) (T := T) (N := N) C0.1 C0.2.1 C0.2.2.2.2.1 hin C0.2.2.2.1 C0.2.2.2.2.2.1.1 hP.1 a (by rw [cells_at (hP.lt (lt_of_sh (by rw [hsh]) (show ci < 50 by omega))), ent_o hsh hci]) hc kf hk (C0.2.2.2.2.1 _ hw) (fun _ hx => by rw [← hT]; exact hx) (by simp [hk, fv, hrf]) hdg (k r M' ho H locs ls hL hP hS)
theorem V_getR (C0 : Cx X G cc nL own ret) {C : String} {T : u_T} {N ci index a : Nat} (kf : Nat) (hin : ∀ w ∈ u_ws C T N, w ∈ TBLG) (hc : vwCl[ci]? = some (C, T, N)) (hci : ci < 10) (hk : kf < N) (hw : Cond.fieldLink own index C (T kf).2.1 (T kf).2.2.1 ∈ TBLG) (hT : (T kf).1 = C) (hsh : sh a = (ci, N)) {b : Nat} (hrf : isRf ci kf = true) (hb : rf a kf = b) (hdg : decode cc pc = .ok (.getfield index, 3)) (k : V X G h val nL (pc + 3) lv (.ref (G.2 + b) :: st) M o) : V X G h val nL pc lv (.ref (G.2 + a) :: st) M o := by
  subst hb
  obtain ⟨p, l, e, s, m, args, below, meth, c⟩ := X
  intro r M' ho H locs ls hL hP hS
  exact va_get (C := C) (T := T) (N := N) C0.1 C0.2.1 C0.2.2.2.2.1 hin C0.2.2.2.1 C0.2.2.2.2.2.1.1 hP.1 a (by rw [cells_at (hP.lt (lt_of_sh (by rw [hsh]) (show ci < 50 by omega))), ent_o hsh hci]) hc kf hk (C0.2.2.2.2.1 _ hw) (fun _ hx => by rw [← hT]; exact hx) (by simp [hk, fv, hrf]) hdg (k r M' ho H locs ls hL hP hS)
theorem V_put (C0 : Cx X G cc nL own ret) {C : String} {T : u_T} {N ci index a : Nat} (kf : Nat) (hin : ∀ w ∈ u_ws C T N, w ∈ TBLG) (hc : vwCl[ci]? = some (C, T, N)) (hci : ci < 10) (hk : kf < N) (hw : Cond.fieldLink own index C (T kf).2.1 (T kf).2.2.1 ∈ TBLG) (hT : (T kf).1 = C) (hsh : sh a = (ci, N)) {v : Int32} {f : Mem → Option (ρ × Mem)} {ty : FieldType} (ty0 : Nat → FieldType) (hty : ∀ k, k < N → parseFieldDescriptor (T k).2.2.1 = some (ty0 k)) (hnm : ∀ a, a < N → ∀ b, b < N → a ≠ b → (T a).2.1 ≠ (T b).2.1) (hrf : isRf ci kf = false) (hfin : (T kf).2.2.2 = false) (hd : parseFieldDescriptor (T kf).2.2.1 = some ty) (hn : narrow ty (.int v) = .int v) (hfit : fits ty (.int v) = true) (hdg : decode cc pc = .ok (.putfield index, 3)) (k : ∀ M1, V X G h val nL (pc + 3) lv st M1 (f M1)) : V X G h val nL pc lv (.int v :: .ref (G.2 + a) :: st) M (bm (mset M a kf v) f) := by
  obtain ⟨p, l, e, s, m, args, below, meth, c⟩ := X
  intro r M' ho H locs ls hL hP hS
  exact va_put (C := C) (T := T) (N := N) C0.1 C0.2.1 C0.2.2.2.2.1 hin ty0 hty hnm C0.2.2.2.1 C0.2.2.2.2.2.1.1 hP.1 cells_D hS a (by rw [cells_at (hP.lt (lt_of_sh (by rw [hsh]) (show ci < 50 by omega))), ent_o hsh hci]) hc kf hk (C0.2.2.2.2.1 _ hw) (fun _ hx => by rw [← hT]; exact hx) hfin hd hn hfit (by simpa using hk) hdg (fun H1 locs1 hP1 _ hS1 => k _ r M' ho H1 locs1 ls hL ⟨by rw [cells_put hP.2.2 hsh hci hk hrf] at hP1; exact hP1, hP.2⟩ hS1)
theorem V_getIN (C0 : Cx X G cc nL own ret) {C : String} {T : u_T} {N ci index a : Nat} {host : String} (kf : Nat) (hin : ∀ w ∈ u_ws C T N, w ∈ TBLG) (hc : vwCl[ci]? = some (C, T, N)) (hci : ci < 10) (hk : kf < N) (hw : Cond.fieldLinkNest own index C (T kf).2.1 (T kf).2.2.1 host ∈ NWL) (hT : (T kf).1 = C) (hsh : sh a = (ci, N)) (hrf : isRf ci kf = false) (hdg : decode cc pc = .ok (.getfield index, 3)) (k : V X G h val nL (pc + 3) lv (.int (M.1 a kf) :: st) M o) : V X G h val nL pc lv (.ref (G.2 + a) :: st) M o := by
  obtain ⟨p, l, e, s, m, args, below, meth, c⟩ := X
  intro r M' ho H locs ls hL hP hS
  exact va_getN (C := C) (T := T) (N := N) C0.1 C0.2.1 C0.2.2.2.2.1 hin C0.2.2.2.1 C0.2.2.2.2.2.1.1 hP.1 a (by rw [cells_at (hP.lt (lt_of_sh (by rw [hsh]) (show ci < 50 by omega))), ent_o hsh hci]) hc kf hk (va_Nw.use rfl (C0.2.2.2.2.2.1.2 _ hw)) (fun _ hx => by rw [← hT]; exact hx) (by simp [hk, fv, hrf]) hdg (k r M' ho H locs ls hL hP hS)
theorem V_getRN (C0 : Cx X G cc nL own ret) {C : String} {T : u_T} {N ci index a : Nat} {host : String} (kf : Nat) (hin : ∀ w ∈ u_ws C T N, w ∈ TBLG) (hc : vwCl[ci]? = some (C, T, N)) (hci : ci < 10) (hk : kf < N) (hw : Cond.fieldLinkNest own index C (T kf).2.1 (T kf).2.2.1 host ∈ NWL) (hT : (T kf).1 = C) (hsh : sh a = (ci, N)) {b : Nat} (hrf : isRf ci kf = true) (hb : rf a kf = b) (hdg : decode cc pc = .ok (.getfield index, 3)) (k : V X G h val nL (pc + 3) lv (.ref (G.2 + b) :: st) M o) : V X G h val nL pc lv (.ref (G.2 + a) :: st) M o := by
  subst hb
  obtain ⟨p, l, e, s, m, args, below, meth, c⟩ := X
  intro r M' ho H locs ls hL hP hS
  exact va_getN (C := C) (T := T) (N := N) C0.1 C0.2.1 C0.2.2.2.2.1 hin C0.2.2.2.1 C0.2.2.2.2.2.1.1 hP.1 a (by rw [cells_at (hP.lt (lt_of_sh (by rw [hsh]) (show ci < 50 by omega))), ent_o hsh hci]) hc kf hk (va_Nw.use rfl (C0.2.2.2.2.2.1.2 _ hw)) (fun _ hx => by rw [← hT]; exact hx) (by simp [hk, fv, hrf]) hdg (k r M' ho H locs ls hL hP hS)
theorem V_putN (C0 : Cx X G cc nL own ret) {C : String} {T : u_T} {N ci index a : Nat} {host : String} (kf : Nat) (hin : ∀ w ∈ u_ws C T N, w ∈ TBLG) (hc : vwCl[ci]? = some (C, T, N)) (hci : ci < 10) (hk : kf < N) (hw : Cond.fieldLinkNest own index C (T kf).2.1 (T kf).2.2.1 host ∈ NWL) (hT : (T kf).1 = C) (hsh : sh a = (ci, N)) {v : Int32} {f : Mem → Option (ρ × Mem)} {ty : FieldType} (ty0 : Nat → FieldType) (hty : ∀ k, k < N → parseFieldDescriptor (T k).2.2.1 = some (ty0 k)) (hnm : ∀ a, a < N → ∀ b, b < N → a ≠ b → (T a).2.1 ≠ (T b).2.1) (hrf : isRf ci kf = false) (hfin : (T kf).2.2.2 = false) (hd : parseFieldDescriptor (T kf).2.2.1 = some ty) (hn : narrow ty (.int v) = .int v) (hfit : fits ty (.int v) = true) (hdg : decode cc pc = .ok (.putfield index, 3)) (k : ∀ M1, V X G h val nL (pc + 3) lv st M1 (f M1)) : V X G h val nL pc lv (.int v :: .ref (G.2 + a) :: st) M (bm (mset M a kf v) f) := by
  obtain ⟨p, l, e, s, m, args, below, meth, c⟩ := X
  intro r M' ho H locs ls hL hP hS
  exact va_putN (C := C) (T := T) (N := N) C0.1 C0.2.1 C0.2.2.2.2.1 hin ty0 hty hnm C0.2.2.2.1 C0.2.2.2.2.2.1.1 hP.1 cells_D hS a (by rw [cells_at (hP.lt (lt_of_sh (by rw [hsh]) (show ci < 50 by omega))), ent_o hsh hci]) hc kf hk (va_Nw.use rfl (C0.2.2.2.2.2.1.2 _ hw)) (fun _ hx => by rw [← hT]; exact hx) hfin hd hn hfit (by simpa using hk) hdg (fun H1 locs1 hP1 _ hS1 => k _ r M' ho H1 locs1 ls hL ⟨by rw [cells_put hP.2.2 hsh hci hk hrf] at hP1; exact hP1, hP.2⟩ hS1)
theorem V_iald (C0 : Cx X G cc nL own ret) {a : Nat} {i : Int32} (n : Nat) (ha : (sh a).1 = 10) (hn : ln a = n) (hdg : decode cc pc = .ok (.iaload, 1)) (k : V X G h val nL (pc + 1) lv (.int (M.1 a (ix i)) :: st) M o) : V X G h val nL pc lv (.int i :: .ref (G.2 + a) :: st) M (gd (inb i n) o) := by
  refine V_gd fun hi => ?_
  subst hn
  obtain ⟨p, l, e, s, m, args, below, meth, c⟩ := X
  intro r M' ho H locs ls hL hP hS
  exact va_iald C0.1 C0.2.1 C0.2.2.2.2.2.1.1 hP.1 a 0 (by rw [cells_at (hP.lt (lt_of_sh ha (by omega))), ent_i ha]) rfl (inb_vp hi) hdg (k r M' ho H locs ls hL hP hS)
theorem V_iast (C0 : Cx X G cc nL own ret) {a : Nat} {i x : Int32} {f : Mem → Option (ρ × Mem)} (n : Nat) (ha : (sh a).1 = 10) (hn : ln a = n) (hdg : decode cc pc = .ok (.iastore, 1)) (k : ∀ M1, V X G h val nL (pc + 1) lv st M1 (f M1)) : V X G h val nL pc lv (.int x :: .int i :: .ref (G.2 + a) :: st) M (gd (inb i n) (bm (mset M a (ix i) x) f)) := by
  refine V_gd fun hi => ?_
  subst hn
  obtain ⟨p, l, e, s, m, args, below, meth, c⟩ := X
  intro r M' ho H locs ls hL hP hS
  exact va_iast C0.1 C0.2.1 C0.2.2.2.2.2.1.1 hP.1 cells_D hS a 0 (by rw [cells_at (hP.lt (lt_of_sh ha (by omega))), ent_i ha]) rfl (inb_vp hi) hdg (fun H1 locs1 hP1 _ hS1 => k _ r M' ho H1 locs1 ls hL ⟨by rw [cells_i hP.2.2 ha] at hP1; exact hP1, hP.2⟩ hS1)
theorem V_alenI (C0 : Cx X G cc nL own ret) {a : Nat} (v : Int32) (ha : (sh a).1 = 10) (hv : Int32.ofNat (ln a) = v) (hdg : decode cc pc = .ok (.arraylength, 1)) (k : V X G h val nL (pc + 1) lv (.int v :: st) M o) : V X G h val nL pc lv (.ref (G.2 + a) :: st) M o := by
  obtain ⟨p, l, e, s, m, args, below, meth, c⟩ := X
  intro r M' ho H locs ls hL hP hS
  exact va_alen C0.1 C0.2.1 C0.2.2.2.2.2.1.1 hP.1 a 0 (by rw [cells_at (hP.lt (lt_of_sh ha (by omega))), ent_i ha]) (ty := .int) rfl hv hdg (k r M' ho H locs ls hL hP hS)
theorem V_alenF (C0 : Cx X G cc nL own ret) {a : Nat} (v : Int32) (ha : (sh a).1 = 12) (hv : Int32.ofNat (ln a) = v) (hdg : decode cc pc = .ok (.arraylength, 1)) (k : V X G h val nL (pc + 1) lv (.int v :: st) M o) : V X G h val nL pc lv (.ref (G.2 + a) :: st) M o := by
  obtain ⟨p, l, e, s, m, args, below, meth, c⟩ := X
  intro r M' ho H locs ls hL hP hS
  exact va_alen C0.1 C0.2.1 C0.2.2.2.2.2.1.1 hP.1 a 2 (by rw [cells_at (hP.lt (lt_of_sh ha (by omega))), ent_f ha]) (ty := .object RX1) rfl hv hdg (k r M' ho H locs ls hL hP hS)
theorem V_alenH (C0 : Cx X G cc nL own ret) {a : Nat} (v : Int32) (ha : (sh a).1 = 13) (hv : Int32.ofNat (ln a) = v) (hdg : decode cc pc = .ok (.arraylength, 1)) (k : V X G h val nL (pc + 1) lv (.int v :: st) M o) : V X G h val nL pc lv (.ref (G.2 + a) :: st) M o := by
  obtain ⟨p, l, e, s, m, args, below, meth, c⟩ := X
  intro r M' ho H locs ls hL hP hS
  exact va_alen C0.1 C0.2.1 C0.2.2.2.2.2.1.1 hP.1 a 3 (by rw [cells_at (hP.lt (lt_of_sh ha (by omega))), ent_h ha]) (ty := .object RX4) rfl hv hdg (k r M' ho H locs ls hL hP hS)
theorem V_alenE (C0 : Cx X G cc nL own ret) {a : Nat} (v : Int32) (ha : (sh a).1 = 14) (hv : Int32.ofNat (ln a) = v) (hdg : decode cc pc = .ok (.arraylength, 1)) (k : V X G h val nL (pc + 1) lv (.int v :: st) M o) : V X G h val nL pc lv (.ref (G.2 + a) :: st) M o := by
  obtain ⟨p, l, e, s, m, args, below, meth, c⟩ := X
  intro r M' ho H locs ls hL hP hS
  exact va_alen C0.1 C0.2.1 C0.2.2.2.2.2.1.1 hP.1 a 4 (by rw [cells_at (hP.lt (lt_of_sh ha (by omega))), ent_e ha]) (ty := .object RX0) rfl hv hdg (k r M' ho H locs ls hL hP hS)
theorem sh_F : ∀ a, a < 208 → (sh a).1 = 12 → ln a = 6 ∧ ∀ i, i < 6 → rf a i = a + 2 + 3 * i ∧ (sh (a + 2 + 3 * i)).1 = 1 := by decide +kernel
theorem sh_E : ln 46 = 6 ∧ ∀ i, i < 6 → rf 46 i = 160 + 8 * i ∧ (sh (160 + 8 * i)).1 = 0 := by decide +kernel
theorem V_aaldF (C0 : Cx X G cc nL own ret) {a : Nat} {i : Int32} (a2 : Nat) (ha : (sh a).1 = 12) (ha2 : a + 2 = a2) (hdg : decode cc pc = .ok (.aaload, 1)) (k : (sh (a2 + 3 * ix i)).1 = 1 → V X G h val nL (pc + 1) lv (.ref (G.2 + (a2 + 3 * ix i)) :: st) M o) : V X G h val nL pc lv (.int i :: .ref (G.2 + a) :: st) M (gd (inb i 6) o) := by
  refine V_gd fun hi => ?_
  subst ha2
  obtain ⟨hn, hf⟩ := sh_F a (lt_of_sh ha (by omega)) ha
  obtain ⟨hf1, hf2⟩ := hf (ix i) (inb_lt hi)
  obtain ⟨p, l, e, s, m, args, below, meth, c⟩ := X
  intro r M' ho H locs ls hL hP hS
  refine va_aldq C0.1 C0.2.1 C0.2.2.2.2.2.1.1 hP.1 a 2 (by rw [cells_at (hP.lt (lt_of_sh ha (by omega))), ent_f ha]) rfl (by rw [hn]; exact inb_vp hi) hdg ?_
  show W _ _ _ _ _ _ _ _ _ _ _ _ _ _ _ (F0 m (pc + 1) ls (.ref (G.2 + rf a (ix i)) :: st))
  rw [hf1]
  exact k hf2 r M' ho H locs ls hL hP hS
theorem V_aaldE (C0 : Cx X G cc nL own ret) {i : Int32} (hdg : decode cc pc = .ok (.aaload, 1)) (k : (sh (160 + 8 * ix i)).1 = 0 → V X G h val nL (pc + 1) lv (.ref (G.2 + (160 + 8 * ix i)) :: st) M o) : V X G h val nL pc lv (.int i :: .ref (G.2 + 46) :: st) M (gd (inb i 6) o) := by
  refine V_gd fun hi => ?_
  obtain ⟨hn, hf⟩ := sh_E
  obtain ⟨hf1, hf2⟩ := hf (ix i) (inb_lt hi)
  obtain ⟨p, l, e, s, m, args, below, meth, c⟩ := X
  intro r M' ho H locs ls hL hP hS
  refine va_aldq C0.1 C0.2.1 C0.2.2.2.2.2.1.1 hP.1 46 4 (by rw [cells_at (hP.lt (by omega)), ent_e rfl]) rfl (by rw [hn]; exact inb_vp hi) hdg ?_
  show W _ _ _ _ _ _ _ _ _ _ _ _ _ _ _ (F0 m (pc + 1) ls (.ref (G.2 + rf 46 (ix i)) :: st))
  rw [hf1]
  exact k hf2 r M' ho H locs ls hL hP hS
theorem V_aaldH (C0 : Cx X G cc nL own ret) {i : Int32} (hdg : decode cc pc = .ok (.aaload, 1)) (k : (sh (M.2 (ix i))).1 = 4 → V X G h val nL (pc + 1) lv (.ref (G.2 + M.2 (ix i)) :: st) M o) : V X G h val nL pc lv (.int i :: .ref (G.2 + 45) :: st) M (gd (inb i 5) o) := by
  refine V_gd fun hi => ?_
  obtain ⟨p, l, e, s, m, args, below, meth, c⟩ := X
  intro r M' ho H locs ls hL hP hS
  refine va_aldq C0.1 C0.2.1 C0.2.2.2.2.2.1.1 hP.1 45 3 (by rw [cells_at (hP.lt (by omega)), ent_h rfl]) rfl (by rw [show ln 45 = 5 from rfl]; exact inb_vp hi) hdg ?_
  show W _ _ _ _ _ _ _ _ _ _ _ _ _ _ _ (F0 m (pc + 1) ls (.ref (G.2 + hM M (ix i)) :: st))
  rw [hM_lt (inb_lt hi)]
  exact k (hP.2.1 _ (inb_lt hi)) r M' ho H locs ls hL hP hS
theorem sh_4 : ∀ a, a < 208 → (sh a).1 = 4 → sh a = (4, 4) := by decide +kernel
theorem V_aastH (C0 : Cx X G cc nL own ret) {i : Int32} {v : Nat} {f : Mem → Option (ρ × Mem)} (hv : (sh v).1 = 4) (hdg : decode cc pc = .ok (.aastore, 1)) (k : ∀ M1, V X G h val nL (pc + 1) lv st M1 (f M1)) : V X G h val nL pc lv (.ref (G.2 + v) :: .int i :: .ref (G.2 + 45) :: st) M (gd (inb i 5) (bm (hset M (ix i) v) f)) := by
  refine V_gd fun hi => ?_
  have hv2 : v < 208 := lt_of_sh hv (by omega)
  obtain ⟨p, l, e, s, m, args, below, meth, c⟩ := X
  intro r M' ho H locs ls hL hP hS
  refine va_astq (r := (RX4, TX4, 4)) C0.1 C0.2.1 C0.2.2.2.2.2.1.1 hP.1 cells_D hS 45 3 v 4 (by rw [cells_at (hP.lt (by omega)), ent_h rfl]) rfl (by rw [cells_at (hP.lt hv2), ent_o (sh_4 v hv2 hv) (by omega)]) rfl (by rw [show ln 45 = 5 from rfl]; exact inb_vp hi) hdg (fun H1 locs1 hP1 _ hS1 => k _ r M' ho H1 locs1 ls hL ⟨by rw [cells_h hP.2.2 (inb_lt hi)] at hP1; exact hP1, fun j hj => ?_, by rw [hset_2 (by have := inb_lt hi; omega)]; exact hP.2.2⟩ hS1)
  by_cases hji : j = ix i
  · simp [hset, hji, hv]
  · simp [hset, hji, hP.2.1 j hj]
theorem cp_words {h x : Nat} (hx : x ≤ 8) (hh : 1 ≤ h) : x + (nativeFrameWords "java/lang/System" "arraycopy" 5 + 11) ≤ 40 * h := by
  have h9 : nativeFrameWords "java/lang/System" "arraycopy" 5 + 11 ≤ 32 := by decide
  omega
/-- System.arraycopy between rows of ints -/
theorem V_copy (C0 : Cx X G cc nL own ret) {a0 a index : Nat} {sp dp n : Int32} {f : Mem → Option (ρ × Mem)} (n0 n1 : Nat) (hw : Cond.methodLink own index arraycopyName ∈ TBLG) (hnat : Cond.native arraycopyName ∈ TBLG) (hstat : Cond.static arraycopyName ∈ TBLG) (hini : Cond.initialized "java/lang/System" ∈ TBLG) (ha0 : (sh a0).1 = 10) (ha : (sh a).1 = 10) (h0 : ln a0 = n0) (h1 : ln a = n1) (hh : 1 ≤ h) (hst : (st.map fun v => v.category).sum ≤ 8) (hdg : decode cc pc = .ok (.invokestatic index, 3)) (k : ∀ M1, V X G h val nL (pc + 3) lv st M1 (f M1)) : V X G h val nL pc lv (.int n :: .int dp :: .ref (G.2 + a) :: .int sp :: .ref (G.2 + a0) :: st) M (gd (!(decide (sp < 0)) && !(decide (dp < 0)) && !(decide (n < 0)) && decide (ix sp + ix n ≤ n0) && decide (ix dp + ix n ≤ n1)) (bm (mcpy M a0 (ix sp) a (ix dp) (ix n)) f)) := by
  refine V_gd fun hi => ?_
  simp only [Bool.and_eq_true, Bool.not_eq_true', decide_eq_false_iff_not, decide_eq_true_eq] at hi
  subst h0; subst h1
  obtain ⟨p, l, e, s, m, args, below, meth, c⟩ := X
  intro r M' ho H locs ls hL hP hS
  exact va_copyi C0.1 C0.2.1 (by rw [C0.2.2.1]; exact hL.1.symm) C0.2.2.2.1 (C0.2.2.2.2.1 _ hw) (C0.2.2.2.2.1 _ hnat) (C0.2.2.2.2.1 _ hstat) (C0.2.2.2.2.1 _ hini) C0.2.2.2.2.2.1.1 hP.1 cells_D hS a0 a 0 0 (by rw [cells_at (hP.lt (lt_of_sh ha0 (by omega))), ent_i ha0]) (by rw [cells_at (hP.lt (lt_of_sh ha (by omega))), ent_i ha]) rfl rfl rfl hi.1.1.1.1 hi.1.1.1.2 hi.1.1.2 hi.1.2 hi.2 (fun _ _ => rfl) hh (show (st.map fun v => v.category).sum + (nativeFrameWords "java/lang/System" "arraycopy" 5 + 11) ≤ 40 * h from cp_words hst hh) hdg (fun H1 locs1 hP1 _ hS1 => k _ r M' ho H1 locs1 ls hL ⟨by rw [cells_c hP.2.2 ha] at hP1; exact hP1, hP.2⟩ hS1)
theorem V_mmax (C0 : Cx X G cc nL own ret) {index : Nat} {x y : Int32} (hw : Cond.methodLink own index Lib.Math.max.name ∈ TBLG) (hstat : Cond.static Lib.Math.max.name ∈ TBLG) (hini : Cond.initialized "java/lang/Math" ∈ TBLG) (hcode : Cond.code Lib.Math.max.name Lib.Math.max.code 2 (some .int) ∈ TBLG) (hh : 1 ≤ h) (hst : (st.map fun v => v.category).sum ≤ 8) (hdg : decode cc pc = .ok (.invokestatic index, 3)) (k : V X G h val nL (pc + 3) lv (.int (mxI x y) :: st) M o) : V X G h val nL pc lv (.int y :: .int x :: st) M o := by
  obtain ⟨p, l, e, s, m, args, below, meth, c⟩ := X
  intro r M' ho H locs ls hL hP hS
  exact va_mmax C0.1 C0.2.1 (by rw [C0.2.2.1]; exact hL.1.symm) C0.2.2.2.1 (C0.2.2.2.2.1 _ hw) (C0.2.2.2.2.1 _ hstat) (C0.2.2.2.2.1 _ hini) (C0.2.2.2.2.1 _ hcode) hh (by show _ + 13 ≤ 40 * h; omega) (Nat.zero_le _) (Nat.zero_le _) hdg (k r M' ho H locs ls hL hP hS)
theorem V_mmin (C0 : Cx X G cc nL own ret) {index : Nat} {x y : Int32} (hw : Cond.methodLink own index Lib.Math.min.name ∈ TBLG) (hstat : Cond.static Lib.Math.min.name ∈ TBLG) (hini : Cond.initialized "java/lang/Math" ∈ TBLG) (hcode : Cond.code Lib.Math.min.name Lib.Math.min.code 2 (some .int) ∈ TBLG) (hh : 1 ≤ h) (hst : (st.map fun v => v.category).sum ≤ 8) (hdg : decode cc pc = .ok (.invokestatic index, 3)) (k : V X G h val nL (pc + 3) lv (.int (mnI x y) :: st) M o) : V X G h val nL pc lv (.int y :: .int x :: st) M o := by
  obtain ⟨p, l, e, s, m, args, below, meth, c⟩ := X
  intro r M' ho H locs ls hL hP hS
  exact va_mmin C0.1 C0.2.1 (by rw [C0.2.2.1]; exact hL.1.symm) C0.2.2.2.1 (C0.2.2.2.2.1 _ hw) (C0.2.2.2.2.1 _ hstat) (C0.2.2.2.2.1 _ hini) (C0.2.2.2.2.1 _ hcode) hh (by show _ + 13 ≤ 40 * h; omega) (Nat.zero_le _) (Nat.zero_le _) hdg (k r M' ho H locs ls hL hP hS)
theorem V_mmax_long (C0 : Cx X G cc nL own ret) {index : Nat} {x y : Int64} (hw : Cond.methodLink own index Lib.MathLoose.max_long.x ∈ TBLG) (hstat : Cond.static Lib.MathLoose.max_long.x ∈ TBLG) (hini : Cond.initialized "java/lang/Math" ∈ TBLG) (hcode : Cond.code Lib.MathLoose.max_long.x Lib.MathLoose.max_long.code 4 (some .long) ∈ TBLG) (hh : 1 ≤ h) (hst : (st.map fun v => v.category).sum ≤ 8) (hdg : decode cc pc = .ok (.invokestatic index, 3)) (k : V X G h val nL (pc + 3) lv (.long (mxL x y) :: st) M o) : V X G h val nL pc lv (.long y :: .long x :: st) M o := by
  obtain ⟨p, l, e, s, m, args, below, meth, c⟩ := X
  intro r M' ho H locs ls hL hP hS
  exact va_mmax_long C0.1 C0.2.1 (by rw [C0.2.2.1]; exact hL.1.symm) C0.2.2.2.1 (C0.2.2.2.2.1 _ hw) (C0.2.2.2.2.1 _ hstat) (C0.2.2.2.2.1 _ hini) (C0.2.2.2.2.1 _ hcode) hh (by show _ + 15 ≤ 40 * h; omega) (Nat.zero_le _) (Nat.zero_le _) hdg (k r M' ho H locs ls hL hP hS)
theorem V_mmin_long (C0 : Cx X G cc nL own ret) {index : Nat} {x y : Int64} (hw : Cond.methodLink own index Lib.MathLoose.min_long.x ∈ TBLG) (hstat : Cond.static Lib.MathLoose.min_long.x ∈ TBLG) (hini : Cond.initialized "java/lang/Math" ∈ TBLG) (hcode : Cond.code Lib.MathLoose.min_long.x Lib.MathLoose.min_long.code 4 (some .long) ∈ TBLG) (hh : 1 ≤ h) (hst : (st.map fun v => v.category).sum ≤ 8) (hdg : decode cc pc = .ok (.invokestatic index, 3)) (k : V X G h val nL (pc + 3) lv (.long (mnL x y) :: st) M o) : V X G h val nL pc lv (.long y :: .long x :: st) M o := by
  obtain ⟨p, l, e, s, m, args, below, meth, c⟩ := X
  intro r M' ho H locs ls hL hP hS
  exact va_mmin_long C0.1 C0.2.1 (by rw [C0.2.2.1]; exact hL.1.symm) C0.2.2.2.1 (C0.2.2.2.2.1 _ hw) (C0.2.2.2.2.1 _ hstat) (C0.2.2.2.2.1 _ hini) (C0.2.2.2.2.1 _ hcode) hh (by show _ + 15 ≤ 40 * h; omega) (Nat.zero_le _) (Nat.zero_le _) hdg (k r M' ho H locs ls hL hP hS)
theorem V_iret {v : Int32} (C0 : Cx X G cc nL own (some .int)) (hdg : decode cc pc = .ok (.ireturn, 1)) : V X G h vI nL pc lv [.int v] M (some (v, M)) := by
  obtain ⟨p, l, e, s, m, args, below, meth, c⟩ := X
  intro r M' ho H locs ls hL hP hS
  cases ho
  exact W.iret C0.1 C0.2.1 C0.2.2.2.2.2.2.1 (fun t ht hW => ⟨rfl, by rw [ht]; exact hP, hS.F ht⟩) hS.2.2 hdg (hlocks := C0.2.2.2.2.2.2.2)
theorem V_zret {v : Int32} (C0 : Cx X G cc nL own (some .boolean)) (hdg : decode cc pc = .ok (.ireturn, 1)) : V X G h vI nL pc lv [.int v] M (gd (isB v) (some (v, M))) := by
  refine V_gd fun hi => ?_
  obtain ⟨p, l, e, s, m, args, below, meth, c⟩ := X
  intro r M' ho H locs ls hL hP hS
  cases ho
  exact W.zret C0.1 C0.2.1 C0.2.2.2.2.2.2.1 (by rcases isB_or hi with q | q <;> subst q <;> rfl) (fun t ht hW => ⟨rfl, by rw [ht]; exact hP, hS.F ht⟩) hS.2.2 hdg (hlocks := C0.2.2.2.2.2.2.2)
theorem V_vret (C0 : Cx X G cc nL own none) (hdg : decode cc pc = .ok (.return_, 1)) : V X G h vU nL pc lv [] M (some ((), M)) := by
  obtain ⟨p, l, e, s, m, args, below, meth, c⟩ := X
  intro r M' ho H locs ls hL hP hS
  cases ho
  exact W.vret C0.1 C0.2.1 C0.2.2.2.2.2.2.1 (fun t ht hW => ⟨rfl, by rw [ht]; exact hP, hS.F ht⟩) hS.2.2 hdg (hlocks := C0.2.2.2.2.2.2.2)
end VR
section VRUN
variable {p : Program} {l : Launch} {e : Env} {R : Jvm.Room} {s : State} {m : MethodId} {args : Array Value} {below : List Frame} {meth : Method} {c : Code} {H : Heap} {locs : List Loc} {cells slots : Nat} {Q : State → Prop} {G : GT} {pc : Nat} {ls : Array Slot} {st0 rest : List Value} {a : Array Value} {v : Option Value} {M1 : Mem}
theorem V_run (hr : va_Run p l e R s m args below meth c H locs cells slots 0 0 (F0 m pc ls st0) rest (QV G v M1 a) (fun q => G.2 ≤ q)) (hS : va_S (fun q => G.2 ≤ q) s.heap H locs)
    (kk : ∀ (H1 : Heap) (locs1 : List Loc), Rep G M1 H1 → va_S (fun q => G.2 ≤ q) s.heap H1 locs1 → W p l e R s m args below meth c H1 locs1 cells slots Q (F0 m (pc + 3) ls (v.toList ++ rest))) : W p l e R s m args below meth c H locs cells slots Q (F0 m pc ls st0) := by
  intro T hT X
  obtain ⟨v', st₀, t, T', L, h0, X', hL, e1, e2, ⟨hv, hR, hz, hk⟩, st⟩ := hr T hT X
  cases hv
  rw [h0] at hz hk
  obtain ⟨t2, a1, b1⟩ := kk T'.heap (locs ++ L) (by rw [e1]; exact hR) ⟨Nat.le_trans hS.1 (by rw [e1]; exact hz), fun q h1 h2 => by rw [e1, hk q (Nat.lt_of_lt_of_le h1 hS.1) h2]; exact hS.2.1 q h1 h2, fun q hq => by
      rcases List.mem_append.mp hq with hq | hq
      · exact hS.2.2 q hq
      · exact hL q hq⟩ T' rfl X'
  exact ⟨t2, st t2 a1, b1⟩
end VRUN
section VC
variable {X : XT} {G : GT} {h : Nat} {ρ : Type} {val : ρ → Option Value} {nL pc : Nat} {lv : List (Nat × Value)} {st : List Value} {M : Mem} {o o1 o2 : Option (ρ × Mem)} {cc : ByteArray} {own : String} {ret : Option FieldType}
theorem PV.pre {s : State} {H : Heap} {av : List Value} (hK : Kx G s) (hR : Rep G M H) : PreS s H (PV G av M) av := ⟨PV.blind, fun U hU hW => ⟨rfl, hK.warm hW, by rw [hU]; exact hR⟩⟩
theorem PV.preV {s : State} {H : Heap} {av : List Value} {ci a N : Nat} {C : String} {T : u_T} (hc : vwCl[ci]? = some (C, T, N)) (hci : ci < 10) (hsh : sh a = (ci, N)) (hK : Kx G s) (hR : Rep G M H) : PreV s H C (G.2 + a) (PV G (.ref (G.2 + a) :: av) M) av :=
  ⟨PV.blind, va_recv hK.1 hR.1 hc (q0 := a) (by rw [cells_at (hR.lt (lt_of_sh (by rw [hsh]) (show ci < 50 by omega))), ent_o hsh hci]), fun U hU hW => ⟨rfl, hK.warm hW, by rw [hU]; exact hR⟩⟩
theorem V_callVi (C0 : Cx X G cc nL own ret) {y : MethodName} {bytes : ByteArray} {maxL n index h2 : Nat} {ret2 : Option FieldType} {av : List Value} {oc : Option (Int32 × Mem)} {kf : Int32 → Mem → Option (ρ × Mem)} {C : String} {T : u_T} {N ci a : Nat} (hM : ∀ l r M1, oc = some (r, M1) → MC l G y bytes maxL ret2 h2 (.ref (G.2 + a) :: av) M (vI r) M1) (hc : vwCl[ci]? = some (C, T, N)) (hci : ci < 10) (hsh : sh a = (ci, N)) (hw : ∀ w ∈ ([.methodLink own index y, .instanceMethod y, .selects C y y, .initialized C] : List Cond), w ∈ TBLG) (hd : y.cls = C ∧ y.cls ≠ "java/lang/invoke/MethodHandle" ∧ y.cls ≠ "java/lang/invoke/VarHandle" ∧ (parseMethodDescriptor y.desc).map (fun d => d.parameters.length) = some n) (hcode : Cond.code y bytes maxL ret2 ∈ TBLG) (hn : av.length = n) (hh : h2 < h) (hm : maxL ≤ 21) (hst : (st.map fun v => v.category).sum ≤ 8) (hdg : decode cc pc = .ok (.invokevirtual index, 3)) (k : ∀ r M1, V X G h val nL (pc + 3) lv (.int r :: st) M1 (kf r M1)) : V X G h val nL pc lv (av.reverse ++ .ref (G.2 + a) :: st) M (bd oc kf) := by
  cases hoc : oc with
  | none => exact V_none
  | some q =>
    obtain ⟨r1, M1⟩ := q
    obtain ⟨p, l, e, s, m, args, below, meth, c⟩ := X
    intro r M' ho H locs ls hL hP hS
    exact V_run (va_runV (As := av) (rest := st) (C := C) ⟨C0.1, C0.2.1, C0.2.2.1, C0.2.2.2.1, C0.2.2.2.2.1⟩ (hM l r1 M1 hoc) (cwV (R := rm h) n C0.2.2.2.2.1 (ws_app hw (ws_in hcode)) rfl rfl rfl hd ⟨hh, by show 8 + (maxL + 11) + 40 * h2 ≤ 40 * h; omega⟩) (PV.preV hc hci hsh C0.2.2.2.2.2.1 hP) rfl hn hL.1 rfl (lv_room hst) hdg ⟨Nat.le_refl _, Nat.le_refl _⟩) hS (fun H1 locs1 hR hS1 => k r1 M1 r M' ho H1 locs1 ls hL hR hS1)
theorem V_callNi (C0 : Cx X G cc nL own ret) {y : MethodName} {bytes : ByteArray} {maxL n index h2 : Nat} {ret2 : Option FieldType} {av : List Value} {oc : Option (Int32 × Mem)} {kf : Int32 → Mem → Option (ρ × Mem)} {C host : String} {T : u_T} {N ci a : Nat} (hM : ∀ l r M1, oc = some (r, M1) → MC l G y bytes maxL ret2 h2 (.ref (G.2 + a) :: av) M (vI r) M1) (hc : vwCl[ci]? = some (C, T, N)) (hci : ci < 10) (hsh : sh a = (ci, N)) (hw : Cond.methodLinkNest own index y host ∈ NWL) (hi : Cond.instanceMethod y ∈ TBLG) (hs : Cond.selects C y y ∈ TBLG) (hini : Cond.initialized y.cls ∈ TBLG) (hd : y.cls ≠ "java/lang/invoke/MethodHandle" ∧ y.cls ≠ "java/lang/invoke/VarHandle" ∧ (parseMethodDescriptor y.desc).map (fun d => d.parameters.length) = some n) (hcode : Cond.code y bytes maxL ret2 ∈ TBLG) (hn : av.length = n) (hh : h2 < h) (hm : maxL ≤ 21) (hst : (st.map fun v => v.category).sum ≤ 8) (hdg : decode cc pc = .ok (.invokevirtual index, 3)) (k : ∀ r M1, V X G h val nL (pc + 3) lv (.int r :: st) M1 (kf r M1)) : V X G h val nL pc lv (av.reverse ++ .ref (G.2 + a) :: st) M (bd oc kf) := by
  cases hoc : oc with
  | none => exact V_none
  | some q =>
    obtain ⟨r1, M1⟩ := q
    obtain ⟨p, l, e, s, m, args, below, meth, c⟩ := X
    intro r M' ho H locs ls hL hP hS
    exact V_run (va_runVN (As := av) (rest := st) (C := C) ⟨C0.1, C0.2.1, C0.2.2.1, C0.2.2.2.1, C0.2.2.2.2.1⟩ (hM l r1 M1 hoc) ⟨va_cnB (R := rm h) n C0.2.2.2.2.1 (ws_in hcode) rfl rfl rfl (C0.2.2.2.2.2.1.2 _ hw) (C0.2.2.2.2.1 _ hini) hd ⟨hh, by show 8 + (maxL + 11) + 40 * h2 ≤ 40 * h; omega⟩, C0.2.2.2.2.1 _ hi, C0.2.2.2.2.1 _ hs⟩ (PV.preV hc hci hsh C0.2.2.2.2.2.1 hP) rfl hn hL.1 rfl (lv_room hst) hdg ⟨Nat.le_refl _, Nat.le_refl _⟩) hS (fun H1 locs1 hR hS1 => k r1 M1 r M' ho H1 locs1 ls hL hR hS1)
theorem V_callSi (C0 : Cx X G cc nL own ret) {y : MethodName} {bytes : ByteArray} {maxL n index h2 : Nat} {ret2 : Option FieldType} {av : List Value} {oc : Option (Int32 × Mem)} {kf : Int32 → Mem → Option (ρ × Mem)} (hM : ∀ l r M1, oc = some (r, M1) → MC l G y bytes maxL ret2 h2 av M (vI r) M1) (hw : ∀ w ∈ ([.methodLink own index y, .static y, .initialized own] : List Cond), w ∈ TBLG) (hd : y.cls = own ∧ y.cls ≠ "java/lang/invoke/MethodHandle" ∧ y.cls ≠ "java/lang/invoke/VarHandle" ∧ (parseMethodDescriptor y.desc).map (fun d => d.parameters.length) = some n) (hcode : Cond.code y bytes maxL ret2 ∈ TBLG) (hn : av.length = n) (hh : h2 < h) (hm : maxL ≤ 21) (hst : (st.map fun v => v.category).sum ≤ 8) (hdg : decode cc pc = .ok (.invokestatic index, 3)) (k : ∀ r M1, V X G h val nL (pc + 3) lv (.int r :: st) M1 (kf r M1)) : V X G h val nL pc lv (av.reverse ++ st) M (bd oc kf) := by
  cases hoc : oc with
  | none => exact V_none
  | some q =>
    obtain ⟨r1, M1⟩ := q
    obtain ⟨p, l, e, s, m, args, below, meth, c⟩ := X
    intro r M' ho H locs ls hL hP hS
    exact V_run (va_runS (As := av) (rest := st) ⟨C0.1, C0.2.1, C0.2.2.1, C0.2.2.2.1, C0.2.2.2.2.1⟩ (hM l r1 M1 hoc) (cwS (R := rm h) n C0.2.2.2.2.1 (ws_app hw (ws_in hcode)) rfl rfl rfl hd ⟨hh, by show 8 + (maxL + 11) + 40 * h2 ≤ 40 * h; omega⟩) (PV.pre C0.2.2.2.2.2.1 hP) rfl hn hL.1 rfl (lv_room hst) hdg ⟨Nat.le_refl _, Nat.le_refl _⟩) hS (fun H1 locs1 hR hS1 => k r1 M1 r M' ho H1 locs1 ls hL hR hS1)
theorem V_callTi (C0 : Cx X G cc nL own ret) {y : MethodName} {bytes : ByteArray} {maxL n index h2 : Nat} {ret2 : Option FieldType} {av : List Value} {oc : Option (Int32 × Mem)} {kf : Int32 → Mem → Option (ρ × Mem)} {host : String} (hM : ∀ l r M1, oc = some (r, M1) → MC l G y bytes maxL ret2 h2 av M (vI r) M1) (hw : Cond.methodLinkNest own index y host ∈ NWL) (hs : Cond.static y ∈ TBLG) (hini : Cond.initialized y.cls ∈ TBLG) (hd : y.cls ≠ "java/lang/invoke/MethodHandle" ∧ y.cls ≠ "java/lang/invoke/VarHandle" ∧ (parseMethodDescriptor y.desc).map (fun d => d.parameters.length) = some n) (hcode : Cond.code y bytes maxL ret2 ∈ TBLG) (hn : av.length = n) (hh : h2 < h) (hm : maxL ≤ 21) (hst : (st.map fun v => v.category).sum ≤ 8) (hdg : decode cc pc = .ok (.invokestatic index, 3)) (k : ∀ r M1, V X G h val nL (pc + 3) lv (.int r :: st) M1 (kf r M1)) : V X G h val nL pc lv (av.reverse ++ st) M (bd oc kf) := by
  cases hoc : oc with
  | none => exact V_none
  | some q =>
    obtain ⟨r1, M1⟩ := q
    obtain ⟨p, l, e, s, m, args, below, meth, c⟩ := X
    intro r M' ho H locs ls hL hP hS
    exact V_run (va_runSN (As := av) (rest := st) ⟨C0.1, C0.2.1, C0.2.2.1, C0.2.2.2.1, C0.2.2.2.2.1⟩ (hM l r1 M1 hoc) ⟨va_cnB (R := rm h) n C0.2.2.2.2.1 (ws_in hcode) rfl rfl rfl (C0.2.2.2.2.2.1.2 _ hw) (C0.2.2.2.2.1 _ hini) hd ⟨hh, by show 8 + (maxL + 11) + 40 * h2 ≤ 40 * h; omega⟩, C0.2.2.2.2.1 _ hs, trivial⟩ (PV.pre C0.2.2.2.2.2.1 hP) rfl hn hL.1 rfl (lv_room hst) hdg ⟨Nat.le_refl _, Nat.le_refl _⟩) hS (fun H1 locs1 hR hS1 => k r1 M1 r M' ho H1 locs1 ls hL hR hS1)
theorem V_callVv (C0 : Cx X G cc nL own ret) {y : MethodName} {bytes : ByteArray} {maxL n index h2 : Nat} {ret2 : Option FieldType} {av : List Value} {oc : Option (Unit × Mem)} {kf : Unit → Mem → Option (ρ × Mem)} {C : String} {T : u_T} {N ci a : Nat} (hM : ∀ l r M1, oc = some (r, M1) → MC l G y bytes maxL ret2 h2 (.ref (G.2 + a) :: av) M (vU r) M1) (hc : vwCl[ci]? = some (C, T, N)) (hci : ci < 10) (hsh : sh a = (ci, N)) (hw : ∀ w ∈ ([.methodLink own index y, .instanceMethod y, .selects C y y, .initialized C] : List Cond), w ∈ TBLG) (hd : y.cls = C ∧ y.cls ≠ "java/lang/invoke/MethodHandle" ∧ y.cls ≠ "java/lang/invoke/VarHandle" ∧ (parseMethodDescriptor y.desc).map (fun d => d.parameters.length) = some n) (hcode : Cond.code y bytes maxL ret2 ∈ TBLG) (hn : av.length = n) (hh : h2 < h) (hm : maxL ≤ 21) (hst : (st.map fun v => v.category).sum ≤ 8) (hdg : decode cc pc = .ok (.invokevirtual index, 3)) (k : ∀ r M1, V X G h val nL (pc + 3) lv st M1 (kf r M1)) : V X G h val nL pc lv (av.reverse ++ .ref (G.2 + a) :: st) M (bd oc kf) := by
  cases hoc : oc with
  | none => exact V_none
  | some q =>
    obtain ⟨r1, M1⟩ := q
    obtain ⟨p, l, e, s, m, args, below, meth, c⟩ := X
    intro r M' ho H locs ls hL hP hS
    exact V_run (va_runV (As := av) (rest := st) (C := C) ⟨C0.1, C0.2.1, C0.2.2.1, C0.2.2.2.1, C0.2.2.2.2.1⟩ (hM l r1 M1 hoc) (cwV (R := rm h) n C0.2.2.2.2.1 (ws_app hw (ws_in hcode)) rfl rfl rfl hd ⟨hh, by show 8 + (maxL + 11) + 40 * h2 ≤ 40 * h; omega⟩) (PV.preV hc hci hsh C0.2.2.2.2.2.1 hP) rfl hn hL.1 rfl (lv_room hst) hdg ⟨Nat.le_refl _, Nat.le_refl _⟩) hS (fun H1 locs1 hR hS1 => k r1 M1 r M' ho H1 locs1 ls hL hR hS1)
theorem V_callNv (C0 : Cx X G cc nL own ret) {y : MethodName} {bytes : ByteArray} {maxL n index h2 : Nat} {ret2 : Option FieldType} {av : List Value} {oc : Option (Unit × Mem)} {kf : Unit → Mem → Option (ρ × Mem)} {C host : String} {T : u_T} {N ci a : Nat} (hM : ∀ l r M1, oc = some (r, M1) → MC l G y bytes maxL ret2 h2 (.ref (G.2 + a) :: av) M (vU r) M1) (hc : vwCl[ci]? = some (C, T, N)) (hci : ci < 10) (hsh : sh a = (ci, N)) (hw : Cond.methodLinkNest own index y host ∈ NWL) (hi : Cond.instanceMethod y ∈ TBLG) (hs : Cond.selects C y y ∈ TBLG) (hini : Cond.initialized y.cls ∈ TBLG) (hd : y.cls ≠ "java/lang/invoke/MethodHandle" ∧ y.cls ≠ "java/lang/invoke/VarHandle" ∧ (parseMethodDescriptor y.desc).map (fun d => d.parameters.length) = some n) (hcode : Cond.code y bytes maxL ret2 ∈ TBLG) (hn : av.length = n) (hh : h2 < h) (hm : maxL ≤ 21) (hst : (st.map fun v => v.category).sum ≤ 8) (hdg : decode cc pc = .ok (.invokevirtual index, 3)) (k : ∀ r M1, V X G h val nL (pc + 3) lv st M1 (kf r M1)) : V X G h val nL pc lv (av.reverse ++ .ref (G.2 + a) :: st) M (bd oc kf) := by
  cases hoc : oc with
  | none => exact V_none
  | some q =>
    obtain ⟨r1, M1⟩ := q
    obtain ⟨p, l, e, s, m, args, below, meth, c⟩ := X
    intro r M' ho H locs ls hL hP hS
    exact V_run (va_runVN (As := av) (rest := st) (C := C) ⟨C0.1, C0.2.1, C0.2.2.1, C0.2.2.2.1, C0.2.2.2.2.1⟩ (hM l r1 M1 hoc) ⟨va_cnB (R := rm h) n C0.2.2.2.2.1 (ws_in hcode) rfl rfl rfl (C0.2.2.2.2.2.1.2 _ hw) (C0.2.2.2.2.1 _ hini) hd ⟨hh, by show 8 + (maxL + 11) + 40 * h2 ≤ 40 * h; omega⟩, C0.2.2.2.2.1 _ hi, C0.2.2.2.2.1 _ hs⟩ (PV.preV hc hci hsh C0.2.2.2.2.2.1 hP) rfl hn hL.1 rfl (lv_room hst) hdg ⟨Nat.le_refl _, Nat.le_refl _⟩) hS (fun H1 locs1 hR hS1 => k r1 M1 r M' ho H1 locs1 ls hL hR hS1)
theorem V_callSv (C0 : Cx X G cc nL own ret) {y : MethodName} {bytes : ByteArray} {maxL n index h2 : Nat} {ret2 : Option FieldType} {av : List Value} {oc : Option (Unit × Mem)} {kf : Unit → Mem → Option (ρ × Mem)} (hM : ∀ l r M1, oc = some (r, M1) → MC l G y bytes maxL ret2 h2 av M (vU r) M1) (hw : ∀ w ∈ ([.methodLink own index y, .static y, .initialized own] : List Cond), w ∈ TBLG) (hd : y.cls = own ∧ y.cls ≠ "java/lang/invoke/MethodHandle" ∧ y.cls ≠ "java/lang/invoke/VarHandle" ∧ (parseMethodDescriptor y.desc).map (fun d => d.parameters.length) = some n) (hcode : Cond.code y bytes maxL ret2 ∈ TBLG) (hn : av.length = n) (hh : h2 < h) (hm : maxL ≤ 21) (hst : (st.map fun v => v.category).sum ≤ 8) (hdg : decode cc pc = .ok (.invokestatic index, 3)) (k : ∀ r M1, V X G h val nL (pc + 3) lv st M1 (kf r M1)) : V X G h val nL pc lv (av.reverse ++ st) M (bd oc kf) := by
  cases hoc : oc with
  | none => exact V_none
  | some q =>
    obtain ⟨r1, M1⟩ := q
    obtain ⟨p, l, e, s, m, args, below, meth, c⟩ := X
    intro r M' ho H locs ls hL hP hS
    exact V_run (va_runS (As := av) (rest := st) ⟨C0.1, C0.2.1, C0.2.2.1, C0.2.2.2.1, C0.2.2.2.2.1⟩ (hM l r1 M1 hoc) (cwS (R := rm h) n C0.2.2.2.2.1 (ws_app hw (ws_in hcode)) rfl rfl rfl hd ⟨hh, by show 8 + (maxL + 11) + 40 * h2 ≤ 40 * h; omega⟩) (PV.pre C0.2.2.2.2.2.1 hP) rfl hn hL.1 rfl (lv_room hst) hdg ⟨Nat.le_refl _, Nat.le_refl _⟩) hS (fun H1 locs1 hR hS1 => k r1 M1 r M' ho H1 locs1 ls hL hR hS1)
theorem V_callTv (C0 : Cx X G cc nL own ret) {y : MethodName} {bytes : ByteArray} {maxL n index h2 : Nat} {ret2 : Option FieldType} {av : List Value} {oc : Option (Unit × Mem)} {kf : Unit → Mem → Option (ρ × Mem)} {host : String} (hM : ∀ l r M1, oc = some (r, M1) → MC l G y bytes maxL ret2 h2 av M (vU r) M1) (hw : Cond.methodLinkNest own index y host ∈ NWL) (hs : Cond.static y ∈ TBLG) (hini : Cond.initialized y.cls ∈ TBLG) (hd : y.cls ≠ "java/lang/invoke/MethodHandle" ∧ y.cls ≠ "java/lang/invoke/VarHandle" ∧ (parseMethodDescriptor y.desc).map (fun d => d.parameters.length) = some n) (hcode : Cond.code y bytes maxL ret2 ∈ TBLG) (hn : av.length = n) (hh : h2 < h) (hm : maxL ≤ 21) (hst : (st.map fun v => v.category).sum ≤ 8) (hdg : decode cc pc = .ok (.invokestatic index, 3)) (k : ∀ r M1, V X G h val nL (pc + 3) lv st M1 (kf r M1)) : V X G h val nL pc lv (av.reverse ++ st) M (bd oc kf) := by
  cases hoc : oc with
  | none => exact V_none
  | some q =>
    obtain ⟨r1, M1⟩ := q
    obtain ⟨p, l, e, s, m, args, below, meth, c⟩ := X
    intro r M' ho H locs ls hL hP hS
    exact V_run (va_runSN (As := av) (rest := st) ⟨C0.1, C0.2.1, C0.2.2.1, C0.2.2.2.1, C0.2.2.2.2.1⟩ (hM l r1 M1 hoc) ⟨va_cnB (R := rm h) n C0.2.2.2.2.1 (ws_in hcode) rfl rfl rfl (C0.2.2.2.2.2.1.2 _ hw) (C0.2.2.2.2.1 _ hini) hd ⟨hh, by show 8 + (maxL + 11) + 40 * h2 ≤ 40 * h; omega⟩, C0.2.2.2.2.1 _ hs, trivial⟩ (PV.pre C0.2.2.2.2.2.1 hP) rfl hn hL.1 rfl (lv_room hst) hdg ⟨Nat.le_refl _, Nat.le_refl _⟩) hS (fun H1 locs1 hR hS1 => k r1 M1 r M' ho H1 locs1 ls hL hR hS1)
end VC
