/-! the law's own methods: rows of ints are made while it runs; the judgement U, by which a walk follows a function of the memory -/
/-- height, cells and slots at the entry, cells and slots at the end, room -/
abbrev ZT : Type := Nat × Nat × Nat × Nat × Nat × Jvm.Room
def CxL (X : XT) (G : GT) (Z : ZT) (cc : ByteArray) (nL : Nat) (ret : Option FieldType) : Prop :=
  match X with
  | (p, _, _, s, m, args, _, meth, c) => p.tables.exec = Jvm.exec ∧ c.code = cc ∧ c.maxLocals = nL ∧ s.vm.findClass RL = some m.cls ∧ (∀ w ∈ TBLG, w.before args s = true) ∧ Kx G s ∧ meth.sig.returnType = ret ∧ meth.locks = false ∧ s.heap.size = G.2 + Z.2.1 ∧ (Z.2.2.2.2.2.cells = Z.2.2.2.1 - Z.2.1 ∧ Z.2.2.2.2.2.slots = Z.2.2.2.2.1 - Z.2.2.1) ∧ Z.1 ≤ Z.2.2.2.2.2.frames ∧ 60 * Z.1 ≤ Z.2.2.2.2.2.locals
def U (X : XT) (G : GT) (Z : ZT) (cc : ByteArray) (ret : Option FieldType) {ρ : Type} (Q : ρ → Mem → State → Prop) (nL pc : Nat) (lv : List (Nat × Value)) (st : List Value) (M : Mem) (o : Option (ρ × Mem)) : Prop :=
  match X with
  | (p, l, e, s, m, args, below, meth, c) => ∀ (r : ρ) (M' : Mem), o = some (r, M') → (M.2 5 ≤ M'.2 5 ∧ M.2 6 ≤ M'.2 6) ∧ (CxL (p, l, e, s, m, args, below, meth, c) G Z cc nL ret → ∀ (H : Heap) (locs : List Loc) (ls : Array Slot), lv_has ls nL lv → Rep G M H → va_S (fun q => G.2 ≤ q) s.heap H locs → (Z.2.1 ≤ M.2 5 ∧ Z.2.2.1 ≤ M.2 6 ∧ M'.2 5 ≤ Z.2.2.2.1 ∧ M'.2 6 ≤ Z.2.2.2.2.1) →
    W p l e Z.2.2.2.2.2 s m args below meth c H locs (M.2 5 - Z.2.1) (M.2 6 - Z.2.2.1) (Q r M') (F0 m pc ls st))
def rmL (h mc ms : Nat) : Jvm.Room := { frames := h, cells := mc, slots := ms, locals := 60 * h }
def PVL (G : GT) (av : List Value) (M : Mem) : Array Value → State → Prop := va_Pc av (fun U => Kx G U ∧ U.heap.size = G.2 + M.2 5 ∧ Rep G M U.heap)
theorem PVL.blind {G : GT} {av : List Value} {M : Mem} : FrameBlind (PVL G av M) := fun _ _ _ _ q => ⟨q.1, q.2.1.call, q.2.2⟩
/-- a contract of the law: from the memory M, with these arguments, the method returns v and leaves the memory M' -/
def MCL (l : Launch) (G : GT) (y : MethodName) (cc : ByteArray) (maxL : Nat) (ret : Option FieldType) (h : Nat) (av : List Value) (M : Mem) (v : Option Value) (M' : Mem) : Prop :=
  Met l y (WS y cc maxL ret) (rmL h (M'.2 5 - M.2 5) (M'.2 6 - M.2 6)) (PVL G av M) (QV G v M') (M'.2 5 - M.2 5) (M'.2 6 - M.2 6) (fun q => G.2 ≤ q)
/-- how a method of the law ends -/
def QM (X : XT) (G : GT) (Z : ZT) {ρ : Type} (val : ρ → Option Value) (r : ρ) (M' : Mem) : State → Prop :=
  match X with
  | (_, _, _, s, _, args, below, _, _) => MQ below (QV G (val r) M') args s (M'.2 5 - Z.2.1) (M'.2 6 - Z.2.2.1) (fun q => G.2 ≤ q)
/-- words of the pure functions of the law -/
def lx (M : Mem) (a : Nat) (i : Int32) : Bool := decide (208 ≤ a) && (decide (a < M.2 5) && inb i (M.2 (10 + a)))
def nz (x : Int32) : Bool := !(decide (x = 0))
def bN {α : Type} (M : Mem) (n : Int32) (f : Nat → Mem → Option α) : Option α := if n < 0 then none else if 1000 < ix n then none else f (M.2 5) (mnew M (ix n))
def bk {α β : Type} (M : Mem) (o : Option (α × Mem)) (k : α → Mem → Option β) : Option β := match o with | some q => (if q.2.2 5 = M.2 5 ∧ q.2.2 6 = M.2 6 then k q.1 q.2 else none) | none => none
theorem MCL.ofU {l : Launch} {G : GT} {y : MethodName} {cc : ByteArray} {maxL : Nat} {ret : Option FieldType} {h : Nat} {av : List Value} {M M' : Mem} {ρ : Type} {val : ρ → Option Value} {r : ρ} {o : Option (ρ × Mem)} {lv : List (Nat × Value)} (hy : plainName y.cls = true) (hown : y.cls = RL) (hlv : lv_args 0 av = lv) (hlen : (lg_sl av).length ≤ maxL) (ho : o = some (r, M'))
    (body : ∀ (X : XT) (Z : ZT), Z.1 = h → U X G Z cc ret (QM X G Z val) maxL 0 lv [] M o) : MCL l G y cc maxL ret h av M (val r) M' := by
  refine Met.ofW (cc := cc) (maxL := maxL) (ret := ret) (ws' := TBLG) hy rfl ?_
  intro p e s m args below meth c s₁ B hml hv
  obtain ⟨rfl, hK, hz, hR⟩ := hv
  have hx := B.exec
  have hb := B.bytes
  have hr := B.returns
  have hts := atoms_spec (ws := WS y cc maxL ret) B.pre
  have hw : s.vm.findClass RL = some m.cls := hown ▸ findClass_of_methodNamed B.named
  have hlocks := B.notSynchronized
  have hl := lv_entry av (n := maxL) hlen
  rw [lg_entry_eq]
  rw [hlv] at hl
  have hB := (body (p, l, e, s, m, av.toArray, below, meth, c) (h, M.2 5, M.2 6, M'.2 5, M'.2 6, rmL h (M'.2 5 - M.2 5) (M'.2 6 - M.2 6)) rfl r M' ho).2 ⟨hx, hb, hml, hw, fun w h => hts w (List.mem_cons_of_mem _ h), hK, hr, hlocks, hz, ⟨rfl, rfl⟩, Nat.le_refl _, Nat.le_refl _⟩ s.heap [] _ hl hR va_S.rf ⟨Nat.le_refl _, Nat.le_refl _, Nat.le_refl _, Nat.le_refl _⟩
  simp only [Nat.sub_self] at hB
  exact hB
section UR
variable {X : XT} {G : GT} {Z : ZT} {ρ : Type} {Q : ρ → Mem → State → Prop} {val : ρ → Option Value} {nL pc : Nat} {lv : List (Nat × Value)} {st : List Value} {M : Mem} {o o1 o2 : Option (ρ × Mem)} {cc : ByteArray} {ret : Option FieldType}
theorem U_none : U X G Z cc ret Q nL pc lv st M none := by
  obtain ⟨p, l, e, s, m, args, below, meth, c⟩ := X
  intro r M' ho
  cases ho
theorem U_sub {lv' : List (Nat × Value)} (ks : List Nat) (hl : lv_pick lv ks = lv') (k : U X G Z cc ret Q nL pc lv' st M o) : U X G Z cc ret Q nL pc lv st M o := by
  obtain ⟨p, l, e, s, m, args, below, meth, c⟩ := X
  intro r M' ho
  exact ⟨(k r M' ho).1, fun C0 H locs ls hL hP hS hN => (k r M' ho).2 C0 H locs ls (lv_sub hL ks hl) hP hS hN⟩
theorem U_gd {b : Bool} (k : b = true → U X G Z cc ret Q nL pc lv st M o) : U X G Z cc ret Q nL pc lv st M (gd b o) := by
  cases b with
  | false => exact U_none
  | true => exact k rfl
theorem U_bi {x : Int32} {f : Int32 → Option (ρ × Mem)} (k : ∀ y : Int32, U X G Z cc ret Q nL pc lv (.int y :: st) M (f y)) : U X G Z cc ret Q nL pc lv (.int x :: st) M (bi x f) := k x
theorem U_bl {x : Int64} {f : Int64 → Option (ρ × Mem)} (k : ∀ y : Int64, U X G Z cc ret Q nL pc lv (.long y :: st) M (f y)) : U X G Z cc ret Q nL pc lv (.long x :: st) M (bl x f) := k x
theorem U_bn {x : Nat} {f : Nat → Option (ρ × Mem)} (k : ∀ y : Nat, U X G Z cc ret Q nL pc lv (.ref (G.2 + y) :: st) M (f y)) : U X G Z cc ret Q nL pc lv (.ref (G.2 + x) :: st) M (bn x f) := k x
theorem U_iconst {v : Int32} {n : Int} (hdg : decode cc pc = .ok (.iconst n, 1)) (hv : Int32.ofInt n = v) (k : U X G Z cc ret Q nL (pc + 1) lv (.int v :: st) M o) : U X G Z cc ret Q nL pc lv st M o := by
  obtain ⟨p, l, e, s, m, args, below, meth, c⟩ := X
  intro r M' ho
  refine ⟨(k r M' ho).1, fun C0 H locs ls hL hP hS hN => ?_⟩
  exact lv_iconst C0.1 C0.2.1 hdg hv ((k r M' ho).2 C0 H locs ls hL hP hS hN)
theorem U_bipush {v : Int32} {n : Int} (hdg : decode cc pc = .ok (.bipush n, 2)) (hv : (Int8.ofInt n).toInt32 = v) (k : U X G Z cc ret Q nL (pc + 2) lv (.int v :: st) M o) : U X G Z cc ret Q nL pc lv st M o := by
  obtain ⟨p, l, e, s, m, args, below, meth, c⟩ := X
  intro r M' ho
  refine ⟨(k r M' ho).1, fun C0 H locs ls hL hP hS hN => ?_⟩
  exact lv_bipush C0.1 C0.2.1 hdg hv ((k r M' ho).2 C0 H locs ls hL hP hS hN)
theorem U_sipush {v : Int32} {n : Int} (hdg : decode cc pc = .ok (.sipush n, 3)) (hv : (Int16.ofInt n).toInt32 = v) (k : U X G Z cc ret Q nL (pc + 3) lv (.int v :: st) M o) : U X G Z cc ret Q nL pc lv st M o := by
  obtain ⟨p, l, e, s, m, args, below, meth, c⟩ := X
  intro r M' ho
  refine ⟨(k r M' ho).1, fun C0 H locs ls hL hP hS hN => ?_⟩
  exact lv_sipush C0.1 C0.2.1 hdg hv ((k r M' ho).2 C0 H locs ls hL hP hS hN)
theorem U_ldc {v : Int32} {index : Nat} (hw : Cond.constant RL index v ∈ TBLG) (hdg : decode cc pc = .ok (.ldc index, 2)) (k : U X G Z cc ret Q nL (pc + 2) lv (.int v :: st) M o) : U X G Z cc ret Q nL pc lv st M o := by
  obtain ⟨p, l, e, s, m, args, below, meth, c⟩ := X
  intro r M' ho
  refine ⟨(k r M' ho).1, fun C0 H locs ls hL hP hS hN => ?_⟩
  exact lv_ldc C0.1 C0.2.1 C0.2.2.2.1 (C0.2.2.2.2.1 _ hw) hdg ((k r M' ho).2 C0 H locs ls hL hP hS hN)
theorem U_ldc2 {v : Int64} {index : Nat} (hw : Cond.constantLong RL index v ∈ TBLG) (hdg : decode cc pc = .ok (.ldc2_w index, 3)) (k : U X G Z cc ret Q nL (pc + 3) lv (.long v :: st) M o) : U X G Z cc ret Q nL pc lv st M o := by
  obtain ⟨p, l, e, s, m, args, below, meth, c⟩ := X
  intro r M' ho
  refine ⟨(k r M' ho).1, fun C0 H locs ls hL hP hS hN => ?_⟩
  exact lv_ldc2 C0.1 C0.2.1 C0.2.2.2.1 (C0.2.2.2.2.1 _ hw) hdg ((k r M' ho).2 C0 H locs ls hL hP hS hN)
theorem U_iload_n {kk : Fin 4} {x : Int32} (i : Nat) (hi : (kk : Nat) = i) (q : Nat) (hq : lv[q]? = some (i, .int x)) (hdg : decode cc pc = .ok (.iload_n kk, 1)) (k : U X G Z cc ret Q nL (pc + 1) lv (.int x :: st) M o) : U X G Z cc ret Q nL pc lv st M o := by
  obtain ⟨p, l, e, s, m, args, below, meth, c⟩ := X
  intro r M' ho
  refine ⟨(k r M' ho).1, fun C0 H locs ls hL hP hS hN => ?_⟩
  exact lv_iload_n C0.1 C0.2.1 hdg hi (lv_at hL q hq) ((k r M' ho).2 C0 H locs ls hL hP hS hN)
theorem U_iload {x : Int32} (i : Nat) (q : Nat) (hq : lv[q]? = some (i, .int x)) (hdg : decode cc pc = .ok (.iload i, 2)) (k : U X G Z cc ret Q nL (pc + 2) lv (.int x :: st) M o) : U X G Z cc ret Q nL pc lv st M o := by
  obtain ⟨p, l, e, s, m, args, below, meth, c⟩ := X
  intro r M' ho
  refine ⟨(k r M' ho).1, fun C0 H locs ls hL hP hS hN => ?_⟩
  exact lv_iload C0.1 C0.2.1 hdg (lv_at hL q hq) ((k r M' ho).2 C0 H locs ls hL hP hS hN)
theorem U_lload_n {kk : Fin 4} {x : Int64} (i : Nat) (hi : (kk : Nat) = i) (q : Nat) (hq : lv[q]? = some (i, .long x)) (hdg : decode cc pc = .ok (.lload_n kk, 1)) (k : U X G Z cc ret Q nL (pc + 1) lv (.long x :: st) M o) : U X G Z cc ret Q nL pc lv st M o := by
  obtain ⟨p, l, e, s, m, args, below, meth, c⟩ := X
  intro r M' ho
  refine ⟨(k r M' ho).1, fun C0 H locs ls hL hP hS hN => ?_⟩
  exact lv_lload_n C0.1 C0.2.1 hdg hi (lv_at hL q hq) ((k r M' ho).2 C0 H locs ls hL hP hS hN)
theorem U_lload {x : Int64} (i : Nat) (q : Nat) (hq : lv[q]? = some (i, .long x)) (hdg : decode cc pc = .ok (.lload i, 2)) (k : U X G Z cc ret Q nL (pc + 2) lv (.long x :: st) M o) : U X G Z cc ret Q nL pc lv st M o := by
  obtain ⟨p, l, e, s, m, args, below, meth, c⟩ := X
  intro r M' ho
  refine ⟨(k r M' ho).1, fun C0 H locs ls hL hP hS hN => ?_⟩
  exact lv_lload C0.1 C0.2.1 hdg (lv_at hL q hq) ((k r M' ho).2 C0 H locs ls hL hP hS hN)
theorem U_aload_n {kk : Fin 4} {x : Nat} (i : Nat) (hi : (kk : Nat) = i) (q : Nat) (hq : lv[q]? = some (i, .ref x)) (hdg : decode cc pc = .ok (.aload_n kk, 1)) (k : U X G Z cc ret Q nL (pc + 1) lv (.ref x :: st) M o) : U X G Z cc ret Q nL pc lv st M o := by
  obtain ⟨p, l, e, s, m, args, below, meth, c⟩ := X
  intro r M' ho
  refine ⟨(k r M' ho).1, fun C0 H locs ls hL hP hS hN => ?_⟩
  exact lv_aload_n C0.1 C0.2.1 hdg hi (lv_at hL q hq) ((k r M' ho).2 C0 H locs ls hL hP hS hN)
theorem U_aload {x : Nat} (i : Nat) (q : Nat) (hq : lv[q]? = some (i, .ref x)) (hdg : decode cc pc = .ok (.aload i, 2)) (k : U X G Z cc ret Q nL (pc + 2) lv (.ref x :: st) M o) : U X G Z cc ret Q nL pc lv st M o := by
  obtain ⟨p, l, e, s, m, args, below, meth, c⟩ := X
  intro r M' ho
  refine ⟨(k r M' ho).1, fun C0 H locs ls hL hP hS hN => ?_⟩
  exact lv_aload C0.1 C0.2.1 hdg (lv_at hL q hq) ((k r M' ho).2 C0 H locs ls hL hP hS hN)
theorem U_istore_n {kk : Fin 4} {x : Int32} (i : Nat) (lv' : List (Nat × Value)) (hi : (kk : Nat) = i) (hn : i < nL) (hl : (i, Value.int x) :: lv.filter (fun q => !(q.1 == i) && !(q.1 + 1 == i && q.2.category == 2)) = lv') (hdg : decode cc pc = .ok (.istore_n kk, 1)) (k : U X G Z cc ret Q nL (pc + 1) lv' st M o) : U X G Z cc ret Q nL pc lv (.int x :: st) M o := by
  obtain ⟨p, l, e, s, m, args, below, meth, c⟩ := X
  intro r M' ho
  refine ⟨(k r M' ho).1, fun C0 H locs ls hL hP hS hN => ?_⟩
  exact lv_istore_n C0.1 C0.2.1 hdg hi hL hn hl (fun ls' hL' => (k r M' ho).2 C0 H locs ls' hL' hP hS hN)
theorem U_istore {x : Int32} (i : Nat) (lv' : List (Nat × Value)) (hn : i < nL) (hl : (i, Value.int x) :: lv.filter (fun q => !(q.1 == i) && !(q.1 + 1 == i && q.2.category == 2)) = lv') (hdg : decode cc pc = .ok (.istore i, 2)) (k : U X G Z cc ret Q nL (pc + 2) lv' st M o) : U X G Z cc ret Q nL pc lv (.int x :: st) M o := by
  obtain ⟨p, l, e, s, m, args, below, meth, c⟩ := X
  intro r M' ho
  refine ⟨(k r M' ho).1, fun C0 H locs ls hL hP hS hN => ?_⟩
  exact lv_istore C0.1 C0.2.1 hdg hL hn hl (fun ls' hL' => (k r M' ho).2 C0 H locs ls' hL' hP hS hN)
theorem U_lstore_n {kk : Fin 4} {x : Int64} (i : Nat) (lv' : List (Nat × Value)) (hi : (kk : Nat) = i) (hn : i + 1 < nL) (hl : (i, Value.long x) :: lv.filter (fun q => !(q.1 == i) && (!(q.1 == i + 1) && !(q.1 + 1 == i && q.2.category == 2))) = lv') (hdg : decode cc pc = .ok (.lstore_n kk, 1)) (k : U X G Z cc ret Q nL (pc + 1) lv' st M o) : U X G Z cc ret Q nL pc lv (.long x :: st) M o := by
  obtain ⟨p, l, e, s, m, args, below, meth, c⟩ := X
  intro r M' ho
  refine ⟨(k r M' ho).1, fun C0 H locs ls hL hP hS hN => ?_⟩
  exact lv_lstore_n C0.1 C0.2.1 hdg hi hL hn hl (fun ls' hL' => (k r M' ho).2 C0 H locs ls' hL' hP hS hN)
theorem U_lstore {x : Int64} (i : Nat) (lv' : List (Nat × Value)) (hn : i + 1 < nL) (hl : (i, Value.long x) :: lv.filter (fun q => !(q.1 == i) && (!(q.1 == i + 1) && !(q.1 + 1 == i && q.2.category == 2))) = lv') (hdg : decode cc pc = .ok (.lstore i, 2)) (k : U X G Z cc ret Q nL (pc + 2) lv' st M o) : U X G Z cc ret Q nL pc lv (.long x :: st) M o := by
  obtain ⟨p, l, e, s, m, args, below, meth, c⟩ := X
  intro r M' ho
  refine ⟨(k r M' ho).1, fun C0 H locs ls hL hP hS hN => ?_⟩
  exact lv_lstore C0.1 C0.2.1 hdg hL hn hl (fun ls' hL' => (k r M' ho).2 C0 H locs ls' hL' hP hS hN)
theorem U_astore_n {kk : Fin 4} {x : Nat} (i : Nat) (lv' : List (Nat × Value)) (hi : (kk : Nat) = i) (hn : i < nL) (hl : (i, Value.ref x) :: lv.filter (fun q => !(q.1 == i) && !(q.1 + 1 == i && q.2.category == 2)) = lv') (hdg : decode cc pc = .ok (.astore_n kk, 1)) (k : U X G Z cc ret Q nL (pc + 1) lv' st M o) : U X G Z cc ret Q nL pc lv (.ref x :: st) M o := by
  obtain ⟨p, l, e, s, m, args, below, meth, c⟩ := X
  intro r M' ho
  refine ⟨(k r M' ho).1, fun C0 H locs ls hL hP hS hN => ?_⟩
  exact lv_astore_n C0.1 C0.2.1 hdg hi hL hn hl (fun ls' hL' => (k r M' ho).2 C0 H locs ls' hL' hP hS hN)
theorem U_astore {x : Nat} (i : Nat) (lv' : List (Nat × Value)) (hn : i < nL) (hl : (i, Value.ref x) :: lv.filter (fun q => !(q.1 == i) && !(q.1 + 1 == i && q.2.category == 2)) = lv') (hdg : decode cc pc = .ok (.astore i, 2)) (k : U X G Z cc ret Q nL (pc + 2) lv' st M o) : U X G Z cc ret Q nL pc lv (.ref x :: st) M o := by
  obtain ⟨p, l, e, s, m, args, below, meth, c⟩ := X
  intro r M' ho
  refine ⟨(k r M' ho).1, fun C0 H locs ls hL hP hS hN => ?_⟩
  exact lv_astore C0.1 C0.2.1 hdg hL hn hl (fun ls' hL' => (k r M' ho).2 C0 H locs ls' hL' hP hS hN)
theorem U_iinc {n : Int} {x y : Int32} (i q : Nat) (lv' : List (Nat × Value)) (hq : lv[q]? = some (i, .int x)) (hv : Int32.ofInt n = y) (hn : i < nL) (hl : (i, Value.int (x + y)) :: lv.filter (fun q => !(q.1 == i) && !(q.1 + 1 == i && q.2.category == 2)) = lv') (hdg : decode cc pc = .ok (.iinc i n, 3)) (k : U X G Z cc ret Q nL (pc + 3) lv' st M o) : U X G Z cc ret Q nL pc lv st M o := by
  subst hv
  obtain ⟨p, l, e, s, m, args, below, meth, c⟩ := X
  intro r M' ho
  refine ⟨(k r M' ho).1, fun C0 H locs ls hL hP hS hN => ?_⟩
  exact lv_iinc C0.1 C0.2.1 hdg hL hq rfl hn hl (fun ls' hL' => (k r M' ho).2 C0 H locs ls' hL' hP hS hN)
theorem U_iincB {n : Int} {x y : Int32} {f : Int32 → Option (ρ × Mem)} (i q : Nat) (lv' : Int32 → List (Nat × Value)) (hq : lv[q]? = some (i, .int x)) (hv : Int32.ofInt n = y) (hn : i < nL) (hl : ∀ z : Int32, (i, Value.int z) :: lv.filter (fun q => !(q.1 == i) && !(q.1 + 1 == i && q.2.category == 2)) = lv' z) (hdg : decode cc pc = .ok (.iinc i n, 3)) (k : ∀ z : Int32, U X G Z cc ret Q nL (pc + 3) (lv' z) st M (f z)) : U X G Z cc ret Q nL pc lv st M (bi (x + y) f) :=
  U_iinc i q (lv' (x + y)) hq hv hn (hl _) hdg (k (x + y))
theorem U_iadd {x y : Int32} (hdg : decode cc pc = .ok (.iadd, 1)) (k : U X G Z cc ret Q nL (pc + 1) lv (.int (x + y) :: st) M o) : U X G Z cc ret Q nL pc lv (.int y :: .int x :: st) M o := by
  obtain ⟨p, l, e, s, m, args, below, meth, c⟩ := X
  intro r M' ho
  refine ⟨(k r M' ho).1, fun C0 H locs ls hL hP hS hN => ?_⟩
  exact lv_iadd C0.1 C0.2.1 hdg ((k r M' ho).2 C0 H locs ls hL hP hS hN)
theorem U_isub {x y : Int32} (hdg : decode cc pc = .ok (.isub, 1)) (k : U X G Z cc ret Q nL (pc + 1) lv (.int (x - y) :: st) M o) : U X G Z cc ret Q nL pc lv (.int y :: .int x :: st) M o := by
  obtain ⟨p, l, e, s, m, args, below, meth, c⟩ := X
  intro r M' ho
  refine ⟨(k r M' ho).1, fun C0 H locs ls hL hP hS hN => ?_⟩
  exact lv_isub C0.1 C0.2.1 hdg ((k r M' ho).2 C0 H locs ls hL hP hS hN)
theorem U_imul {x y : Int32} (hdg : decode cc pc = .ok (.imul, 1)) (k : U X G Z cc ret Q nL (pc + 1) lv (.int (x * y) :: st) M o) : U X G Z cc ret Q nL pc lv (.int y :: .int x :: st) M o := by
  obtain ⟨p, l, e, s, m, args, below, meth, c⟩ := X
  intro r M' ho
  refine ⟨(k r M' ho).1, fun C0 H locs ls hL hP hS hN => ?_⟩
  exact lv_imul C0.1 C0.2.1 hdg ((k r M' ho).2 C0 H locs ls hL hP hS hN)
theorem U_iand {x y : Int32} (hdg : decode cc pc = .ok (.iand, 1)) (k : U X G Z cc ret Q nL (pc + 1) lv (.int (x &&& y) :: st) M o) : U X G Z cc ret Q nL pc lv (.int y :: .int x :: st) M o := by
  obtain ⟨p, l, e, s, m, args, below, meth, c⟩ := X
  intro r M' ho
  refine ⟨(k r M' ho).1, fun C0 H locs ls hL hP hS hN => ?_⟩
  exact lv_iand C0.1 C0.2.1 hdg ((k r M' ho).2 C0 H locs ls hL hP hS hN)
theorem U_ixor {x y : Int32} (hdg : decode cc pc = .ok (.ixor, 1)) (k : U X G Z cc ret Q nL (pc + 1) lv (.int (x ^^^ y) :: st) M o) : U X G Z cc ret Q nL pc lv (.int y :: .int x :: st) M o := by
  obtain ⟨p, l, e, s, m, args, below, meth, c⟩ := X
  intro r M' ho
  refine ⟨(k r M' ho).1, fun C0 H locs ls hL hP hS hN => ?_⟩
  exact lv_ixor C0.1 C0.2.1 hdg ((k r M' ho).2 C0 H locs ls hL hP hS hN)
theorem U_ishl {x y : Int32} (hdg : decode cc pc = .ok (.ishl, 1)) (k : U X G Z cc ret Q nL (pc + 1) lv (.int (x <<< (y &&& 31)) :: st) M o) : U X G Z cc ret Q nL pc lv (.int y :: .int x :: st) M o := by
  obtain ⟨p, l, e, s, m, args, below, meth, c⟩ := X
  intro r M' ho
  refine ⟨(k r M' ho).1, fun C0 H locs ls hL hP hS hN => ?_⟩
  exact lv_ishl C0.1 C0.2.1 hdg ((k r M' ho).2 C0 H locs ls hL hP hS hN)
theorem U_ishr {x y : Int32} (hdg : decode cc pc = .ok (.ishr, 1)) (k : U X G Z cc ret Q nL (pc + 1) lv (.int (x >>> (y &&& 31)) :: st) M o) : U X G Z cc ret Q nL pc lv (.int y :: .int x :: st) M o := by
  obtain ⟨p, l, e, s, m, args, below, meth, c⟩ := X
  intro r M' ho
  refine ⟨(k r M' ho).1, fun C0 H locs ls hL hP hS hN => ?_⟩
  exact lv_ishr C0.1 C0.2.1 hdg ((k r M' ho).2 C0 H locs ls hL hP hS hN)
theorem U_lmul {x y : Int64} (hdg : decode cc pc = .ok (.lmul, 1)) (k : U X G Z cc ret Q nL (pc + 1) lv (.long (x * y) :: st) M o) : U X G Z cc ret Q nL pc lv (.long y :: .long x :: st) M o := by
  obtain ⟨p, l, e, s, m, args, below, meth, c⟩ := X
  intro r M' ho
  refine ⟨(k r M' ho).1, fun C0 H locs ls hL hP hS hN => ?_⟩
  exact lv_lmul C0.1 C0.2.1 hdg ((k r M' ho).2 C0 H locs ls hL hP hS hN)
theorem U_ineg {x : Int32} (hdg : decode cc pc = .ok (.ineg, 1)) (k : U X G Z cc ret Q nL (pc + 1) lv (.int (-x) :: st) M o) : U X G Z cc ret Q nL pc lv (.int x :: st) M o := by
  obtain ⟨p, l, e, s, m, args, below, meth, c⟩ := X
  intro r M' ho
  refine ⟨(k r M' ho).1, fun C0 H locs ls hL hP hS hN => ?_⟩
  exact lv_ineg C0.1 C0.2.1 hdg ((k r M' ho).2 C0 H locs ls hL hP hS hN)
theorem U_idiv {x y : Int32} (hne : ¬ y = 0) (hdg : decode cc pc = .ok (.idiv, 1)) (k : U X G Z cc ret Q nL (pc + 1) lv (.int (x / y) :: st) M o) : U X G Z cc ret Q nL pc lv (.int y :: .int x :: st) M o := by
  obtain ⟨p, l, e, s, m, args, below, meth, c⟩ := X
  intro r M' ho
  refine ⟨(k r M' ho).1, fun C0 H locs ls hL hP hS hN => ?_⟩
  exact lv_idiv C0.1 C0.2.1 hdg hne ((k r M' ho).2 C0 H locs ls hL hP hS hN)
theorem U_irem {x y : Int32} (hne : ¬ y = 0) (hdg : decode cc pc = .ok (.irem, 1)) (k : U X G Z cc ret Q nL (pc + 1) lv (.int (x - x / y * y) :: st) M o) : U X G Z cc ret Q nL pc lv (.int y :: .int x :: st) M o := by
  obtain ⟨p, l, e, s, m, args, below, meth, c⟩ := X
  intro r M' ho
  refine ⟨(k r M' ho).1, fun C0 H locs ls hL hP hS hN => ?_⟩
  exact lv_irem C0.1 C0.2.1 hdg hne ((k r M' ho).2 C0 H locs ls hL hP hS hN)
theorem U_i2l {x : Int32} (hdg : decode cc pc = .ok (.i2l, 1)) (k : U X G Z cc ret Q nL (pc + 1) lv (.long x.toInt64 :: st) M o) : U X G Z cc ret Q nL pc lv (.int x :: st) M o := by
  obtain ⟨p, l, e, s, m, args, below, meth, c⟩ := X
  intro r M' ho
  refine ⟨(k r M' ho).1, fun C0 H locs ls hL hP hS hN => ?_⟩
  exact lv_i2l C0.1 C0.2.1 hdg rfl ((k r M' ho).2 C0 H locs ls hL hP hS hN)
theorem U_l2i {x : Int64} (hdg : decode cc pc = .ok (.l2i, 1)) (k : U X G Z cc ret Q nL (pc + 1) lv (.int x.toInt32 :: st) M o) : U X G Z cc ret Q nL pc lv (.long x :: st) M o := by
  obtain ⟨p, l, e, s, m, args, below, meth, c⟩ := X
  intro r M' ho
  refine ⟨(k r M' ho).1, fun C0 H locs ls hL hP hS hN => ?_⟩
  exact lv_l2i C0.1 C0.2.1 hdg rfl ((k r M' ho).2 C0 H locs ls hL hP hS hN)
theorem U_lcmp {x y : Int64} (hdg : decode cc pc = .ok (.lcmp, 1)) (k : U X G Z cc ret Q nL (pc + 1) lv (.int (lg_cmp x y) :: st) M o) : U X G Z cc ret Q nL pc lv (.long y :: .long x :: st) M o := by
  obtain ⟨p, l, e, s, m, args, below, meth, c⟩ := X
  intro r M' ho
  refine ⟨(k r M' ho).1, fun C0 H locs ls hL hP hS hN => ?_⟩
  exact W.lcmp C0.1 C0.2.1 hdg ((k r M' ho).2 C0 H locs ls hL hP hS hN)
theorem U_dup {va : Value} (hva : va.category = 1) (hdg : decode cc pc = .ok (.dup, 1)) (k : U X G Z cc ret Q nL (pc + 1) lv (va :: va :: st) M o) : U X G Z cc ret Q nL pc lv (va :: st) M o := by
  obtain ⟨p, l, e, s, m, args, below, meth, c⟩ := X
  intro r M' ho
  refine ⟨(k r M' ho).1, fun C0 H locs ls hL hP hS hN => ?_⟩
  exact lv_dup C0.1 C0.2.1 hdg hva ((k r M' ho).2 C0 H locs ls hL hP hS hN)
theorem U_dup2 {va vb : Value} (hva : va.category = 1) (hvb : vb.category = 1) (hdg : decode cc pc = .ok (.dup2, 1)) (k : U X G Z cc ret Q nL (pc + 1) lv (va :: vb :: va :: vb :: st) M o) : U X G Z cc ret Q nL pc lv (va :: vb :: st) M o := by
  obtain ⟨p, l, e, s, m, args, below, meth, c⟩ := X
  intro r M' ho
  refine ⟨(k r M' ho).1, fun C0 H locs ls hL hP hS hN => ?_⟩
  exact lv_dup2_11 C0.1 C0.2.1 hdg hva hvb ((k r M' ho).2 C0 H locs ls hL hP hS hN)
theorem U_pop {va : Value} (hva : va.category = 1) (hdg : decode cc pc = .ok (.pop, 1)) (k : U X G Z cc ret Q nL (pc + 1) lv st M o) : U X G Z cc ret Q nL pc lv (va :: st) M o := by
  obtain ⟨p, l, e, s, m, args, below, meth, c⟩ := X
  intro r M' ho
  refine ⟨(k r M' ho).1, fun C0 H locs ls hL hP hS hN => ?_⟩
  exact lv_pop C0.1 C0.2.1 hdg hva ((k r M' ho).2 C0 H locs ls hL hP hS hN)
theorem U_goto {off : Int} (tgt : Nat) (hdg : decode cc pc = .ok (.goto off, 3)) (ht : (pc : Int) + off = (tgt : Int)) (k : U X G Z cc ret Q nL tgt lv st M o) : U X G Z cc ret Q nL pc lv st M o := by
  obtain ⟨p, l, e, s, m, args, below, meth, c⟩ := X
  intro r M' ho
  refine ⟨(k r M' ho).1, fun C0 H locs ls hL hP hS hN => ?_⟩
  exact lv_goto C0.1 C0.2.1 hdg ht ((k r M' ho).2 C0 H locs ls hL hP hS hN)
theorem U_ifeq {x : Int32} {off : Int} (tgt : Nat) (hdg : decode cc pc = .ok (.ifCond .eq off, 3)) (ht : (pc : Int) + off = (tgt : Int)) (k1 : x = 0 → U X G Z cc ret Q nL tgt lv st M o1) (k2 : ¬ x = 0 → U X G Z cc ret Q nL (pc + 3) lv st M o2) : U X G Z cc ret Q nL pc lv (.int x :: st) M (if x = 0 then o1 else o2) := by
  obtain ⟨p, l, e, s, m, args, below, meth, c⟩ := X
  intro r M' ho
  refine ⟨by
    by_cases q : x = 0
    · exact (k1 q r M' (by rw [if_pos q] at ho; exact ho)).1
    · exact (k2 q r M' (by rw [if_neg q] at ho; exact ho)).1, fun C0 H locs ls hL hP hS hN => ?_⟩
  exact lv_if_eq C0.1 C0.2.1 hdg ht (fun q => (k1 q r M' (by rw [if_pos q] at ho; exact ho)).2 C0 H locs ls hL hP hS hN) (fun q => (k2 q r M' (by rw [if_neg q] at ho; exact ho)).2 C0 H locs ls hL hP hS hN)
theorem U_ifne {x : Int32} {off : Int} (tgt : Nat) (hdg : decode cc pc = .ok (.ifCond .ne off, 3)) (ht : (pc : Int) + off = (tgt : Int)) (k1 : ¬ x = 0 → U X G Z cc ret Q nL tgt lv st M o1) (k2 : x = 0 → U X G Z cc ret Q nL (pc + 3) lv st M o2) : U X G Z cc ret Q nL pc lv (.int x :: st) M (if x = 0 then o2 else o1) := by
  obtain ⟨p, l, e, s, m, args, below, meth, c⟩ := X
  intro r M' ho
  refine ⟨by
    by_cases q : x = 0
    · exact (k2 q r M' (by rw [if_pos q] at ho; exact ho)).1
    · exact (k1 q r M' (by rw [if_neg q] at ho; exact ho)).1, fun C0 H locs ls hL hP hS hN => ?_⟩
  exact lv_if_ne C0.1 C0.2.1 hdg ht (fun q => (k1 q r M' (by rw [if_neg q] at ho; exact ho)).2 C0 H locs ls hL hP hS hN) (fun q => (k2 q r M' (by rw [if_pos q] at ho; exact ho)).2 C0 H locs ls hL hP hS hN)
theorem U_iflt {x : Int32} {off : Int} (tgt : Nat) (hdg : decode cc pc = .ok (.ifCond .lt off, 3)) (ht : (pc : Int) + off = (tgt : Int)) (k1 : x < 0 → U X G Z cc ret Q nL tgt lv st M o1) (k2 : ¬ x < 0 → U X G Z cc ret Q nL (pc + 3) lv st M o2) : U X G Z cc ret Q nL pc lv (.int x :: st) M (if x < 0 then o1 else o2) := by
  obtain ⟨p, l, e, s, m, args, below, meth, c⟩ := X
  intro r M' ho
  refine ⟨by
    by_cases q : x < 0
    · exact (k1 q r M' (by rw [if_pos q] at ho; exact ho)).1
    · exact (k2 q r M' (by rw [if_neg q] at ho; exact ho)).1, fun C0 H locs ls hL hP hS hN => ?_⟩
  exact lv_if_lt C0.1 C0.2.1 hdg ht (fun q => (k1 q r M' (by rw [if_pos q] at ho; exact ho)).2 C0 H locs ls hL hP hS hN) (fun q => (k2 q r M' (by rw [if_neg q] at ho; exact ho)).2 C0 H locs ls hL hP hS hN)
theorem U_ifge {x : Int32} {off : Int} (tgt : Nat) (hdg : decode cc pc = .ok (.ifCond .ge off, 3)) (ht : (pc : Int) + off = (tgt : Int)) (k1 : 0 ≤ x → U X G Z cc ret Q nL tgt lv st M o1) (k2 : ¬ 0 ≤ x → U X G Z cc ret Q nL (pc + 3) lv st M o2) : U X G Z cc ret Q nL pc lv (.int x :: st) M (if 0 ≤ x then o1 else o2) := by
  obtain ⟨p, l, e, s, m, args, below, meth, c⟩ := X
  intro r M' ho
  refine ⟨by
    by_cases q : 0 ≤ x
    · exact (k1 q r M' (by rw [if_pos q] at ho; exact ho)).1
    · exact (k2 q r M' (by rw [if_neg q] at ho; exact ho)).1, fun C0 H locs ls hL hP hS hN => ?_⟩
  exact lv_if_ge C0.1 C0.2.1 hdg ht (fun q => (k1 q r M' (by rw [if_pos q] at ho; exact ho)).2 C0 H locs ls hL hP hS hN) (fun q => (k2 q r M' (by rw [if_neg q] at ho; exact ho)).2 C0 H locs ls hL hP hS hN)
theorem U_ifgt {x : Int32} {off : Int} (tgt : Nat) (hdg : decode cc pc = .ok (.ifCond .gt off, 3)) (ht : (pc : Int) + off = (tgt : Int)) (k1 : 0 < x → U X G Z cc ret Q nL tgt lv st M o1) (k2 : ¬ 0 < x → U X G Z cc ret Q nL (pc + 3) lv st M o2) : U X G Z cc ret Q nL pc lv (.int x :: st) M (if 0 < x then o1 else o2) := by
  obtain ⟨p, l, e, s, m, args, below, meth, c⟩ := X
  intro r M' ho
  refine ⟨by
    by_cases q : 0 < x
    · exact (k1 q r M' (by rw [if_pos q] at ho; exact ho)).1
    · exact (k2 q r M' (by rw [if_neg q] at ho; exact ho)).1, fun C0 H locs ls hL hP hS hN => ?_⟩
  exact lv_if_gt C0.1 C0.2.1 hdg ht (fun q => (k1 q r M' (by rw [if_pos q] at ho; exact ho)).2 C0 H locs ls hL hP hS hN) (fun q => (k2 q r M' (by rw [if_neg q] at ho; exact ho)).2 C0 H locs ls hL hP hS hN)
theorem U_ifle {x : Int32} {off : Int} (tgt : Nat) (hdg : decode cc pc = .ok (.ifCond .le off, 3)) (ht : (pc : Int) + off = (tgt : Int)) (k1 : x ≤ 0 → U X G Z cc ret Q nL tgt lv st M o1) (k2 : ¬ x ≤ 0 → U X G Z cc ret Q nL (pc + 3) lv st M o2) : U X G Z cc ret Q nL pc lv (.int x :: st) M (if x ≤ 0 then o1 else o2) := by
  obtain ⟨p, l, e, s, m, args, below, meth, c⟩ := X
  intro r M' ho
  refine ⟨by
    by_cases q : x ≤ 0
    · exact (k1 q r M' (by rw [if_pos q] at ho; exact ho)).1
    · exact (k2 q r M' (by rw [if_neg q] at ho; exact ho)).1, fun C0 H locs ls hL hP hS hN => ?_⟩
  exact lv_if_le C0.1 C0.2.1 hdg ht (fun q => (k1 q r M' (by rw [if_pos q] at ho; exact ho)).2 C0 H locs ls hL hP hS hN) (fun q => (k2 q r M' (by rw [if_neg q] at ho; exact ho)).2 C0 H locs ls hL hP hS hN)
theorem U_icmpeq {x y : Int32} {off : Int} (tgt : Nat) (hdg : decode cc pc = .ok (.if_icmp .eq off, 3)) (ht : (pc : Int) + off = (tgt : Int)) (k1 : x = y → U X G Z cc ret Q nL tgt lv st M o1) (k2 : ¬ x = y → U X G Z cc ret Q nL (pc + 3) lv st M o2) : U X G Z cc ret Q nL pc lv (.int y :: .int x :: st) M (if x = y then o1 else o2) := by
  obtain ⟨p, l, e, s, m, args, below, meth, c⟩ := X
  intro r M' ho
  refine ⟨by
    by_cases q : x = y
    · exact (k1 q r M' (by rw [if_pos q] at ho; exact ho)).1
    · exact (k2 q r M' (by rw [if_neg q] at ho; exact ho)).1, fun C0 H locs ls hL hP hS hN => ?_⟩
  exact lv_icmp_eq C0.1 C0.2.1 hdg ht (fun q => (k1 q r M' (by rw [if_pos q] at ho; exact ho)).2 C0 H locs ls hL hP hS hN) (fun q => (k2 q r M' (by rw [if_neg q] at ho; exact ho)).2 C0 H locs ls hL hP hS hN)
theorem U_icmpne {x y : Int32} {off : Int} (tgt : Nat) (hdg : decode cc pc = .ok (.if_icmp .ne off, 3)) (ht : (pc : Int) + off = (tgt : Int)) (k1 : ¬ x = y → U X G Z cc ret Q nL tgt lv st M o1) (k2 : x = y → U X G Z cc ret Q nL (pc + 3) lv st M o2) : U X G Z cc ret Q nL pc lv (.int y :: .int x :: st) M (if x = y then o2 else o1) := by
  obtain ⟨p, l, e, s, m, args, below, meth, c⟩ := X
  intro r M' ho
  refine ⟨by
    by_cases q : x = y
    · exact (k2 q r M' (by rw [if_pos q] at ho; exact ho)).1
    · exact (k1 q r M' (by rw [if_neg q] at ho; exact ho)).1, fun C0 H locs ls hL hP hS hN => ?_⟩
  exact lv_icmp_ne C0.1 C0.2.1 hdg ht (fun q => (k1 q r M' (by rw [if_neg q] at ho; exact ho)).2 C0 H locs ls hL hP hS hN) (fun q => (k2 q r M' (by rw [if_pos q] at ho; exact ho)).2 C0 H locs ls hL hP hS hN)
theorem U_icmplt {x y : Int32} {off : Int} (tgt : Nat) (hdg : decode cc pc = .ok (.if_icmp .lt off, 3)) (ht : (pc : Int) + off = (tgt : Int)) (k1 : x < y → U X G Z cc ret Q nL tgt lv st M o1) (k2 : ¬ x < y → U X G Z cc ret Q nL (pc + 3) lv st M o2) : U X G Z cc ret Q nL pc lv (.int y :: .int x :: st) M (if x < y then o1 else o2) := by
  obtain ⟨p, l, e, s, m, args, below, meth, c⟩ := X
  intro r M' ho
  refine ⟨by
    by_cases q : x < y
    · exact (k1 q r M' (by rw [if_pos q] at ho; exact ho)).1
    · exact (k2 q r M' (by rw [if_neg q] at ho; exact ho)).1, fun C0 H locs ls hL hP hS hN => ?_⟩
  exact lv_icmp_lt C0.1 C0.2.1 hdg ht (fun q => (k1 q r M' (by rw [if_pos q] at ho; exact ho)).2 C0 H locs ls hL hP hS hN) (fun q => (k2 q r M' (by rw [if_neg q] at ho; exact ho)).2 C0 H locs ls hL hP hS hN)
theorem U_icmpge {x y : Int32} {off : Int} (tgt : Nat) (hdg : decode cc pc = .ok (.if_icmp .ge off, 3)) (ht : (pc : Int) + off = (tgt : Int)) (k1 : y ≤ x → U X G Z cc ret Q nL tgt lv st M o1) (k2 : ¬ y ≤ x → U X G Z cc ret Q nL (pc + 3) lv st M o2) : U X G Z cc ret Q nL pc lv (.int y :: .int x :: st) M (if y ≤ x then o1 else o2) := by
  obtain ⟨p, l, e, s, m, args, below, meth, c⟩ := X
  intro r M' ho
  refine ⟨by
    by_cases q : y ≤ x
    · exact (k1 q r M' (by rw [if_pos q] at ho; exact ho)).1
    · exact (k2 q r M' (by rw [if_neg q] at ho; exact ho)).1, fun C0 H locs ls hL hP hS hN => ?_⟩
  exact lv_icmp_ge C0.1 C0.2.1 hdg ht (fun q => (k1 q r M' (by rw [if_pos q] at ho; exact ho)).2 C0 H locs ls hL hP hS hN) (fun q => (k2 q r M' (by rw [if_neg q] at ho; exact ho)).2 C0 H locs ls hL hP hS hN)
theorem U_icmpgt {x y : Int32} {off : Int} (tgt : Nat) (hdg : decode cc pc = .ok (.if_icmp .gt off, 3)) (ht : (pc : Int) + off = (tgt : Int)) (k1 : y < x → U X G Z cc ret Q nL tgt lv st M o1) (k2 : ¬ y < x → U X G Z cc ret Q nL (pc + 3) lv st M o2) : U X G Z cc ret Q nL pc lv (.int y :: .int x :: st) M (if y < x then o1 else o2) := by
  obtain ⟨p, l, e, s, m, args, below, meth, c⟩ := X
  intro r M' ho
  refine ⟨by
    by_cases q : y < x
    · exact (k1 q r M' (by rw [if_pos q] at ho; exact ho)).1
    · exact (k2 q r M' (by rw [if_neg q] at ho; exact ho)).1, fun C0 H locs ls hL hP hS hN => ?_⟩
  exact lv_icmp_gt C0.1 C0.2.1 hdg ht (fun q => (k1 q r M' (by rw [if_pos q] at ho; exact ho)).2 C0 H locs ls hL hP hS hN) (fun q => (k2 q r M' (by rw [if_neg q] at ho; exact ho)).2 C0 H locs ls hL hP hS hN)
theorem U_icmple {x y : Int32} {off : Int} (tgt : Nat) (hdg : decode cc pc = .ok (.if_icmp .le off, 3)) (ht : (pc : Int) + off = (tgt : Int)) (k1 : x ≤ y → U X G Z cc ret Q nL tgt lv st M o1) (k2 : ¬ x ≤ y → U X G Z cc ret Q nL (pc + 3) lv st M o2) : U X G Z cc ret Q nL pc lv (.int y :: .int x :: st) M (if x ≤ y then o1 else o2) := by
  obtain ⟨p, l, e, s, m, args, below, meth, c⟩ := X
  intro r M' ho
  refine ⟨by
    by_cases q : x ≤ y
    · exact (k1 q r M' (by rw [if_pos q] at ho; exact ho)).1
    · exact (k2 q r M' (by rw [if_neg q] at ho; exact ho)).1, fun C0 H locs ls hL hP hS hN => ?_⟩
  exact lv_icmp_le C0.1 C0.2.1 hdg ht (fun q => (k1 q r M' (by rw [if_pos q] at ho; exact ho)).2 C0 H locs ls hL hP hS hN) (fun q => (k2 q r M' (by rw [if_neg q] at ho; exact ho)).2 C0 H locs ls hL hP hS hN)
theorem nz_ne {x : Int32} (h : nz x = true) : ¬ x = 0 := by simpa [nz] using h
theorem U_iald {a : Nat} {i : Int32} (hdg : decode cc pc = .ok (.iaload, 1)) (k : U X G Z cc ret Q nL (pc + 1) lv (.int (M.1 a (ix i)) :: st) M o) : U X G Z cc ret Q nL pc lv (.int i :: .ref (G.2 + a) :: st) M (gd (lx M a i) o) := by
  refine U_gd fun hi => ?_
  simp only [lx, Bool.and_eq_true, decide_eq_true_eq] at hi
  obtain ⟨p, l, e, s, m, args, below, meth, c⟩ := X
  intro r M' ho
  refine ⟨(k r M' ho).1, fun C0 H locs ls hL hP hS hN => ?_⟩
  exact va_iald C0.1 C0.2.1 C0.2.2.2.2.2.1.1 hP.1 a 0 (by rw [cells_at hi.2.1, ent_x hi.1]) rfl (inb_vp hi.2.2) hdg ((k r M' ho).2 C0 H locs ls hL hP hS hN)
theorem U_iast {a : Nat} {i x : Int32} {f : Mem → Option (ρ × Mem)} (hdg : decode cc pc = .ok (.iastore, 1)) (k : ∀ M1, U X G Z cc ret Q nL (pc + 1) lv st M1 (f M1)) : U X G Z cc ret Q nL pc lv (.int x :: .int i :: .ref (G.2 + a) :: st) M (gd (lx M a i) (bm (mset M a (ix i) x) f)) := by
  refine U_gd fun hi => ?_
  simp only [lx, Bool.and_eq_true, decide_eq_true_eq] at hi
  obtain ⟨p, l, e, s, m, args, below, meth, c⟩ := X
  intro r M' ho
  refine ⟨(k _ r M' ho).1, fun C0 H locs ls hL hP hS hN => ?_⟩
  exact va_iast C0.1 C0.2.1 C0.2.2.2.2.2.1.1 hP.1 cells_D hS a 0 (by rw [cells_at hi.2.1, ent_x hi.1]) rfl (inb_vp hi.2.2) hdg (fun H1 locs1 hP1 _ hS1 => (k _ r M' ho).2 C0 H1 locs1 ls hL ⟨by rw [cells_x hi.1 hi.2.1] at hP1; exact hP1, hP.2⟩ hS1 hN)
end UR
section US
variable {p : Program} {l : Launch} {e : Env} {R : Jvm.Room} {s : State} {m : MethodId} {args : Array Value} {below : List Frame} {meth : Method} {c : Code} {H : Heap} {locs : List Loc} {cells slots : Nat} {Q : State → Prop} {G : GT} {M : Mem}
/-- how many cells there are -/
theorem U_sz {g : JFrame} {n0 : Nat} (h0 : s.heap.size = G.2 + n0) (hc : cells = M.2 5 - n0) (hn : n0 ≤ M.2 5) (hP : Rep G M H) (k : H.size = G.2 + M.2 5 → W p l e R s m args below meth c H locs cells slots Q g) : W p l e R s m args below meth c H locs cells slots Q g := by
  intro T hT X
  have h1 := X.heapSize
  have h2 : G.2 + (M.2 5 - 1) < H.size := (hP.1 (M.2 5 - 1) _ (cells_at (by have := hP.2.2; omega))).lt
  rw [hT] at h1
  have := hP.2.2
  exact k (by omega) T hT X
end US
section UC
variable {X : XT} {G : GT} {Z : ZT} {ρ : Type} {Q : ρ → Mem → State → Prop} {val : ρ → Option Value} {nL pc : Nat} {lv : List (Nat × Value)} {st : List Value} {M : Mem} {o o1 o2 : Option (ρ × Mem)} {cc : ByteArray} {ret : Option FieldType}
theorem U_newa (harr : Cond.arrayClass .int ∈ TBLG) {n : Int32} {f : Nat → Mem → Option (ρ × Mem)} (hdg : decode cc pc = .ok (.newarray .int, 2)) (k : ∀ a M1, U X G Z cc ret Q nL (pc + 2) lv (.ref (G.2 + a) :: st) M1 (f a M1)) : U X G Z cc ret Q nL pc lv (.int n :: st) M (bN M n f) := by
  unfold bN
  by_cases h1 : n < 0
  · rw [if_pos h1]; exact U_none
  rw [if_neg h1]
  by_cases h2 : 1000 < ix n
  · rw [if_pos h2]; exact U_none
  rw [if_neg h2]
  obtain ⟨p, l, e, s, m, args, below, meth, c⟩ := X
  intro r M' ho
  have hk := (k _ _ r M' ho).1
  rw [mnew_5, mnew_6] at hk
  refine ⟨⟨by omega, by omega⟩, fun C0 H locs ls hL hP hS hN => ?_⟩
  refine U_sz C0.2.2.2.2.2.2.2.2.1 rfl hN.1 hP fun hz => ?_
  have hK := (C0.2.2.2.2.2.1.1.2 0 _ rfl).2
  have hR := C0.2.2.2.2.2.2.2.2.2.1
  refine va_newaK C0.1 C0.2.1 (atype := .int) (C0.2.2.2.2.1 _ harr) rfl hdg rfl h1 rfl (by show ix n * 4 ≤ _; omega) (by rw [hR.1]; omega) (by rw [hR.2]; show M.2 6 - Z.2.2.1 + ix n ≤ _; omega) hz fun H1 cA e1 z1 o1 _ hNm => ?_
  have hcA : cA = G.1.2 0 := Option.some.inj (hNm.symm.trans hK)
  subst hcA
  have hW := (k _ _ r M' ho).2 C0 H1 locs ls hL ⟨?_, fun i hi => by rw [mnew_lt hi]; exact hP.2.1 i hi, by rw [mnew_5]; have := hP.2.2; omega⟩ ⟨by rw [z1, ← hz]; exact Nat.le_succ_of_le hS.1, fun x h1 h2 => (o1 x (by rw [← hz]; exact Nat.lt_of_lt_of_le h1 hS.1)).trans (hS.2.1 x h1 h2), hS.2.2⟩ ⟨by rw [mnew_5]; omega, by rw [mnew_6]; omega, hN.2.2⟩
  · rw [mnew_5, mnew_6, show M.2 5 + 1 - Z.2.1 = M.2 5 - Z.2.1 + 1 by omega, show M.2 6 + ix n - Z.2.2.1 = M.2 6 - Z.2.2.1 + ix n by omega] at hW
    exact hW
  · rw [cells_new hP.2.2]
    refine va_P.app (va_P.kept hP.1 fun k x hx => o1 x.1 (by rw [← hz]; exact (hP.1 k x hx).lt)) fun k x hx => ?_
    have hk : k < 1 := (List.getElem?_eq_some_iff.mp hx).1
    rw [show k = 0 by omega] at hx
    cases hx
    exact e1
theorem PVL.pre {s : State} {H : Heap} {av : List Value} (hK : Kx G s) (hz : H.size = G.2 + M.2 5) (hR : Rep G M H) : PreS s H (PVL G av M) av := ⟨PVL.blind, fun U hU hW => ⟨rfl, hK.warm hW, by rw [hU]; exact hz, by rw [hU]; exact hR⟩⟩
/-- a method of the class -/
theorem U_callC {y : MethodName} {bytes : ByteArray} {maxL n index h2 : Nat} {av : List Value} {oc : Option (Int32 × Mem)} {kf : Int32 → Mem → Option (ρ × Mem)} (hM : ∀ l r M1, oc = some (r, M1) → MC l G y bytes maxL (some .int) h2 (.ref (G.2 + 0) :: av) M (vI r) M1) (hw : ∀ w ∈ ([.methodLink RL index y, .instanceMethod y, .selects RX6 y y, .initialized RX6] : List Cond), w ∈ TBLG) (hd : y.cls = RX6 ∧ y.cls ≠ "java/lang/invoke/MethodHandle" ∧ y.cls ≠ "java/lang/invoke/VarHandle" ∧ (parseMethodDescriptor y.desc).map (fun d => d.parameters.length) = some n) (hcode : Cond.code y bytes maxL (some .int) ∈ TBLG) (hsh : sh 0 = (6, 7)) (hn : av.length = n) (hh : h2 < Z.1) (hm : maxL ≤ 21) (hst : (st.map fun v => v.category).sum ≤ 8) (hdg : decode cc pc = .ok (.invokevirtual index, 3)) (k : ∀ r M1, U X G Z cc ret Q nL (pc + 3) lv (.int r :: st) M1 (kf r M1)) : U X G Z cc ret Q nL pc lv (av.reverse ++ .ref (G.2 + 0) :: st) M (bk M oc kf) := by
  cases hoc : oc with
  | none => exact U_none
  | some q =>
    obtain ⟨r1, M1⟩ := q
    show U X G Z cc ret Q nL pc lv (av.reverse ++ .ref (G.2 + 0) :: st) M (if M1.2 5 = M.2 5 ∧ M1.2 6 = M.2 6 then kf r1 M1 else none)
    by_cases hq : M1.2 5 = M.2 5 ∧ M1.2 6 = M.2 6
    · rw [if_pos hq]
      obtain ⟨p, l, e, s, m, args, below, meth, c⟩ := X
      intro r M' ho
      have hk := k r1 M1 r M' ho
      rw [hq.1, hq.2] at hk
      refine ⟨hk.1, fun C0 H locs ls hL hP hS hN => ?_⟩
      obtain ⟨hx, hb, hml, hown, hts, hK, hr, hlk, hsz, hR, hfr, hlo⟩ := C0
      exact V_run (va_runV (As := av) (rest := st) (C := RX6) ⟨hx, hb, hml, hown, hts⟩ (hM l r1 M1 hoc) (cwV (R := Z.2.2.2.2.2) n hts (ws_app hw (ws_in hcode)) rfl rfl rfl hd ⟨by show h2 + 1 ≤ _; omega, by show 8 + (maxL + 11) + 40 * h2 ≤ _; omega⟩) (PV.preV (ci := 6) rfl (by omega) hsh hK hP) rfl hn hL.1 rfl (lv_room hst) hdg ⟨by rw [hR.1]; omega, by rw [hR.2]; omega⟩) hS (fun H1 locs1 hR1 hS1 => hk.2 ⟨hx, hb, hml, hown, hts, hK, hr, hlk, hsz, hR, hfr, hlo⟩ H1 locs1 ls hL hR1 hS1 hN)
    · rw [if_neg hq]
      exact U_none
theorem U_back {p : Program} {l : Launch} {e : Env} {R : Jvm.Room} {s : State} {m : MethodId} {args : Array Value} {below : List Frame} {meth : Method} {c : Code} {H : Heap} {locs : List Loc} {cells slots mc ms : Nat} {Q : State → Prop} {ls : Array Slot} {st0 rest : List Value} {a : Array Value} {v : Option Value} {M1 : Mem} (hr : va_Run p l e R s m args below meth c H locs cells slots mc ms (F0 m pc ls st0) rest (QV G v M1 a) (fun q => G.2 ≤ q)) (hS : va_S (fun q => G.2 ≤ q) s.heap H locs)
    (kk : ∀ (H1 : Heap) (locs1 : List Loc), Rep G M1 H1 → va_S (fun q => G.2 ≤ q) s.heap H1 locs1 → W p l e R s m args below meth c H1 locs1 (cells + mc) (slots + ms) Q (F0 m (pc + 3) ls (v.toList ++ rest))) : W p l e R s m args below meth c H locs cells slots Q (F0 m pc ls st0) := by
  intro T hT X
  obtain ⟨v', st₀, t, T', L, h0, X', hL, e1, e2, ⟨hv, hR, hz, hk⟩, st⟩ := hr T hT X
  cases hv
  rw [h0] at hz hk
  obtain ⟨t2, a1, b1⟩ := kk T'.heap (locs ++ L) (by rw [e1]; exact hR) ⟨Nat.le_trans hS.1 (by rw [e1]; exact hz), fun q h1 h2 => by rw [e1, hk q (Nat.lt_of_lt_of_le h1 hS.1) h2]; exact hS.2.1 q h1 h2, fun q hq => by
      rcases List.mem_append.mp hq with hq | hq
      · exact hS.2.2 q hq
      · exact hL q hq⟩ T' rfl X'
  exact ⟨t2, st t2 a1, b1⟩
/-- a method of the law's own -/
theorem U_callSi {y : MethodName} {bytes : ByteArray} {maxL n index h2 : Nat} {ret2 : Option FieldType} {av : List Value} {oc : Option (Int32 × Mem)} {kf : Int32 → Mem → Option (ρ × Mem)} (hM : ∀ l r M1, oc = some (r, M1) → MCL l G y bytes maxL ret2 h2 av M (vI r) M1) (hmo : ∀ r M1, oc = some (r, M1) → M.2 5 ≤ M1.2 5 ∧ M.2 6 ≤ M1.2 6) (hw : ∀ w ∈ ([.methodLink RL index y, .static y, .initialized RL] : List Cond), w ∈ TBLG) (hd : y.cls = RL ∧ y.cls ≠ "java/lang/invoke/MethodHandle" ∧ y.cls ≠ "java/lang/invoke/VarHandle" ∧ (parseMethodDescriptor y.desc).map (fun d => d.parameters.length) = some n) (hcode : Cond.code y bytes maxL ret2 ∈ TBLG) (hn : av.length = n) (hh : h2 < Z.1) (hm : maxL ≤ 41) (hst : (st.map fun v => v.category).sum ≤ 8) (hdg : decode cc pc = .ok (.invokestatic index, 3)) (k : ∀ r M1, U X G Z cc ret Q nL (pc + 3) lv (.int r :: st) M1 (kf r M1)) : U X G Z cc ret Q nL pc lv (av.reverse ++ st) M (bd oc kf) := by
  cases hoc : oc with
  | none => exact U_none
  | some q =>
    obtain ⟨r1, M1⟩ := q
    obtain ⟨p, l, e, s, m, args, below, meth, c⟩ := X
    intro r M' ho
    have hk := k r1 M1 r M' ho
    have h0 := hmo r1 M1 hoc
    have h3 := hk.1
    refine ⟨⟨by omega, by omega⟩, fun C0 H locs ls hL hP hS hN => ?_⟩
    refine U_sz C0.2.2.2.2.2.2.2.2.1 rfl hN.1 hP fun hz => ?_
    obtain ⟨hx, hb, hml, hown, hts, hK, hr, hlk, hsz, hR, hfr, hlo⟩ := C0
    refine U_back (va_runS (As := av) (rest := st) ⟨hx, hb, hml, hown, hts⟩ (hM l r1 M1 hoc) (cwS (R := Z.2.2.2.2.2) n hts (ws_app hw (ws_in hcode)) rfl rfl rfl hd ⟨by show h2 + 1 ≤ _; omega, by show 8 + (maxL + 11) + 60 * h2 ≤ _; omega⟩) (PVL.pre hK hz hP) rfl hn hL.1 rfl (lv_room hst) hdg ⟨by rw [hR.1]; omega, by rw [hR.2]; omega⟩) hS (fun H1 locs1 hR1 hS1 => ?_)
    have hW := hk.2 ⟨hx, hb, hml, hown, hts, hK, hr, hlk, hsz, hR, hfr, hlo⟩ H1 locs1 ls hL hR1 hS1 ⟨by omega, by omega, hN.2.2⟩
    rw [show M.2 5 - Z.2.1 + (M1.2 5 - M.2 5) = M1.2 5 - Z.2.1 by omega, show M.2 6 - Z.2.2.1 + (M1.2 6 - M.2 6) = M1.2 6 - Z.2.2.1 by omega]
    exact hW
/-- a method of the law's own -/
theorem U_callSv {y : MethodName} {bytes : ByteArray} {maxL n index h2 : Nat} {ret2 : Option FieldType} {av : List Value} {oc : Option (Unit × Mem)} {kf : Unit → Mem → Option (ρ × Mem)} (hM : ∀ l r M1, oc = some (r, M1) → MCL l G y bytes maxL ret2 h2 av M (vU r) M1) (hmo : ∀ r M1, oc = some (r, M1) → M.2 5 ≤ M1.2 5 ∧ M.2 6 ≤ M1.2 6) (hw : ∀ w ∈ ([.methodLink RL index y, .static y, .initialized RL] : List Cond), w ∈ TBLG) (hd : y.cls = RL ∧ y.cls ≠ "java/lang/invoke/MethodHandle" ∧ y.cls ≠ "java/lang/invoke/VarHandle" ∧ (parseMethodDescriptor y.desc).map (fun d => d.parameters.length) = some n) (hcode : Cond.code y bytes maxL ret2 ∈ TBLG) (hn : av.length = n) (hh : h2 < Z.1) (hm : maxL ≤ 41) (hst : (st.map fun v => v.category).sum ≤ 8) (hdg : decode cc pc = .ok (.invokestatic index, 3)) (k : ∀ r M1, U X G Z cc ret Q nL (pc + 3) lv st M1 (kf r M1)) : U X G Z cc ret Q nL pc lv (av.reverse ++ st) M (bd oc kf) := by
  cases hoc : oc with
  | none => exact U_none
  | some q =>
    obtain ⟨r1, M1⟩ := q
    obtain ⟨p, l, e, s, m, args, below, meth, c⟩ := X
    intro r M' ho
    have hk := k r1 M1 r M' ho
    have h0 := hmo r1 M1 hoc
    have h3 := hk.1
    refine ⟨⟨by omega, by omega⟩, fun C0 H locs ls hL hP hS hN => ?_⟩
    refine U_sz C0.2.2.2.2.2.2.2.2.1 rfl hN.1 hP fun hz => ?_
    obtain ⟨hx, hb, hml, hown, hts, hK, hr, hlk, hsz, hR, hfr, hlo⟩ := C0
    refine U_back (va_runS (As := av) (rest := st) ⟨hx, hb, hml, hown, hts⟩ (hM l r1 M1 hoc) (cwS (R := Z.2.2.2.2.2) n hts (ws_app hw (ws_in hcode)) rfl rfl rfl hd ⟨by show h2 + 1 ≤ _; omega, by show 8 + (maxL + 11) + 60 * h2 ≤ _; omega⟩) (PVL.pre hK hz hP) rfl hn hL.1 rfl (lv_room hst) hdg ⟨by rw [hR.1]; omega, by rw [hR.2]; omega⟩) hS (fun H1 locs1 hR1 hS1 => ?_)
    have hW := hk.2 ⟨hx, hb, hml, hown, hts, hK, hr, hlk, hsz, hR, hfr, hlo⟩ H1 locs1 ls hL hR1 hS1 ⟨by omega, by omega, hN.2.2⟩
    rw [show M.2 5 - Z.2.1 + (M1.2 5 - M.2 5) = M1.2 5 - Z.2.1 by omega, show M.2 6 - Z.2.2.1 + (M1.2 6 - M.2 6) = M1.2 6 - Z.2.2.1 by omega]
    exact hW
theorem U_iret {v : Int32} (hdg : decode cc pc = .ok (.ireturn, 1)) : U X G Z cc (some .int) (QM X G Z vI) nL pc lv [.int v] M (some (v, M)) := by
  obtain ⟨p, l, e, s, m, args, below, meth, c⟩ := X
  intro r M' ho
  cases ho
  exact ⟨⟨Nat.le_refl _, Nat.le_refl _⟩, fun C0 H locs ls hL hP hS hN => W.iret C0.1 C0.2.1 C0.2.2.2.2.2.2.1 (fun t ht hW => ⟨rfl, by rw [ht]; exact hP, hS.F ht⟩) hS.2.2 hdg (hlocks := C0.2.2.2.2.2.2.2.1)⟩
theorem U_zret {v : Int32} (hdg : decode cc pc = .ok (.ireturn, 1)) : U X G Z cc (some .boolean) (QM X G Z vI) nL pc lv [.int v] M (gd (isB v) (some (v, M))) := by
  refine U_gd fun hi => ?_
  obtain ⟨p, l, e, s, m, args, below, meth, c⟩ := X
  intro r M' ho
  cases ho
  exact ⟨⟨Nat.le_refl _, Nat.le_refl _⟩, fun C0 H locs ls hL hP hS hN => W.zret C0.1 C0.2.1 C0.2.2.2.2.2.2.1 (by rcases isB_or hi with q | q <;> subst q <;> rfl) (fun t ht hW => ⟨rfl, by rw [ht]; exact hP, hS.F ht⟩) hS.2.2 hdg (hlocks := C0.2.2.2.2.2.2.2.1)⟩
theorem U_vret (hdg : decode cc pc = .ok (.return_, 1)) : U X G Z cc none (QM X G Z vU) nL pc lv [] M (some ((), M)) := by
  obtain ⟨p, l, e, s, m, args, below, meth, c⟩ := X
  intro r M' ho
  cases ho
  exact ⟨⟨Nat.le_refl _, Nat.le_refl _⟩, fun C0 H locs ls hL hP hS hN => W.vret C0.1 C0.2.1 C0.2.2.2.2.2.2.1 (fun t ht hW => ⟨rfl, by rw [ht]; exact hP, hS.F ht⟩) hS.2.2 hdg (hlocks := C0.2.2.2.2.2.2.2.1)⟩
end UC
