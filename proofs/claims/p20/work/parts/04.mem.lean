/-! the heap of the law as a memory: its cells' kinds, the references that never change, the numbers that do -/
/-- the numbers (address, place), and the references of the history -/
abbrev Mem : Type := (Nat → Nat → Int32) × (Nat → Nat)
def shT : List (Nat × Nat) := [(6, 7), (3, 4), (10, 100), (4, 4), (12, 6), (10, 8), (1, 3), (10, 30), (10, 30), (1, 3), (10, 30), (10, 30), (1, 3), (10, 30), (10, 30), (1, 3), (10, 30), (10, 30), (1, 3), (10, 30), (10, 30), (1, 3), (10, 30), (10, 30), (4, 4), (12, 6), (10, 8), (1, 3), (10, 30), (10, 30), (1, 3), (10, 30), (10, 30), (1, 3), (10, 30), (10, 30), (1, 3), (10, 30), (10, 30), (1, 3), (10, 30), (10, 30), (1, 3), (10, 30), (10, 30), (13, 5), (14, 6), (2, 10), (10, 726), (10, 726), (10, 726), (10, 726), (5, 3), (10, 60), (10, 60), (4, 4), (12, 6), (10, 8), (1, 3), (10, 30), (10, 30), (1, 3), (10, 30), (10, 30), (1, 3), (10, 30), (10, 30), (1, 3), (10, 30), (10, 30), (1, 3), (10, 30), (10, 30), (1, 3), (10, 30), (10, 30), (4, 4), (12, 6), (10, 8), (1, 3), (10, 30), (10, 30), (1, 3), (10, 30), (10, 30), (1, 3), (10, 30), (10, 30), (1, 3), (10, 30), (10, 30), (1, 3), (10, 30), (10, 30), (1, 3), (10, 30), (10, 30), (4, 4), (12, 6), (10, 8), (1, 3), (10, 30), (10, 30), (1, 3), (10, 30), (10, 30), (1, 3), (10, 30), (10, 30), (1, 3), (10, 30), (10, 30), (1, 3), (10, 30), (10, 30), (1, 3), (10, 30), (10, 30), (4, 4), (12, 6), (10, 8), (1, 3), (10, 30), (10, 30), (1, 3), (10, 30), (10, 30), (1, 3), (10, 30), (10, 30), (1, 3), (10, 30), (10, 30), (1, 3), (10, 30), (10, 30), (1, 3), (10, 30), (10, 30), (4, 4), (12, 6), (10, 8), (1, 3), (10, 30), (10, 30), (1, 3), (10, 30), (10, 30), (1, 3), (10, 30), (10, 30), (1, 3), (10, 30), (10, 30), (1, 3), (10, 30), (10, 30), (1, 3), (10, 30), (10, 30), (0, 7), (1, 3), (10, 60), (10, 60), (10, 60), (10, 60), (10, 60), (10, 60), (0, 7), (1, 3), (10, 60), (10, 60), (10, 60), (10, 60), (10, 60), (10, 60), (0, 7), (1, 3), (10, 60), (10, 60), (10, 60), (10, 60), (10, 60), (10, 60), (0, 7), (1, 3), (10, 60), (10, 60), (10, 60), (10, 60), (10, 60), (10, 60), (0, 7), (1, 3), (10, 60), (10, 60), (10, 60), (10, 60), (10, 60), (10, 60), (0, 7), (1, 3), (10, 60), (10, 60), (10, 60), (10, 60), (10, 60), (10, 60)]
def rfT : List (List Nat) := [[1, 24, 45, 0, 46, 47, 52], [2, 0, 0, 3], [], [4, 0, 5, 0], [6, 9, 12, 15, 18, 21], [], [7, 8, 0], [], [], [10, 11, 0], [], [], [13, 14, 0], [], [], [16, 17, 0], [], [], [19, 20, 0], [], [], [22, 23, 0], [], [], [25, 0, 26, 0], [27, 30, 33, 36, 39, 42], [], [28, 29, 0], [], [], [31, 32, 0], [], [], [34, 35, 0], [], [], [37, 38, 0], [], [], [40, 41, 0], [], [], [43, 44, 0], [], [], [0, 0, 0, 0, 0], [160, 168, 176, 184, 192, 200], [48, 49, 50, 51, 0, 0, 0, 0, 0, 0], [], [], [], [], [53, 54, 0], [], [], [56, 0, 57, 0], [58, 61, 64, 67, 70, 73], [], [59, 60, 0], [], [], [62, 63, 0], [], [], [65, 66, 0], [], [], [68, 69, 0], [], [], [71, 72, 0], [], [], [74, 75, 0], [], [], [77, 0, 78, 0], [79, 82, 85, 88, 91, 94], [], [80, 81, 0], [], [], [83, 84, 0], [], [], [86, 87, 0], [], [], [89, 90, 0], [], [], [92, 93, 0], [], [], [95, 96, 0], [], [], [98, 0, 99, 0], [100, 103, 106, 109, 112, 115], [], [101, 102, 0], [], [], [104, 105, 0], [], [], [107, 108, 0], [], [], [110, 111, 0], [], [], [113, 114, 0], [], [], [116, 117, 0], [], [], [119, 0, 120, 0], [121, 124, 127, 130, 133, 136], [], [122, 123, 0], [], [], [125, 126, 0], [], [], [128, 129, 0], [], [], [131, 132, 0], [], [], [134, 135, 0], [], [], [137, 138, 0], [], [], [140, 0, 141, 0], [142, 145, 148, 151, 154, 157], [], [143, 144, 0], [], [], [146, 147, 0], [], [], [149, 150, 0], [], [], [152, 153, 0], [], [], [155, 156, 0], [], [], [158, 159, 0], [], [], [0, 161, 0, 164, 165, 166, 167], [162, 163, 0], [], [], [], [], [], [], [0, 169, 0, 172, 173, 174, 175], [170, 171, 0], [], [], [], [], [], [], [0, 177, 0, 180, 181, 182, 183], [178, 179, 0], [], [], [], [], [], [], [0, 185, 0, 188, 189, 190, 191], [186, 187, 0], [], [], [], [], [], [], [0, 193, 0, 196, 197, 198, 199], [194, 195, 0], [], [], [], [], [], [], [0, 201, 0, 204, 205, 206, 207], [202, 203, 0], [], [], [], [], [], []]
def refT : List (List Nat) := [[1, 3, 4, 5, 6], [0, 1], [0, 1, 2, 3], [0, 3], [0, 2], [0, 1], [0, 1, 2, 4, 5, 6], []]
/-- kind (0 to 7 an object of a class, 10 int[], 11 boolean[], 12 Form[], 13 Sheet[], 14 Expanded[]) and how many places -/
def sh (a : Nat) : Nat × Nat := shT.getD a (99, 0)
def rf (a k : Nat) : Nat := (rfT.getD a []).getD k 0
def isRf (c k : Nat) : Bool := (refT.getD c []).contains k
def ln (a : Nat) : Nat := (sh a).2
abbrev ix (i : Int32) : Nat := i.toNatClampNeg
def inb (i : Int32) (n : Nat) : Bool := !(decide (i < 0) || decide (n ≤ i.toNatClampNeg))
theorem inb_vp {i : Int32} {n : Nat} (h : inb i n = true) : vp_in i n := by
  simp only [inb, Bool.not_eq_true', Bool.or_eq_false_iff, decide_eq_false_iff_not] at h
  rintro (q | q)
  · exact h.1 q
  · exact h.2 q
theorem inb_lt {i : Int32} {n : Nat} (h : inb i n = true) : ix i < n := Nat.not_le.mp fun q => inb_vp h (Or.inr q)
theorem lt_of_sh {a c : Nat} (h : (sh a).1 = c) (hc : c < 50) : a < 208 := by
  rcases Nat.lt_or_ge a 208 with q | q
  · exact q
  · have hl : shT.length = 208 := rfl
    rw [sh, List.getD_eq_getElem?_getD, List.getElem?_eq_none (by rw [hl]; exact q)] at h
    exact absurd h (by show ¬ 99 = c; omega)
abbrev GT : Type := (va_G × (Nat → ClassId)) × Nat
def fv (b c a : Nat) (M : Mem) (k : Nat) : Value := if isRf c k = true then .ref (b + rf a k) else .int (M.1 a k)
/-- the history's references -/
def hM (M : Mem) (i : Nat) : Nat := if i < 5 then M.2 i else 0
theorem hM_lt {M : Mem} {i : Nat} (h : i < 5) : hM M i = M.2 i := if_pos h
def ent (b : Nat) (dA : Nat → ClassId) (M : Mem) (a : Nat) : va_E :=
  if 208 ≤ a then .inl (dA 0, M.2 (10 + a), .inl (M.1 a))
  else if (sh a).1 = 10 then .inl (dA 0, ln a, .inl (M.1 a))
  else if (sh a).1 = 12 then .inl (dA 2, ln a, .inr (.inr (.inr (.inr (fun i => some (b + rf a i))))))
  else if (sh a).1 = 13 then .inl (dA 3, ln a, .inr (.inr (.inr (.inr (fun i => some (b + hM M i))))))
  else if (sh a).1 = 14 then .inl (dA 4, ln a, .inr (.inr (.inr (.inr (fun i => some (b + rf a i))))))
  else .inr ((sh a).1, (List.range (ln a)).map (fv b (sh a).1 a M))
def cellsOf (G : GT) (M : Mem) : va_W := (List.range (M.2 5)).map (fun a => (G.2 + a, ent G.2 G.1.2 M a))
def Rep (G : GT) (M : Mem) (H : Heap) : Prop := va_P G.1.1 vwCl (cellsOf G M) H ∧ (∀ i, i < 5 → (sh (M.2 i)).1 = 4) ∧ 208 ≤ M.2 5
theorem Rep.lt {G : GT} {M : Mem} {H : Heap} {a : Nat} (h : Rep G M H) (ha : a < 208) : a < M.2 5 := Nat.lt_of_lt_of_le ha h.2.2
theorem cells_at {G : GT} {M : Mem} {a : Nat} (h : a < M.2 5) : (cellsOf G M)[a]? = some (G.2 + a, ent G.2 G.1.2 M a) := by simp [cellsOf, h]
theorem cells_len {G : GT} {M : Mem} : (cellsOf G M).length = M.2 5 := by simp [cellsOf]
theorem cells_inv {G : GT} {M : Mem} {k : Nat} {q : Nat × va_E} (h : (cellsOf G M)[k]? = some q) : q = (G.2 + k, ent G.2 G.1.2 M k) ∧ k < M.2 5 := by
  have hk : k < M.2 5 := by
    have := (List.getElem?_eq_some_iff.mp h).1
    rwa [cells_len] at this
  rw [cells_at hk] at h
  exact ⟨(Option.some.inj h).symm, hk⟩
theorem cells_D {G : GT} {M : Mem} : va_D (fun q => G.2 ≤ q) (cellsOf G M) := by
  refine ⟨fun i j p q hi hj hpq => ?_, fun k q hk => ?_⟩
  · obtain ⟨rfl, -⟩ := cells_inv hi
    obtain ⟨rfl, -⟩ := cells_inv hj
    have : G.2 + i = G.2 + j := hpq
    omega
  · obtain ⟨rfl, -⟩ := cells_inv hk
    exact Nat.le_add_right _ _
theorem cells_set {G : GT} {M M' : Mem} {a : Nat} {e : va_E} (ha : a < M.2 5) (hn : M'.2 5 = M.2 5) (he : ent G.2 G.1.2 M' a = e) (hne : ∀ b, b ≠ a → ent G.2 G.1.2 M' b = ent G.2 G.1.2 M b) : (cellsOf G M).set a (G.2 + a, e) = cellsOf G M' := by
  apply List.ext_getElem?
  intro k
  by_cases hk : k = a
  · subst hk
    rw [List.getElem?_set_self (by rw [cells_len]; exact ha), cells_at (by rw [hn]; exact ha), he]
  · rw [List.getElem?_set_ne (Ne.symm hk)]
    by_cases hl : k < M.2 5
    · rw [cells_at hl, cells_at (by rw [hn]; exact hl), hne k hk]
    · rw [List.getElem?_eq_none (by rw [cells_len]; omega), List.getElem?_eq_none (by rw [cells_len]; omega)]
/-- one number is written -/
def mset (M : Mem) (a k : Nat) (v : Int32) : Mem := (fun b => if b = a then upd (M.1 a) k v else M.1 b, M.2)
/-- an array's stretch is copied -/
def mcpy (M : Mem) (a0 sp a1 dp n : Nat) : Mem := (fun b => if b = a1 then va_cpy (M.1 a0) (M.1 a1) sp dp n else M.1 b, M.2)
/-- a reference of the history is written -/
def hset (M : Mem) (i v : Nat) : Mem := (M.1, fun j => if j = i then v else M.2 j)
theorem ent_row {b : Nat} {dA : Nat → ClassId} {M M' : Mem} {c : Nat} (h1 : M'.1 c = M.1 c) (h2 : M'.2 = M.2) : ent b dA M' c = ent b dA M c := by
  have hf : fv b (sh c).1 c M' = fv b (sh c).1 c M := by funext k; simp only [fv, h1]
  have hh : hM M' = hM M := by funext i; simp only [hM, h2]
  simp only [ent, h1, h2, hf, hh]
theorem mset_ne {M : Mem} {a k c : Nat} {v : Int32} (h : c ≠ a) : (mset M a k v).1 c = M.1 c := if_neg h
theorem mset_eq {M : Mem} {a k : Nat} {v : Int32} : (mset M a k v).1 a = upd (M.1 a) k v := if_pos rfl
theorem mset_2 {M : Mem} {a k : Nat} {v : Int32} : (mset M a k v).2 = M.2 := rfl
theorem ent_c {b : Nat} {dA : Nat → ClassId} {M : Mem} {a c : Nat} (h : (sh a).1 = c) (hc : c < 50) : ent b dA M a = if (sh a).1 = 10 then .inl (dA 0, ln a, .inl (M.1 a))
  else if (sh a).1 = 12 then .inl (dA 2, ln a, .inr (.inr (.inr (.inr (fun i => some (b + rf a i))))))
  else if (sh a).1 = 13 then .inl (dA 3, ln a, .inr (.inr (.inr (.inr (fun i => some (b + hM M i))))))
  else if (sh a).1 = 14 then .inl (dA 4, ln a, .inr (.inr (.inr (.inr (fun i => some (b + rf a i))))))
  else .inr ((sh a).1, (List.range (ln a)).map (fv b (sh a).1 a M)) := if_neg (Nat.not_le.mpr (lt_of_sh h hc))
theorem ent_i {b : Nat} {dA : Nat → ClassId} {M : Mem} {a : Nat} (h : (sh a).1 = 10) : ent b dA M a = .inl (dA 0, ln a, .inl (M.1 a)) := by rw [ent_c h (by omega), if_pos h]
theorem ent_f {b : Nat} {dA : Nat → ClassId} {M : Mem} {a : Nat} (h : (sh a).1 = 12) : ent b dA M a = .inl (dA 2, ln a, .inr (.inr (.inr (.inr (fun i => some (b + rf a i)))))) := by rw [ent_c h (by omega)]; simp [h]
theorem ent_h {b : Nat} {dA : Nat → ClassId} {M : Mem} {a : Nat} (h : (sh a).1 = 13) : ent b dA M a = .inl (dA 3, ln a, .inr (.inr (.inr (.inr (fun i => some (b + hM M i)))))) := by rw [ent_c h (by omega)]; simp [h]
theorem ent_e {b : Nat} {dA : Nat → ClassId} {M : Mem} {a : Nat} (h : (sh a).1 = 14) : ent b dA M a = .inl (dA 4, ln a, .inr (.inr (.inr (.inr (fun i => some (b + rf a i)))))) := by rw [ent_c h (by omega)]; simp [h]
theorem ent_o {b : Nat} {dA : Nat → ClassId} {M : Mem} {a c N : Nat} (h : sh a = (c, N)) (hc : c < 10) : ent b dA M a = .inr (c, (List.range N).map (fv b c a M)) := by
  have h1 : (sh a).1 = c := by rw [h]
  have h2 : ln a = N := by rw [ln, h]
  rw [ent_c h1 (by omega), if_neg (by omega), if_neg (by omega), if_neg (by omega), if_neg (by omega), h1, h2]
/-- a row of the law's own -/
theorem ent_x {b : Nat} {dA : Nat → ClassId} {M : Mem} {a : Nat} (h : 208 ≤ a) : ent b dA M a = .inl (dA 0, M.2 (10 + a), .inl (M.1 a)) := if_pos h
theorem map_set {N k : Nat} {f g : Nat → Value} {v : Value} (hk : k < N) (h1 : g k = v) (h2 : ∀ j, j ≠ k → g j = f j) : ((List.range N).map f).set k v = (List.range N).map g := by
  apply List.ext_getElem?
  intro j
  by_cases hj : j = k
  · subst hj
    rw [List.getElem?_set_self (by simpa using hk)]
    simp [hk, h1]
  · rw [List.getElem?_set_ne (Ne.symm hj)]
    by_cases hl : j < N
    · simp [hl, h2 j hj]
    · simp [hl]
theorem ent_put {b : Nat} {dA : Nat → ClassId} {M : Mem} {a c N k : Nat} {v : Int32} (h : sh a = (c, N)) (hc : c < 10) (hk : k < N) (hr : isRf c k = false) : ent b dA (mset M a k v) a = .inr (c, ((List.range N).map (fv b c a M)).set k (.int v)) := by
  rw [ent_o h hc, map_set hk (g := fv b c a (mset M a k v))]
  · simp [fv, hr, mset_eq, upd]
  · intro j hj
    simp [fv, mset_eq, upd, hj]
theorem cells_put {G : GT} {M : Mem} {a c N k : Nat} {v : Int32} (hn : 208 ≤ M.2 5) (h : sh a = (c, N)) (hc : c < 10) (hk : k < N) (hr : isRf c k = false) : (cellsOf G M).set a (G.2 + a, .inr (c, ((List.range N).map (fv G.2 c a M)).set k (.int v))) = cellsOf G (mset M a k v) :=
  cells_set (Nat.lt_of_lt_of_le (lt_of_sh (c := c) (by rw [h]) (by omega)) hn) rfl (ent_put h hc hk hr) fun _ hb => ent_row (mset_ne hb) rfl
theorem cells_i {G : GT} {M : Mem} {a k : Nat} {v : Int32} (hn : 208 ≤ M.2 5) (h : (sh a).1 = 10) : (cellsOf G M).set a (G.2 + a, .inl (G.1.2 0, ln a, .inl (upd (M.1 a) k v))) = cellsOf G (mset M a k v) :=
  cells_set (Nat.lt_of_lt_of_le (lt_of_sh h (by omega)) hn) rfl (by rw [ent_i h, mset_eq]) fun _ hb => ent_row (mset_ne hb) rfl
theorem cells_c {G : GT} {M : Mem} {a0 a sp dp n : Nat} (hn : 208 ≤ M.2 5) (h : (sh a).1 = 10) : (cellsOf G M).set a (G.2 + a, .inl (G.1.2 0, ln a, .inl (va_cpy (M.1 a0) (M.1 a) sp dp n))) = cellsOf G (mcpy M a0 sp a dp n) :=
  cells_set (Nat.lt_of_lt_of_le (lt_of_sh h (by omega)) hn) rfl (by rw [ent_i h]; simp [mcpy]) fun _ hb => ent_row (if_neg hb) rfl
theorem cells_x {G : GT} {M : Mem} {a k : Nat} {v : Int32} (h : 208 ≤ a) (h2 : a < M.2 5) : (cellsOf G M).set a (G.2 + a, .inl (G.1.2 0, M.2 (10 + a), .inl (upd (M.1 a) k v))) = cellsOf G (mset M a k v) :=
  cells_set h2 rfl (by rw [ent_x h, mset_eq]; rfl) fun _ hb => ent_row (mset_ne hb) rfl
/-- a new row of the law's -/
def mnew (M : Mem) (n : Nat) : Mem := (fun b => if b = M.2 5 then fun _ => 0 else M.1 b, fun j => if j = 5 then M.2 5 + 1 else if j = 6 then M.2 6 + n else if j = 10 + M.2 5 then n else M.2 j)
theorem mnew_5 {M : Mem} {n : Nat} : (mnew M n).2 5 = M.2 5 + 1 := rfl
theorem mnew_6 {M : Mem} {n : Nat} : (mnew M n).2 6 = M.2 6 + n := rfl
theorem mnew_lt {M : Mem} {n i : Nat} (h : i < 5) : (mnew M n).2 i = M.2 i := by
  show (if i = 5 then _ else if i = 6 then _ else if i = 10 + M.2 5 then _ else _) = _
  rw [if_neg (by omega), if_neg (by omega), if_neg (by omega)]
theorem mnew_ln {M : Mem} {n : Nat} : (mnew M n).2 (10 + M.2 5) = n := by
  show (if 10 + M.2 5 = 5 then _ else if 10 + M.2 5 = 6 then _ else if 10 + M.2 5 = 10 + M.2 5 then _ else _) = _
  rw [if_neg (by omega), if_neg (by omega), if_pos rfl]
theorem mnew_ln2 {M : Mem} {n a : Nat} (h : a ≠ M.2 5) : (mnew M n).2 (10 + a) = M.2 (10 + a) := by
  show (if 10 + a = 5 then _ else if 10 + a = 6 then _ else if 10 + a = 10 + M.2 5 then _ else _) = _
  rw [if_neg (by omega), if_neg (by omega), if_neg (by omega)]
theorem mnew_1 {M : Mem} {n : Nat} : (mnew M n).1 (M.2 5) = fun _ => 0 := if_pos rfl
theorem mnew_ne {M : Mem} {n a : Nat} (h : a ≠ M.2 5) : (mnew M n).1 a = M.1 a := if_neg h
theorem ent_new {b : Nat} {dA : Nat → ClassId} {M : Mem} {n a : Nat} (h : a < M.2 5) : ent b dA (mnew M n) a = ent b dA M a := by
  have h1 := mnew_ne (M := M) (n := n) (Nat.ne_of_lt h)
  have h2 := mnew_ln2 (M := M) (n := n) (Nat.ne_of_lt h)
  have hf : fv b (sh a).1 a (mnew M n) = fv b (sh a).1 a M := by funext k; simp only [fv, h1]
  have hh : hM (mnew M n) = hM M := by
    funext i
    by_cases hi : i < 5
    · rw [hM_lt hi, hM_lt hi, mnew_lt hi]
    · rw [hM, hM, if_neg hi, if_neg hi]
  rw [ent, ent, h1, h2, hf, hh]
theorem cells_new {G : GT} {M : Mem} {n : Nat} (h : 208 ≤ M.2 5) : cellsOf G (mnew M n) = cellsOf G M ++ [(G.2 + M.2 5, .inl (G.1.2 0, n, .inl fun _ => 0))] := by
  rw [cellsOf, mnew_5, List.range_succ, List.map_append]
  congr 1
  · exact List.map_congr_left fun a ha => by rw [ent_new (List.mem_range.mp ha)]
  · rw [List.map_cons, List.map_nil, ent_x h, mnew_ln, mnew_1]
theorem sh_h : ∀ a, a < 208 → (sh a).1 = 13 → a = 45 := by decide +kernel
theorem hset_2 {M : Mem} {i v j : Nat} (h : i ≠ j) : (hset M i v).2 j = M.2 j := if_neg (Ne.symm h)
theorem cells_h {G : GT} {M : Mem} {i v : Nat} (hn : 208 ≤ M.2 5) (hi : i < 5) : (cellsOf G M).set 45 (G.2 + 45, .inl (G.1.2 3, ln 45, .inr (.inr (.inr (.inr (va_up (fun i => some (G.2 + hM M i)) i (some (G.2 + v)))))))) = cellsOf G (hset M i v) := by
  refine cells_set (by omega) (hset_2 (by omega)) ?_ fun b hb => ?_
  · rw [ent_h rfl]
    have hj : (fun j => some (G.2 + hM (hset M i v) j)) = va_up (fun j => some (G.2 + hM M j)) i (some (G.2 + v)) := by
      funext j
      by_cases hj : j = i <;> simp [hset, va_up, hj, hM, hi]
    rw [hj]
  · have hf : fv G.2 (sh b).1 b (hset M i v) = fv G.2 (sh b).1 b M := by funext k; rfl
    by_cases hl : 208 ≤ b
    · rw [ent_x hl, ent_x hl, hset_2 (by omega)]
      rfl
    · have h13 : (sh b).1 ≠ 13 := fun q => hb (sh_h b (by omega) q)
      rw [ent, ent, if_neg hl, if_neg hl]
      simp only [if_neg h13, hf]
      rfl
