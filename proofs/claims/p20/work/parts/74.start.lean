/-! the memory that the constructors leave -/
def mz (a : Nat) : Bool := a == 209 || (decide (160 ≤ a) && decide (a < 208) && ((a - 160) % 8 == 4 || (a - 160) % 8 == 5 || (a - 160) % 8 == 6))
def M0n (a k : Nat) : Int32 :=
  if (sh a).1 = 1 then (if k = 2 then 1 else 0)
  else if (sh a).1 = 4 then (if k = 1 then 1 else if k = 3 then 3 else 0)
  else if (sh a).1 = 0 then (if k = 0 then nI ((a - 160) / 8) else 0)
  else if a = 209 then (if k = 10 then 1 else if k = 1 then 3 else if k = 0 then 1 else 0)
  else if mz a = true then (if k = 0 then 1 else 0) else 0
def M0 : Mem := (M0n, fun i => if i < 5 then 55 + 21 * i else if i = 5 then 208 else if i = 6 then 8151 else 0)
def En (G : GT) (c : Nat) : va_E := ent G.2 G.1.2 M0 c
def cE (G : GT) (f : Nat → va_E) (a : Nat) : Nat → va_E := fun c => if c < a then f c else En G c
def lk (L : List (Nat × va_E)) (d : Nat → va_E) (c : Nat) : va_E := match L with
  | [] => d c
  | q :: L => if c = q.1 then q.2 else lk L d c
theorem lk_0 {d : Nat → va_E} {c : Nat} : lk [] d c = d c := rfl
theorem lk_c {q : Nat × va_E} {L : List (Nat × va_E)} {d : Nat → va_E} {c : Nat} : lk (q :: L) d c = if c = q.1 then q.2 else lk L d c := rfl
theorem lk_up {x : Nat} {e : va_E} {L : List (Nat × va_E)} {d : Nat → va_E} : fup (lk L d) x e = lk ((x, e) :: L) d := rfl
theorem cE_ge {G : GT} {f : Nat → va_E} {a c : Nat} (h : a ≤ c) : cE G f a c = En G c := if_neg (by omega)
theorem cE_lt {G : GT} {f : Nat → va_E} {a c : Nat} (h : c < a) : cE G f a c = f c := if_pos h
/-- a fresh cell that is as it stays -/
theorem lk_new {G : GT} {f : Nat → va_E} {a x n : Nat} {e : va_E} {L : List (Nat × va_E)} {H : Heap} (h : BW G n (fup (lk L (cE G f a)) x e) H) (he : En G x = e) (hx : a ≤ x) (hL : ∀ q ∈ L, q.1 ≠ x) : BW G n (lk L (cE G f a)) H := by
  refine h.cg fun c _ => ?_
  by_cases hc : c = x
  · subst hc
    rw [fup_eq, ← he, ← cE_ge (f := f) hx]
    clear h he hx
    induction L with
    | nil => rfl
    | cons q L ih => rw [lk_c, if_neg fun z => hL q List.mem_cons_self z.symm, ih fun r hr => hL r (List.mem_cons_of_mem _ hr)]
  · rw [fup_ne hc]
/-- the first entry is written again -/
theorem lk_2 {n x : Nat} {e e' : va_E} {L : List (Nat × va_E)} {d : Nat → va_E} {G : GT} {H : Heap} (h : BW G n (fup (lk ((x, e) :: L) d) x e') H) : BW G n (lk ((x, e') :: L) d) H := by
  refine h.cg fun c _ => ?_
  rw [lk_c]
  by_cases hc : c = x
  · subst hc
    rw [fup_eq, if_pos rfl]
  · rw [fup_ne hc, if_neg hc, lk_c, if_neg hc]
/-- the second entry is written again -/
theorem lk_3 {n x y : Nat} {e e' e2 : va_E} {L : List (Nat × va_E)} {d : Nat → va_E} {G : GT} {H : Heap} (h : BW G n (fup (lk ((y, e2) :: (x, e) :: L) d) x e') H) (hxy : x ≠ y) : BW G n (lk ((y, e2) :: (x, e') :: L) d) H := by
  refine h.cg fun c _ => ?_
  rw [lk_c]
  by_cases hc : c = x
  · subst hc
    rw [fup_eq, if_neg hxy, lk_c, if_pos rfl]
  · rw [fup_ne hc, lk_c, lk_c, lk_c, if_neg hc, if_neg hc]
/-- the third entry is written again -/
theorem lk_4 {n x y z : Nat} {e e' e2 e3 : va_E} {L : List (Nat × va_E)} {d : Nat → va_E} {G : GT} {H : Heap} (h : BW G n (fup (lk ((z, e3) :: (y, e2) :: (x, e) :: L) d) x e') H) (hxy : x ≠ y) (hxz : x ≠ z) : BW G n (lk ((z, e3) :: (y, e2) :: (x, e') :: L) d) H := by
  refine h.cg fun c _ => ?_
  rw [lk_c]
  by_cases hc : c = x
  · subst hc
    rw [fup_eq, if_neg hxz, lk_c, if_neg hxy, lk_c, if_pos rfl]
  · rw [fup_ne hc, lk_c, lk_c, lk_c, lk_c, lk_c, if_neg hc, if_neg hc]
/-- the first entry is as it stays -/
theorem lk_end {n x a : Nat} {e : va_E} {L : List (Nat × va_E)} {f : Nat → va_E} {G : GT} {H : Heap} (h : BW G n (lk ((x, e) :: L) (cE G f a)) H) (he : En G x = e) (hx : a ≤ x) (hL : ∀ q ∈ L, q.1 ≠ x) : BW G n (lk L (cE G f a)) H := by
  rw [show lk ((x, e) :: L) (cE G f a) = fup (lk L (cE G f a)) x e from rfl] at h
  exact lk_new h he hx hL
/-- at the entry: the object itself is blank -/
theorem lk_start {n a : Nat} {e : va_E} {f : Nat → va_E} {G : GT} {H : Heap} (h : BW G n f H) (hn : n ≤ a + 1) (he : f a = e) : BW G n (lk [(a, e)] (cE G f a)) H := by
  refine h.cg fun c hc => ?_
  rw [lk_c, lk_0]
  by_cases h1 : c = a
  · rw [if_pos h1, h1, he]
  · rw [if_neg h1, cE_lt (by omega)]
/-- behind a nested constructor -/
theorem lk_back {n x a : Nat} {e : va_E} {L : List (Nat × va_E)} {f : Nat → va_E} {G : GT} {H : Heap} (h : BW G n (cE G (fup (lk L (cE G f a)) x e) x) H) (hx : a ≤ x) (hL : ∀ q ∈ L, q.1 < x) : BW G n (lk L (cE G f a)) H := by
  refine h.cg fun c _ => ?_
  rcases Nat.lt_or_ge c x with hc | hc
  · rw [cE_lt hc, fup_ne (by omega)]
  · rw [cE_ge hc, ← cE_ge (f := f) (a := a) (Nat.le_trans hx hc)]
    clear h
    induction L with
    | nil => rfl
    | cons q L ih =>
      have := hL q List.mem_cons_self
      rw [lk_c, if_neg (by omega), ih fun r hr => hL r (List.mem_cons_of_mem _ hr)]
theorem arrV_cg {cA : ClassId} {N : Nat} {f g : Nat → Value} (h : ∀ j, j < N → f j = g j) : arrV cA N f = arrV cA N g := by
  rw [arrV, arrV]
  congr 1
  congr 1
  funext j
  exact h _ j.isLt
/-- a row of references, its places beyond the end as one likes -/
theorem BW.ref {G : GT} {n x N : Nat} {cA : ClassId} {f : Nat → va_E} {g g' : Nat → Option Nat} {H : Heap} (h : BW G n f H) (hx : x < n) (he : f x = .inl (cA, N, .inr (.inr (.inr (.inr g))))) (hg : ∀ j, j < N → g j = g' j) : BW G n (fup f x (.inl (cA, N, .inr (.inr (.inr (.inr g')))))) H := by
  intro k q hk
  obtain ⟨rfl, hkn⟩ := bld_inv hk
  have h1 := h k _ (bld_at hkn)
  by_cases hc : k = x
  · subst hc
    rw [fup_eq]
    rw [he] at h1
    have h2 : H[G.2 + k]? = some (vp_cell cA (N, .inr (.inr (.inr (.inr g))))) := h1
    show H[G.2 + k]? = some (vp_cell cA (N, .inr (.inr (.inr (.inr g')))))
    rw [h2, vp_cell_q, vp_cell_q, arrV_cg fun j hj => by rw [hg j hj]]
  · rw [fup_ne hc]
    exact h1
theorem mzF : ∀ a, a < 208 → (sh a).1 = 1 → mz (a + 1) = false ∧ mz (a + 2) = false ∧ a + 1 ≠ 209 ∧ a + 2 ≠ 209 := by decide +kernel
theorem mzS : ∀ a, a < 208 → (sh a).1 = 4 → mz (a + 2) = false ∧ a + 2 ≠ 209 := by decide +kernel
theorem mzE : ∀ a, a < 208 → (sh a).1 = 0 → mz (a + 4) = true ∧ mz (a + 5) = true ∧ mz (a + 6) = true ∧ mz (a + 7) = false ∧ a + 7 < 209 := by decide +kernel
theorem E_z {G : GT} {a N : Nat} (h : (sh a).1 = 10) (hn : ln a = N) (h1 : mz a = false) (h2 : a ≠ 209) : En G a = .inl (G.1.2 0, N, .inl fun _ => 0) := by
  have h3 : M0.1 a = fun _ => 0 := by
    funext k
    simp [M0, M0n, h, h1, h2]
  rw [En, ent_i h, hn, h3]
theorem E_1 {G : GT} {a N : Nat} (h : (sh a).1 = 10) (hn : ln a = N) (h1 : mz a = true) (h2 : a ≠ 209) : En G a = .inl (G.1.2 0, N, .inl (upd (fun _ => 0) 0 1)) := by
  have h3 : M0.1 a = upd (fun _ => 0) 0 1 := by
    funext k
    simp [M0, M0n, h, h1, h2, upd]
  rw [En, ent_i h, hn, h3]
theorem E_F {G : GT} {a : Nat} (h : (sh a).1 = 1) : En G a = .inr (1, [.ref (G.2 + (a + 1)), .ref (G.2 + (a + 2)), .int 1]) := by
  have e0 : fv G.2 1 a M0 0 = .ref (G.2 + (a + 1)) := by rw [fv, if_pos (by decide), rF0 h]
  have e1 : fv G.2 1 a M0 1 = .ref (G.2 + (a + 2)) := by rw [fv, if_pos (by decide), rF1 h]
  have e2 : fv G.2 1 a M0 2 = .int 1 := by rw [fv, if_neg (by decide)]; simp [M0, M0n, h]
  rw [En, ent_o (shN1 h) (by decide), show List.range 3 = [0, 1, 2] from rfl, List.map_cons, List.map_cons, List.map_cons, List.map_nil, e0, e1, e2]
theorem E_S {G : GT} {a : Nat} (h : (sh a).1 = 4) : En G a = .inr (4, [.ref (G.2 + (a + 1)), .int 1, .ref (G.2 + (a + 2)), .int 3]) := by
  have e0 : fv G.2 4 a M0 0 = .ref (G.2 + (a + 1)) := by rw [fv, if_pos (by decide), rS0 h]
  have e1 : fv G.2 4 a M0 1 = .int 1 := by rw [fv, if_neg (by decide)]; simp [M0, M0n, h]
  have e2 : fv G.2 4 a M0 2 = .ref (G.2 + (a + 2)) := by rw [fv, if_pos (by decide), rS2 h]
  have e3 : fv G.2 4 a M0 3 = .int 3 := by rw [fv, if_neg (by decide)]; simp [M0, M0n, h]
  rw [En, ent_o (shN4 h) (by decide), show List.range 4 = [0, 1, 2, 3] from rfl, List.map_cons, List.map_cons, List.map_cons, List.map_cons, List.map_nil, e0, e1, e2, e3]
theorem E_E {G : GT} {a : Nat} (h : (sh a).1 = 0) : En G a = .inr (0, [.int (nI ((a - 160) / 8)), .ref (G.2 + (a + 1)), .int 0, .ref (G.2 + (a + 4)), .ref (G.2 + (a + 5)), .ref (G.2 + (a + 6)), .ref (G.2 + (a + 7))]) := by
  have e0 : fv G.2 0 a M0 0 = .int (nI ((a - 160) / 8)) := by rw [fv, if_neg (by decide)]; simp [M0, M0n, h]
  have e1 : fv G.2 0 a M0 1 = .ref (G.2 + (a + 1)) := by rw [fv, if_pos (by decide), rE1 h]
  have e2 : fv G.2 0 a M0 2 = .int 0 := by rw [fv, if_neg (by decide)]; simp [M0, M0n, h]
  have e3 : fv G.2 0 a M0 3 = .ref (G.2 + (a + 4)) := by rw [fv, if_pos (by decide), rE3 h]
  have e4 : fv G.2 0 a M0 4 = .ref (G.2 + (a + 5)) := by rw [fv, if_pos (by decide), rE4 h]
  have e5 : fv G.2 0 a M0 5 = .ref (G.2 + (a + 6)) := by rw [fv, if_pos (by decide), rE5 h]
  have e6 : fv G.2 0 a M0 6 = .ref (G.2 + (a + 7)) := by rw [fv, if_pos (by decide), rE6 h]
  rw [En, ent_o (shN0 h) (by decide), show List.range 7 = [0, 1, 2, 3, 4, 5, 6] from rfl, List.map_cons, List.map_cons, List.map_cons, List.map_cons, List.map_cons, List.map_cons, List.map_cons, List.map_nil, e0, e1, e2, e3, e4, e5, e6]
theorem E_FA {G : GT} {a : Nat} (h : (sh a).1 = 12) : En G a = .inl (G.1.2 2, 6, .inr (.inr (.inr (.inr fun i => some (G.2 + rf a i))))) := by
  rw [En, ent_f h, (sh_F a (lt_of_sh h (by omega)) h).1]
