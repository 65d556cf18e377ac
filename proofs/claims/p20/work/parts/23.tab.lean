/-! what is told of the nodes of a form: size, need, depth, value; from its end on -/
abbrev Rw : Type := Nat × Nat × Nat × Int32
def rw0 : Rw := (0, 0, 0, 0)
def opv (k x y : Int32) : Int32 := Int64.toInt32 (mxL (-99999) (mnL 99999 (if k = 4 then x.toInt64 + y.toInt64 else if k = 5 then x.toInt64 - y.toInt64 else x.toInt64 * y.toInt64)))
def npair (a b : Nat) : Nat := if a = b then a + 1 else max a b
def rwOf (lv : Nd → Int32) (q : Nd) (T : List Rw) : Rw :=
  if ar q.1 = 0 then (1, 1, 1, lv q)
  else if ar q.1 = 1 then ((T.getD 0 rw0).1 + 1, (T.getD 0 rw0).2.1, (T.getD 0 rw0).2.2.1 + 1, -(T.getD 0 rw0).2.2.2)
  else ((T.getD 0 rw0).1 + (T.getD (T.getD 0 rw0).1 rw0).1 + 1, npair (T.getD 0 rw0).2.1 (T.getD (T.getD 0 rw0).1 rw0).2.1, max (T.getD 0 rw0).2.2.1 (T.getD (T.getD 0 rw0).1 rw0).2.2.1 + 1, opv q.1 (T.getD 0 rw0).2.2.2 (T.getD (T.getD 0 rw0).1 rw0).2.2.2)
def tb (lv : Nd → Int32) : Fm → List Rw
  | [] => []
  | q :: l => rwOf lv q (tb lv l) :: tb lv l
def tr (lv : Nd → Int32) (l : Fm) (k : Nat) : Rw := (tb lv l).getD k rw0
theorem tb_len {lv : Nd → Int32} : ∀ {l : Fm}, (tb lv l).length = l.length
  | [] => rfl
  | q :: l => by rw [tb, List.length_cons, List.length_cons, tb_len]
theorem tb_drop {lv : Nd → Int32} : ∀ {l : Fm} {k : Nat}, tb lv (l.drop k) = (tb lv l).drop k
  | [], k => by simp [tb]
  | q :: l, 0 => rfl
  | q :: l, k + 1 => by rw [List.drop_succ_cons, tb, List.drop_succ_cons, tb_drop]
theorem tr_drop {lv : Nd → Int32} {l : Fm} {k j : Nat} : tr lv (l.drop k) j = tr lv l (k + j) := by simp [tr, tb_drop]
theorem tr_out {lv : Nd → Int32} {l : Fm} {k : Nat} (h : l.length ≤ k) : tr lv l k = rw0 := by
  rw [tr, List.getD_eq_getElem?_getD, List.getElem?_eq_none (by rw [tb_len]; exact h)]
  rfl
theorem tr_0 {lv : Nd → Int32} {q : Nd} {l : Fm} : tr lv (q :: l) 0 = rwOf lv q (tb lv l) := rfl
theorem tr_at {lv : Nd → Int32} {l : Fm} {k : Nat} (h : k < l.length) : tr lv l k = rwOf lv (nd l k) (tb lv (l.drop (k + 1))) := by
  have e : tr lv l k = tr lv (l.drop k) 0 := by rw [tr_drop, Nat.add_zero]
  rw [e, List.drop_eq_getElem_cons h, tr_0]
  congr 1
  simp [nd, h]
/-- the three kinds of node, by the rows of their parts -/
theorem tr_a0 {lv : Nd → Int32} {l : Fm} {k : Nat} (h : k < l.length) (ha : ar (nd l k).1 = 0) : tr lv l k = (1, 1, 1, lv (nd l k)) := by
  rw [tr_at h, rwOf, if_pos ha]
theorem tr_a1 {lv : Nd → Int32} {l : Fm} {k : Nat} (h : k < l.length) (ha : ar (nd l k).1 = 1) : tr lv l k = ((tr lv l (k + 1)).1 + 1, (tr lv l (k + 1)).2.1, (tr lv l (k + 1)).2.2.1 + 1, -(tr lv l (k + 1)).2.2.2) := by
  have e : (tb lv (l.drop (k + 1))).getD 0 rw0 = tr lv l (k + 1) := by rw [← Nat.add_zero (k + 1), ← tr_drop]; rfl
  rw [tr_at h, rwOf, if_neg (by omega), if_pos ha, e]
theorem tr_a2 {lv : Nd → Int32} {l : Fm} {k : Nat} (h : k < l.length) (ha : ar (nd l k).1 = 2) : tr lv l k = ((tr lv l (k + 1)).1 + (tr lv l (k + 1 + (tr lv l (k + 1)).1)).1 + 1, npair (tr lv l (k + 1)).2.1 (tr lv l (k + 1 + (tr lv l (k + 1)).1)).2.1, max (tr lv l (k + 1)).2.2.1 (tr lv l (k + 1 + (tr lv l (k + 1)).1)).2.2.1 + 1, opv (nd l k).1 (tr lv l (k + 1)).2.2.2 (tr lv l (k + 1 + (tr lv l (k + 1)).1)).2.2.2) := by
  have e : (tb lv (l.drop (k + 1))).getD 0 rw0 = tr lv l (k + 1) := by rw [← Nat.add_zero (k + 1), ← tr_drop]; rfl
  have e2 : ∀ z, (tb lv (l.drop (k + 1))).getD z rw0 = tr lv l (k + 1 + z) := fun z => by rw [← tr_drop]; rfl
  rw [tr_at h, rwOf, if_neg (by omega), if_neg (by omega), e, e2]
theorem ar_cases (k : Int32) : ar k = 0 ∨ ar k = 1 ∨ ar k = 2 := by
  have := ar_le k
  omega
/-- a row's need and depth are at most its size -/
theorem tr_le {lv : Nd → Int32} {l : Fm} : ∀ (n k : Nat), l.length - k < n → (tr lv l k).2.1 ≤ (tr lv l k).1 ∧ (tr lv l k).2.2.1 ≤ (tr lv l k).1 := by
  intro n
  induction n with
  | zero => intro k h; omega
  | succ n ih =>
    intro k hn
    by_cases h : k < l.length
    · rcases ar_cases (nd l k).1 with c | c | c
      · rw [tr_a0 h c]; exact ⟨Nat.le_refl _, Nat.le_refl _⟩
      · have h1 := ih (k + 1) (by omega)
        rw [tr_a1 h c]
        exact ⟨by dsimp only; omega, by dsimp only; omega⟩
      · have h1 := ih (k + 1) (by omega)
        have h2 := ih (k + 1 + (tr lv l (k + 1)).1) (by omega)
        rw [tr_a2 h c]
        refine ⟨?_, ?_⟩
        · show npair _ _ ≤ _ + _ + 1
          rw [npair]
          split <;> omega
        · show max _ _ + 1 ≤ _ + _ + 1
          omega
    · rw [tr_out (by omega)]
      exact ⟨Nat.le_refl _, Nat.le_refl _⟩
/-- a whole formula -/
def wf (l : Fm) : Prop := skp l 1 = some []
theorem skp_ne {m : Nat} : skp [] (m + 1) = none := rfl
theorem wf_at {l : Fm} (h : wf l) : ∀ k, k ≤ l.length → ∃ m, skp (l.drop k) m = some [] := by
  intro k
  induction k with
  | zero => intro _; exact ⟨1, h⟩
  | succ k ih =>
    intro hk
    obtain ⟨m, hm⟩ := ih (by omega)
    cases m with
    | zero =>
      rw [skp_0] at hm
      have := congrArg List.length (Option.some.inj hm)
      rw [List.length_drop] at this
      simp at this
      omega
    | succ m => exact ⟨_, by rw [skp_drop (by omega)] at hm; exact hm⟩
theorem wf_tree {l : Fm} (h : wf l) {k : Nat} (hk : k < l.length) : ∃ r, skp (l.drop k) 1 = some r := by
  obtain ⟨m, hm⟩ := wf_at h k (by omega)
  cases m with
  | zero =>
    rw [skp_0] at hm
    have := congrArg List.length (Option.some.inj hm)
    rw [List.length_drop] at this
    simp at this
    omega
  | succ m =>
    obtain ⟨r, h1, -⟩ := skp_add (a := 1) (b := m) (by rw [Nat.add_comm]; exact hm)
    exact ⟨r, h1⟩
/-- a tree's size is what stands between it and the rest -/
theorem tr_size {lv : Nd → Int32} {l : Fm} : ∀ (n k : Nat) (r : Fm), l.length - k < n → k < l.length → skp (l.drop k) 1 = some r → (tr lv l k).1 + r.length = l.length - k ∧ 1 ≤ (tr lv l k).1 := by
  intro n
  induction n with
  | zero => intro k r h; omega
  | succ n ih =>
    intro k r hn hk hs
    rw [skp_drop hk, Nat.zero_add] at hs
    rcases ar_cases (nd l k).1 with c | c | c
    · rw [c, skp_0] at hs
      rw [tr_a0 hk c]
      have := congrArg List.length (Option.some.inj hs)
      rw [List.length_drop] at this
      exact ⟨by show 1 + _ = _; omega, Nat.le_refl _⟩
    · rw [c] at hs
      have hk2 : k + 1 < l.length := by
        rcases Nat.lt_or_ge (k + 1) l.length with z | z
        · exact z
        · rw [List.drop_eq_nil_of_le z] at hs; cases hs
      have h1 := ih (k + 1) r (by omega) hk2 hs
      rw [tr_a1 hk c]
      exact ⟨by show _ + 1 + _ = _; omega, by show 1 ≤ _ + 1; omega⟩
    · rw [c] at hs
      obtain ⟨r1, s1, s2⟩ := skp_add (a := 1) (b := 1) hs
      have hk2 : k + 1 < l.length := by
        rcases Nat.lt_or_ge (k + 1) l.length with z | z
        · exact z
        · rw [List.drop_eq_nil_of_le z] at s1; cases s1
      have h1 := ih (k + 1) r1 (by omega) hk2 s1
      have hd : l.drop (k + 1 + (tr lv l (k + 1)).1) = r1 := by
        have z := (skp_len s1).2
        rw [List.length_drop, List.drop_drop] at z
        rw [← z]
        congr 1
        omega
      have hk3 : k + 1 + (tr lv l (k + 1)).1 < l.length := by
        rcases Nat.lt_or_ge (k + 1 + (tr lv l (k + 1)).1) l.length with z | z
        · exact z
        · rw [List.drop_eq_nil_of_le z] at hd; rw [← hd] at s2; cases s2
      have h2 := ih (k + 1 + (tr lv l (k + 1)).1) r (by omega) hk3 (by rw [hd]; exact s2)
      rw [tr_a2 hk c]
      exact ⟨by show _ + _ + 1 + _ = _; omega, by show 1 ≤ _ + _ + 1; omega⟩
theorem wf_size {lv : Nd → Int32} {l : Fm} (h : wf l) {k : Nat} (hk : k < l.length) : 1 ≤ (tr lv l k).1 ∧ k + (tr lv l k).1 ≤ l.length := by
  obtain ⟨r, hr⟩ := wf_tree h hk
  have := tr_size (lv := lv) (l.length - k + 1) k r (by omega) hk hr
  omega
theorem wf_1 {l : Fm} (h : wf l) {k : Nat} (hk : k < l.length) (ha : ar (nd l k).1 = 1) : k + 1 < l.length := by
  obtain ⟨r, hr⟩ := wf_tree h hk
  rw [skp_drop hk, ha] at hr
  rcases Nat.lt_or_ge (k + 1) l.length with z | z
  · exact z
  · rw [List.drop_eq_nil_of_le z] at hr; cases hr
theorem wf_2 {lv : Nd → Int32} {l : Fm} (h : wf l) {k : Nat} (hk : k < l.length) (ha : ar (nd l k).1 = 2) : k + 1 < l.length ∧ k + 1 + (tr lv l (k + 1)).1 < l.length := by
  obtain ⟨r, hr⟩ := wf_tree h hk
  rw [skp_drop hk, ha] at hr
  obtain ⟨r1, s1, s2⟩ := skp_add (a := 1) (b := 1) hr
  have hk2 : k + 1 < l.length := by
    rcases Nat.lt_or_ge (k + 1) l.length with z | z
    · exact z
    · rw [List.drop_eq_nil_of_le z] at s1; cases s1
  have h1 := tr_size (lv := lv) (l.length - (k + 1) + 1) (k + 1) r1 (by omega) hk2 s1
  refine ⟨hk2, ?_⟩
  have z := (skp_len s2).1
  omega
theorem wf_len {l : Fm} (h : wf l) : 0 < l.length := by
  cases l with
  | nil => cases h
  | cons q l => simp
/-- what a leaf is worth -/
def lvf (cells vals : Nat → Int32) (q : Nd) : Int32 := if q.1 = 1 then cells (ix q.2) else if q.1 = 2 then vals (ix q.2) else q.2
/-- nodes as they can stand in the formula of number f -/
def okN (f : Nat) (q : Nd) : Prop := (q.1 = 0 ∧ 0 ≤ q.2 ∧ q.2 < 1000) ∨ (q.1 = 1 ∧ ∃ c, c < 8 ∧ q.2 = nI c) ∨ (q.1 = 2 ∧ ∃ c, c < f ∧ q.2 = nI c) ∨ ((q.1 = 3 ∨ q.1 = 4 ∨ q.1 = 5 ∨ q.1 = 6) ∧ q.2 = 0)
