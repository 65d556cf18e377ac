/-! expanded forms are whole, and not too long or deep -/
theorem nd_mem {l : Fm} {P : Nd → Prop} : (∀ k, k < l.length → P (nd l k)) ↔ ∀ q ∈ l, P q := by
  constructor
  · intro h q hq
    obtain ⟨k, hk, e⟩ := List.getElem_of_mem hq
    have := h k hk
    simpa [nd, hk, e] using this
  · intro h k hk
    have e : nd l k = l[k] := by simp [nd, hk]
    rw [e]
    exact h _ (List.getElem_mem hk)
theorem skp_app {X : Fm} : ∀ {e : Fm} {a m : Nat}, skp e a = some [] → skp (e ++ X) (a + m) = skp X m
  | [], 0, m, _ => by rw [List.nil_append, Nat.zero_add]
  | [], a + 1, m, h => by cases h
  | q :: e, 0, m, h => by cases h
  | q :: e, a + 1, m, h => by
    have h' : skp e (a + ar q.1) = some [] := h
    have := skp_app (X := X) (m := m) h'
    rw [List.cons_append, Nat.succ_add, skp, ← this]
    congr 1
    omega
theorem skp_cnt : ∀ {l r : Fm} {m : Nat}, skp l m = some r → (l.countP fun q => ar q.1 == 0) + (r.countP fun q => ar q.1 == 2) = m + (l.countP fun q => ar q.1 == 2) + (r.countP fun q => ar q.1 == 0)
  | [], r, 0, h => by cases h; simp
  | [], r, m + 1, h => by cases h
  | q :: l, r, 0, h => by cases h; omega
  | q :: l, r, m + 1, h => by
    have h' : skp l (m + ar q.1) = some r := h
    have ih := skp_cnt h'
    rw [List.countP_cons, List.countP_cons]
    rcases ar_cases q.1 with c | c | c <;> simp only [c] at ih ⊢ <;> simp <;> omega
theorem cnt_len {l : Fm} : (l.countP fun q => ar q.1 == 0) + (l.countP fun q => ar q.1 == 2) ≤ l.length := by
  induction l with
  | nil => simp
  | cons q l ih =>
    rw [List.countP_cons, List.countP_cons, List.length_cons]
    rcases ar_cases q.1 with c | c | c <;> simp only [c] <;> simp <;> omega
/-- a table of expanded forms of which the cheap ones are whole and small -/
def OKT (T : List XE) : Prop := ∀ c, (T.getD c x0).2.1 = true → wf (T.getD c x0).1 ∧ (T.getD c x0).1.length ≤ 3
theorem ar2 : ar 2 = 0 := by decide
theorem pce_cases {T : List XE} (hT : OKT T) (q : Nd) : pce T q = [q] ∨ (q.1 = 2 ∧ wf (pce T q) ∧ (pce T q).length ≤ 3) := by
  rw [pce]
  split
  · rename_i h
    exact Or.inr ⟨h.1, (hT _ h.2).1, (hT _ h.2).2⟩
  · exact Or.inl rfl
theorem exl_cons {T : List XE} {q : Nd} {l : Fm} : exl T (q :: l) = pce T q ++ exl T l := by simp [exl]
theorem exl_nil {T : List XE} : exl T [] = [] := rfl
theorem skp_exl {T : List XE} (hT : OKT T) : ∀ {l r : Fm} {m : Nat}, skp l m = some r → skp (exl T l) m = some (exl T r)
  | l, r, 0, h => by
    rw [skp_0] at h ⊢
    cases h
    rfl
  | [], r, m + 1, h => by cases h
  | q :: l, r, m + 1, h => by
    have h' : skp l (m + ar q.1) = some r := h
    have ih := skp_exl hT h'
    rw [exl_cons]
    rcases pce_cases hT q with e | ⟨e1, e2, e3⟩
    · rw [e]
      exact ih
    · rw [e1, ar2, Nat.add_zero] at ih
      rw [Nat.add_comm, skp_app e2]
      exact ih
theorem exl_wf {T : List XE} (hT : OKT T) {l : Fm} (h : wf l) : wf (exl T l) := skp_exl hT h
theorem exl_len {T : List XE} (hT : OKT T) {l : Fm} : (exl T l).length ≤ l.length + 2 * (l.countP fun q => ar q.1 == 0) := by
  induction l with
  | nil => simp [exl]
  | cons q l ih =>
    rw [exl_cons, List.length_append, List.length_cons, List.countP_cons]
    rcases pce_cases hT q with e | ⟨e1, e2, e3⟩
    · rw [e]
      simp only [List.length_cons, List.length_nil]
      omega
    · have : (ar q.1 == 0) = true := by rw [e1]; decide
      rw [if_pos this]
      omega
theorem exl_60 {T : List XE} (hT : OKT T) {l : Fm} (h : wf l) (hl : l.length ≤ 30) : (exl T l).length ≤ 60 := by
  have h1 := exl_len hT (l := l)
  have h2 := skp_cnt h
  have h3 := cnt_len (l := l)
  simp at h2
  omega
/-- an expanded form is at most two levels deeper than the formula has nodes -/
theorem exl_deep {T : List XE} (hT : OKT T) {lv : Nd → Int32} : ∀ (n : Nat) (l r : Fm), l.length < n → skp l 1 = some r → (tr lv (exl T l) 0).2.2.1 + r.length ≤ l.length + 2 := by
  intro n
  induction n with
  | zero => intro l r h; omega
  | succ n ih =>
    intro l r hn hs
    cases l with
    | nil => cases hs
    | cons q l =>
      have hs' : skp l (0 + ar q.1) = some r := hs
      rw [Nat.zero_add] at hs'
      rw [List.length_cons] at hn ⊢
      have hr := (skp_len hs').1
      rw [exl_cons]
      rcases pce_cases hT q with e | ⟨e1, e2, e3⟩
      · rw [e]
        show (tr lv (q :: exl T l) 0).2.2.1 + _ ≤ _
        have hk : 0 < (q :: exl T l).length := by simp
        have hnd : nd (q :: exl T l) 0 = q := rfl
        have hd1 : ∀ z, tr lv (q :: exl T l) (1 + z) = tr lv (exl T l) z := fun z => by
          have := tr_drop (lv := lv) (l := q :: exl T l) (k := 1) (j := z)
          rw [← this]
          rfl
        rcases ar_cases q.1 with c | c | c
        · rw [tr_a0 hk (by rw [hnd]; exact c)]
          show 1 + _ ≤ _
          omega
        · rw [c] at hs'
          rw [tr_a1 hk (by rw [hnd]; exact c)]
          have := ih l r (by omega) hs'
          have e0 := hd1 0
          rw [Nat.add_zero] at e0
          rw [Nat.zero_add, e0]
          show _ + 1 + _ ≤ _
          omega
        · rw [c] at hs'
          obtain ⟨r1, s1, s2⟩ := skp_add (a := 1) (b := 1) hs'
          rw [tr_a2 hk (by rw [hnd]; exact c)]
          have i1 := ih l r1 (by omega) s1
          have l1 := (skp_len s1).1
          have i2 := ih r1 r (by omega) s2
          have l2 := (skp_len s2).1
          have e0 := hd1 0
          rw [Nat.add_zero] at e0
          rw [Nat.zero_add, e0, hd1]
          have x1 := skp_exl hT s1
          have xne : exl T l ≠ [] := by
            intro z
            rw [z] at x1
            cases x1
          have xl : 0 < (exl T l).length := by
            cases hx : exl T l with
            | nil => exact absurd hx xne
            | cons a b => simp
          have sz := tr_size (lv := lv) ((exl T l).length - 0 + 1) 0 (exl T r1) (by omega) xl (by rw [List.drop_zero]; exact x1)
          have hd : (exl T l).drop (tr lv (exl T l) 0).1 = exl T r1 := by
            have z := (skp_len x1).2
            rw [← z]
            congr 1
            omega
          have e2 : tr lv (exl T l) (tr lv (exl T l) 0).1 = tr lv (exl T r1) 0 := by
            rw [← hd, tr_drop, Nat.add_zero]
          rw [e2]
          show max _ _ + 1 + _ ≤ _
          omega
      · have hsz : skp (pce T q ++ exl T l) 1 = some (exl T l) := by
          have := skp_app (X := exl T l) (m := 0) e2
          rw [skp_0] at this
          exact this
        have pl : 0 < (pce T q).length := wf_len e2
        have sz := tr_size (lv := lv) (l := pce T q ++ exl T l) ((pce T q ++ exl T l).length - 0 + 1) 0 (exl T l) (by omega) (by rw [List.length_append]; omega) (by rw [List.drop_zero]; exact hsz)
        have le := tr_le (lv := lv) (l := pce T q ++ exl T l) ((pce T q ++ exl T l).length - 0 + 1) 0 (by omega)
        rw [List.length_append] at sz
        rw [e1, ar2, skp_0] at hs'
        have := congrArg List.length (Option.some.inj hs')
        omega
theorem okN.mono {f g : Nat} {q : Nd} (h : okN f q) (hfg : f ≤ g) : okN g q := by
  rcases h with h | h | ⟨h1, c, h2, h3⟩ | h
  · exact Or.inl h
  · exact Or.inr (Or.inl h)
  · exact Or.inr (Or.inr (Or.inl ⟨h1, c, by omega, h3⟩))
  · exact Or.inr (Or.inr (Or.inr h))
theorem isCheap_spec {d : Bool} {l : Fm} (h : isCheap d l = true) : d = true ∧ l.length ≤ 3 ∧ ∀ q ∈ l, ¬ q.1 = 2 ∧ ¬ q.1 = 6 := by
  simp only [isCheap, Bool.and_eq_true, decide_eq_true_eq, Bool.not_eq_true', List.any_eq_false] at h
  refine ⟨h.1, h.2.1, fun q hq => ⟨?_, ?_⟩⟩
  · have := h.2.2.2 q hq
    simpa using this
  · have := h.2.2.1 q hq
    simpa using this
/-- the expanded form of the number c of good formulas -/
theorem mkX_ok {fs : List Fm} (hk : OKS fs) {cells : Nat → Int32} : ∀ c, c < fs.length → OKT (XF fs cells c) ∧ wf (mkX (XF fs cells c) fs cells c).1 ∧ (mkX (XF fs cells c) fs cells c).1.length ≤ 60 ∧ (∀ q ∈ (mkX (XF fs cells c) fs cells c).1, okN c q) ∧ ((mkX (XF fs cells c) fs cells c).2.1 = true → (mkX (XF fs cells c) fs cells c).1.length ≤ 3 ∧ ∀ q ∈ (mkX (XF fs cells c) fs cells c).1, ¬ q.1 = 2 ∧ ¬ q.1 = 6) := by
  intro c
  induction c using Nat.strongRecOn with
  | _ c ih =>
    intro hc
    have hout : ∀ j, ¬ j < c → (XF fs cells c).getD j x0 = x0 := fun j hj => by
      rw [List.getD_eq_getElem?_getD, List.getElem?_eq_none (by rw [XF_len]; omega)]
      rfl
    have hT : OKT (XF fs cells c) := by
      intro j hj
      by_cases hjc : j < c
      · rw [XF_lt c hjc] at hj ⊢
        obtain ⟨-, h1, -, -, h2⟩ := ih j hjc (by omega)
        exact ⟨h1, (h2 hj).1⟩
      · rw [hout j hjc] at hj
        exact absurd hj (by decide)
    obtain ⟨w1, w2, w3⟩ := hk.2 c hc
    refine ⟨hT, exl_wf hT w1, exl_60 hT w1 w2, ?_, ?_⟩
    · intro q hq
      obtain ⟨q0, h0, hq0⟩ := List.mem_flatMap.mp hq
      have ok0 := (nd_mem.mp w3) q0 h0
      rw [pce] at hq0
      split at hq0
      · rename_i hz
        by_cases hjc : ix q0.2 < c
        · rw [XF_lt c hjc] at hq0
          exact ((ih _ hjc (by omega)).2.2.2.1 q hq0).mono (by omega)
        · rw [hout _ hjc] at hq0
          cases hq0
      · rw [List.mem_singleton] at hq0
        rw [hq0]
        exact ok0
    · intro hch
      exact (isCheap_spec hch).2
