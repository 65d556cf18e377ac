/-! plans: their steps as a list, on the class's side -/
/-- kind, formula, node, price, how many more places hold a value -/
abbrev Ev : Type := Int32 × Nat × Nat × Int32 × Int32
def ev0 : Ev := (0, 0, 0, 0, 0)
def tC (t : List Ev) : Int32 := t.foldl (fun a e => a + e.2.2.2.1) 0
def tS (t : List Ev) : Int32 := t.foldl (fun a e => a + (if e.1 = 2 then 1 else 0)) 0
def tF (t : List Ev) : Int32 := t.foldl (fun a e => a + (if e.1 = 5 then 1 else 0)) 0
def tO (t : List Ev) : Int32 := t.foldl (fun a e => a + (if e.1 = 1 then e.2.2.2.1 else 0)) 0
def tH (t : List Ev) : Int32 := t.foldl (fun a e => a + e.2.2.2.2) 0
def PA (M : Mem) (t : List Ev) : Prop := (M.1 47 4 = nI t.length ∧ M.1 47 5 = tC t ∧ M.1 47 6 = tS t ∧ M.1 47 7 = tF t ∧ M.1 47 8 = tO t ∧ M.1 47 9 = tH t) ∧ ∀ j, j < t.length → M.1 48 j = (t.getD j ev0).1 ∧ M.1 49 j = nI (t.getD j ev0).2.1 ∧ M.1 50 j = nI (t.getD j ev0).2.2.1 ∧ M.1 51 j = tH (t.take (j + 1))
abbrev RP : Nat → Prop := fun a => 47 ≤ a ∧ a ≤ 51
theorem l726 : (726 : Int32) = nI 726 := rfl
theorem as76 {M : Mem} {x1 x3 t0 t1 : Int32} {a2 n : Nat} (h4 : M.1 47 4 = nI n) (hn : n < 726) (ha : 160 ≤ a2) : f_Plan_addStep_b76 x1 a2 x3 t0 t1 M = some ((), mset (mset (mset (mset (mset (mset M 47 8 (t1 + t0)) 48 n x1) 49 n (M.1 a2 0)) 50 n x3) 51 n (M.1 47 9)) 47 4 (nI (n + 1))) := by
  have e4 : (mset M 47 8 (t1 + t0)).1 47 4 = nI n := by simp [ms1, h4]
  rw [f_Plan_addStep_b76, bm_e, e4, if_neg (nI_pos (by omega)), if_neg (by rw [l726]; exact nI_ge hn (by omega))]
  have g : inb (nI n) 726 = true := inbT hn (by omega)
  simp only [bm_e, ms1, if_true, show ¬ (47 : Nat) = 48 by omega, show ¬ (47 : Nat) = 49 by omega, show ¬ (47 : Nat) = 50 by omega, show ¬ (47 : Nat) = 51 by omega, show ¬ (4 : Nat) = 8 by omega, show ¬ (9 : Nat) = 8 by omega, show ¬ a2 = 47 by omega, show ¬ a2 = 48 by omega, if_false, h4, g, gd_t]
  rw [ixN (by omega), nI_s]
theorem addStep_ok {M : Mem} {t : List Ev} {kd pr mo : Int32} {a2 nn i : Nat} (h : PA M t) (hl : t.length < 726) (ha : 160 ≤ a2) (hi : M.1 a2 0 = nI i) : ∃ M', f_Plan_addStep kd a2 (nI nn) pr mo M = some ((), M') ∧ PA M' (t ++ [(kd, i, nn, pr, mo)]) ∧ Off RP M M' := by
  obtain ⟨⟨h4, h5, h6, h7, h8, h9⟩, hr⟩ := h
  rw [f_Plan_addStep, bm_e, bm_e]
  generalize hM2 : mset (mset M 47 9 (M.1 47 9 + mo)) 47 5 ((mset M 47 9 (M.1 47 9 + mo)).1 47 5 + pr) = M2
  have e1 : (if kd = 2 then f_Plan_addStep_b37 kd a2 (nI nn) pr 1 (M2.1 47 6) M2 else f_Plan_addStep_b37 kd a2 (nI nn) pr 0 (M2.1 47 6) M2) = f_Plan_addStep_b37 kd a2 (nI nn) pr (if kd = 2 then 1 else 0) (M2.1 47 6) M2 := by split <;> rfl
  rw [e1, f_Plan_addStep_b37, bm_e]
  generalize hM3 : mset M2 47 6 (M2.1 47 6 + (if kd = 2 then 1 else 0)) = M3
  have e2 : (if kd = 5 then f_Plan_addStep_b56 kd a2 (nI nn) pr 1 (M3.1 47 7) M3 else f_Plan_addStep_b56 kd a2 (nI nn) pr 0 (M3.1 47 7) M3) = f_Plan_addStep_b56 kd a2 (nI nn) pr (if kd = 5 then 1 else 0) (M3.1 47 7) M3 := by split <;> rfl
  rw [e2, f_Plan_addStep_b56, bm_e]
  generalize hM4 : mset M3 47 7 (M3.1 47 7 + (if kd = 5 then 1 else 0)) = M4
  have e3 : (if kd = 1 then f_Plan_addStep_b76 kd a2 (nI nn) pr (M4.1 47 8) M4 else f_Plan_addStep_b76 kd a2 (nI nn) 0 (M4.1 47 8) M4) = f_Plan_addStep_b76 kd a2 (nI nn) (if kd = 1 then pr else 0) (M4.1 47 8) M4 := by split <;> rfl
  rw [e3]
  have x4 : M4.1 47 4 = nI t.length ∧ M4.1 47 5 = tC t + pr ∧ M4.1 47 6 = tS t + (if kd = 2 then 1 else 0) ∧ M4.1 47 7 = tF t + (if kd = 5 then 1 else 0) ∧ M4.1 47 8 = tO t ∧ M4.1 47 9 = tH t + mo := by
    subst hM4; subst hM3; subst hM2
    simp only [ms1, if_true, show ¬ (4 : Nat) = 5 by omega, show ¬ (4 : Nat) = 6 by omega, show ¬ (4 : Nat) = 7 by omega, show ¬ (4 : Nat) = 9 by omega, show ¬ (5 : Nat) = 6 by omega, show ¬ (5 : Nat) = 7 by omega, show ¬ (5 : Nat) = 9 by omega, show ¬ (6 : Nat) = 5 by omega, show ¬ (6 : Nat) = 7 by omega, show ¬ (6 : Nat) = 9 by omega, show ¬ (7 : Nat) = 5 by omega, show ¬ (7 : Nat) = 6 by omega, show ¬ (7 : Nat) = 9 by omega, show ¬ (8 : Nat) = 5 by omega, show ¬ (8 : Nat) = 6 by omega, show ¬ (8 : Nat) = 7 by omega, show ¬ (8 : Nat) = 9 by omega, show ¬ (9 : Nat) = 5 by omega, show ¬ (9 : Nat) = 6 by omega, show ¬ (9 : Nat) = 7 by omega, if_false, h4, h5, h6, h7, h8, h9, and_self]
  have o4 : Off (fun a => a = 47) M M4 := by
    subst hM4; subst hM3; subst hM2
    exact (((Off.set (S := fun a => a = 47) rfl).tr (Off.set (S := fun a => a = 47) rfl)).tr (Off.set (S := fun a => a = 47) rfl)).tr (Off.set (S := fun a => a = 47) rfl)
  obtain ⟨y4, y5, y6, y7, y8, y9⟩ := x4
  rw [as76 y4 hl ha, o4.1 a2 (by omega), hi, y8, y9]
  have o5 : Off RP M4 (mset (mset (mset (mset (mset (mset M4 47 8 (tO t + (if kd = 1 then pr else 0))) 48 t.length kd) 49 t.length (nI i)) 50 t.length (nI nn)) 51 t.length (tH t + mo)) 47 4 (nI (t.length + 1))) :=
    (((((Off.set (by show _ ∧ _; omega)).tr (Off.set (by show _ ∧ _; omega))).tr (Off.set (by show _ ∧ _; omega))).tr (Off.set (by show _ ∧ _; omega))).tr (Off.set (by show _ ∧ _; omega))).tr (Off.set (by show _ ∧ _; omega))
  refine ⟨_, rfl, ⟨⟨?_, ?_, ?_, ?_, ?_, ?_⟩, fun j hj => ?_⟩, (o4.mono (fun a q => by show _ ∧ _; omega)).tr o5⟩
  · simp [ms1]
  · simp [ms1, y5, tC, List.foldl_append]
  · simp [ms1, y6, tS, List.foldl_append]
  · simp [ms1, y7, tF, List.foldl_append]
  · simp [ms1, tO, List.foldl_append]
  · simp [ms1, y9, tH, List.foldl_append]
  · rw [List.length_append, List.length_cons, List.length_nil] at hj
    by_cases c : j = t.length
    · subst c
      have eg : (t ++ [(kd, i, nn, pr, mo)]).getD t.length ev0 = (kd, i, nn, pr, mo) := by simp
      rw [eg, List.take_of_length_le (by simp)]
      simp [ms1, tH, List.foldl_append]
    · obtain ⟨z1, z2, z3, z4⟩ := hr j (by omega)
      have eg : (t ++ [(kd, i, nn, pr, mo)]).getD j ev0 = t.getD j ev0 := by simp [List.getElem?_append_left (show j < t.length by omega)]
      rw [eg, List.take_append_of_le_length (by omega), ← z1, ← z2, ← z3, ← z4, ← o4.1 48 (by omega), ← o4.1 49 (by omega), ← o4.1 50 (by omega), ← o4.1 51 (by omega)]
      simp [ms1, c]
theorem PA.off {P : Nat → Prop} {M M' : Mem} {t : List Ev} (h : PA M t) (ho : Off P M M') (hP : ∀ a, RP a → ¬ P a) : PA M' t := by
  have e : ∀ a, 47 ≤ a → a ≤ 51 → M'.1 a = M.1 a := fun a h1 h2 => ho.1 a (hP a ⟨h1, h2⟩)
  rw [PA, e 47 (by omega) (by omega), e 48 (by omega) (by omega), e 49 (by omega) (by omega), e 50 (by omega) (by omega), e 51 (by omega) (by omega)]
  exact h
/-- the steps in which a node is worked out -/
def evs (lv : Nd → Int32) (l : Fm) (i : Nat) : Nat → Nat → Int32 → List Ev
  | 0, _, _ => []
  | n + 1, k, p =>
    if (nd l k).1 = 2 then [(5, i, k, 4, 1)]
    else if ar (nd l k).1 = 0 then [(0, i, k, 1, 1)]
    else if ar (nd l k).1 = 1 then evs lv l i n (k + 1) p ++ [(1, i, k, 1, 0)]
    else
      let a := k + 1
      let b := k + 1 + (tr lv l (k + 1)).1
      let one := if (tr lv l a).2.1 < (tr lv l b).2.1 then b else a
      let two := if (tr lv l a).2.1 < (tr lv l b).2.1 then a else b
      evs lv l i n one p ++ ((if p ≤ nI (tr lv l two).2.1 then [(2, i, one, 4, -1)] ++ (evs lv l i n two p ++ [(3, i, one, 4, 1)]) else evs lv l i n two (p - 1)) ++ [(1, i, k, if (nd l k).1 = 6 then 3 else 1, -1)])
theorem evs_len {lv : Nd → Int32} {l : Fm} {i : Nat} (hw : wf l) : ∀ (n k : Nat) (p : Int32), k < l.length → (evs lv l i n k p).length + 1 ≤ 2 * (tr lv l k).1 := by
  intro n
  induction n with
  | zero =>
    intro k p hk
    have := (wf_size (lv := lv) hw hk).1
    rw [evs]
    simp
    omega
  | succ n ih =>
    intro k p hk
    have hs := (wf_size (lv := lv) hw hk).1
    rw [evs]
    split
    · simp; omega
    · split
      · simp; omega
      · rename_i h2 h0
        split
        · rename_i h1
          have := ih (k + 1) p (wf_1 hw hk h1)
          rw [tr_a1 hk h1]
          simp
          omega
        · rename_i h1
          have ha : ar (nd l k).1 = 2 := by have := ar_le (nd l k).1; omega
          obtain ⟨b1, b2⟩ := wf_2 (lv := lv) hw hk ha
          have i1 := fun p => ih (k + 1) p b1
          have i2 := fun p => ih (k + 1 + (tr lv l (k + 1)).1) p b2
          have e : (tr lv l k).1 = (tr lv l (k + 1)).1 + (tr lv l (k + 1 + (tr lv l (k + 1)).1)).1 + 1 := by rw [tr_a2 hk ha]
          have j1 := i1 p
          have j2 := i2 p
          have j3 := i1 (p - 1)
          have j4 := i2 (p - 1)
          dsimp only
          rw [e]
          split <;> split <;> simp <;> omega
