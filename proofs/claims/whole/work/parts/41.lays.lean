/-! the reference lays all expanded forms -/
theorem w90 (i k : Nat) : (90 : Int32) * nI i + nI k = nI (90 * i + k) := by rw [show (90 : Int32) = nI 90 from rfl, nI_mul, nI_add]
theorem w90' (i : Nat) : (90 : Int32) * nI i = nI (90 * i) := by rw [show (90 : Int32) = nI 90 from rfl, nI_mul]
theorem w60 (i k : Nat) : (16 : Int32) + 60 * nI i + 2 * nI k = nI (16 + 60 * i + 2 * k) := by rw [show (16 : Int32) = nI 16 from rfl, show (60 : Int32) = nI 60 from rfl, show (2 : Int32) = nI 2 from rfl, nI_mul, nI_mul, nI_add, nI_add]
theorem w10 (i : Nat) : (10 : Int32) + nI i = nI (10 + i) := by rw [show (10 : Int32) = nI 10 from rfl, nI_add]
/-- only the rows of the formula i are written -/
def FrI (i : Nat) (M M' : Mem) : Prop := (∀ a, ¬ (216 ≤ a ∧ a ≤ 223) → M'.1 a = M.1 a) ∧ M'.2 = M.2 ∧ (∀ a, 216 ≤ a → a ≤ 221 → ∀ z, ¬ (90 * i ≤ z ∧ z < 90 * i + 90) → M'.1 a z = M.1 a z) ∧ ∀ a, (a = 222 ∨ a = 223) → ∀ z, z ≠ i → M'.1 a z = M.1 a z
theorem FrI.rf {i : Nat} {M : Mem} : FrI i M M := ⟨fun _ _ => rfl, rfl, fun _ _ _ _ _ => rfl, fun _ _ _ _ => rfl⟩
theorem FrI.tr {i : Nat} {M M1 M2 : Mem} (h : FrI i M M1) (h2 : FrI i M1 M2) : FrI i M M2 :=
  ⟨fun a ha => (h2.1 a ha).trans (h.1 a ha), h2.2.1.trans h.2.1, fun a h3 h4 z hz => (h2.2.2.1 a h3 h4 z hz).trans (h.2.2.1 a h3 h4 z hz), fun a ha z hz => (h2.2.2.2 a ha z hz).trans (h.2.2.2 a ha z hz)⟩
theorem FrI.set {i a k : Nat} {M : Mem} {v : Int32} (h1 : 216 ≤ a) (h2 : a ≤ 223) (h3 : a ≤ 221 → 90 * i ≤ k ∧ k < 90 * i + 90) (h4 : 222 ≤ a → k = i) : FrI i M (mset M a k v) := by
  refine ⟨fun b hb => mset_ne (by omega), rfl, fun b b1 b2 z hz => ?_, fun b hb z hz => ?_⟩
  · by_cases c : b = a
    · subst c
      have := h3 b2
      rw [ms1, if_pos rfl, if_neg (by omega)]
    · rw [mset_ne c]
  · by_cases c : b = a
    · subst c
      have := h4 (by omega)
      rw [ms1, if_pos rfl, if_neg (by omega)]
    · rw [mset_ne c]
/-- kinds and numbers of a formula's expanded form -/
def KA (M : Mem) (i : Nat) (l : Fm) : Prop := M.1 222 i = nI l.length ∧ ∀ k, k < l.length → M.1 216 (90 * i + k) = (nd l k).1 ∧ (ar (nd l k).1 = 0 → M.1 217 (90 * i + k) = (nd l k).2)
/-- what is told of its nodes from j on -/
def TR (M : Mem) (i : Nat) (lv : Nd → Int32) (l : Fm) (j : Nat) : Prop := ∀ k, j ≤ k → k < l.length → M.1 218 (90 * i + k) = nI (tr lv l k).1 ∧ M.1 219 (90 * i + k) = nI (tr lv l k).2.1 ∧ M.1 220 (90 * i + k) = nI (tr lv l k).2.2.1 ∧ M.1 221 (90 * i + k) = (tr lv l k).2.2.2
def XAi (M : Mem) (st : St) (i : Nat) : Prop := KA M i (XX st i).1 ∧ M.1 223 i = (if (XX st i).2.1 = true then 1 else 0) ∧ TR M i (lvS st i) (XX st i).1 0
def XAA (M : Mem) (st : St) : Prop := ∀ i, i < st.1.length → XAi M st i
theorem KA.fr {M M' : Mem} {i j : Nat} {l : Fm} (h : KA M i l) (hl : l.length ≤ 60) (hne : i ≠ j) (ho : FrI j M M') : KA M' i l := by
  refine ⟨by rw [ho.2.2.2 222 (Or.inl rfl) i hne]; exact h.1, fun k hk => ⟨?_, fun ha => ?_⟩⟩
  · rw [ho.2.2.1 216 (by omega) (by omega) _ (by omega)]; exact (h.2 k hk).1
  · rw [ho.2.2.1 217 (by omega) (by omega) _ (by omega)]; exact (h.2 k hk).2 ha
theorem XAi.fr {M M' : Mem} {i j : Nat} {st : St} (h : XAi M st i) (hl : (XX st i).1.length ≤ 60) (hne : i ≠ j) (ho : FrI j M M') : XAi M' st i := by
  obtain ⟨h1, h2, h3⟩ := h
  refine ⟨h1.fr hl hne ho, by rw [ho.2.2.2 223 (Or.inr rfl) i hne]; exact h2, fun k k1 k2 => ?_⟩
  rw [ho.2.2.1 218 (by omega) (by omega) _ (by omega), ho.2.2.1 219 (by omega) (by omega) _ (by omega), ho.2.2.1 220 (by omega) (by omega) _ (by omega), ho.2.2.1 221 (by omega) (by omega) _ (by omega)]
  exact h3 k k1 k2
theorem copies_ok {M : Mem} {i : Nat} {l : Fm} {a b : Int32} {q : Nd} (hi : i < 6) (hl : l.length < 60) (h : KA M i l) (ha : a = q.1) (hb : ar q.1 = 0 → b = q.2) : ∃ M', f_Md_copies (nI i) a b M = some ((), M') ∧ KA M' i (l ++ [q]) ∧ FrI i M M' ∧ M'.1 223 = M.1 223 := by
  have g6 : inb (nI i) 6 = true := inbT hi (by omega)
  have g540 : inb (nI (90 * i + l.length)) 540 = true := inbT (by omega) (by omega)

  rw [f_Md_copies, gd_of g6, ixN (by omega), h.1, w90, gd_of g540, bm_e, gd_of g6, ixN (by omega)]
  rw [mset_ne (show (222 : Nat) ≠ 216 by omega), h.1, w90, gd_of g540, bm_e, gd_of g6, gd_of g6, bm_e, ixN (by omega), mset_ne (show (222 : Nat) ≠ 217 by omega), mset_ne (show (222 : Nat) ≠ 216 by omega), h.1, nI_s]
  refine ⟨_, rfl, ⟨by simp [ms1], fun k hk => ?_⟩, ((FrI.set (by omega) (by omega) (fun _ => by omega) (fun z => by omega)).tr (FrI.set (by omega) (by omega) (fun _ => by omega) (fun z => by omega))).tr (FrI.set (by omega) (by omega) (fun z => by omega) (fun _ => rfl)), by rw [mset_ne (by omega), mset_ne (by omega), mset_ne (by omega)]⟩
  rw [List.length_append, List.length_cons, List.length_nil] at hk
  simp only [ms1, if_true, show ¬ (216 : Nat) = 222 by omega, show ¬ (216 : Nat) = 217 by omega, show ¬ (217 : Nat) = 222 by omega, show ¬ (217 : Nat) = 216 by omega, if_false]
  by_cases c : k = l.length
  · subst c
    rw [if_pos rfl, if_pos rfl, nd_ge (Nat.le_refl _), Nat.sub_self, nd_0]
    exact ⟨ha, hb⟩
  · rw [if_neg (by omega), if_neg (by omega), nd_lt (by omega)]
    exact h.2 k (by omega)
