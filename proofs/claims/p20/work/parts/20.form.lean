/-! rows of nodes in the memory: what the methods of Form answer -/
abbrev Nd : Type := Int32 × Int32
abbrev Fm : Type := List Nd
theorem ixN {k : Nat} (h : k < 2 ^ 31) : ix (nI k) = k := nI_clamp h
theorem inbN {k n : Nat} (h : k < 2 ^ 31) : inb (nI k) n = decide (k < n) := by
  have h0 : decide (nI k < 0) = false := decide_eq_false (nI_pos h)
  rw [inb, h0, nI_clamp h]
  by_cases c : k < n
  · simp [c]
  · simp [c, Nat.le_of_not_lt c]
theorem inbT {k n : Nat} (h : k < n) (hn : n < 2 ^ 31) : inb (nI k) n = true := by rw [inbN (by omega)]; simp [h]
theorem gd_t {α : Type} {o : Option α} : gd true o = o := rfl
theorem gd_of {α : Type} {b : Bool} {o : Option α} (h : b = true) : gd b o = o := by rw [h]; rfl
theorem isB0 : isB 0 = true := by decide
theorem isB1 : isB 1 = true := by decide
theorem bd_s {α β : Type} {a : α} {M : Mem} {k : α → Mem → Option β} : bd (some (a, M)) k = k a M := rfl
theorem bm_e {α : Type} {M : Mem} {f : Mem → α} : bm M f = f M := rfl
theorem bi_e {α : Type} {x : Int32} {f : Int32 → α} : bi x f = f x := rfl
theorem bl_e {α : Type} {x : Int64} {f : Int64 → α} : bl x f = f x := rfl
theorem bn_e {α : Type} {x : Nat} {f : Nat → α} : bn x f = f x := rfl
theorem nonneg_nI {x : Int32} (h : ¬ x < 0) : ∃ k : Nat, x = nI k ∧ k < 2 ^ 31 := by
  refine ⟨x.toNatClampNeg, ?_, ?_⟩
  · apply Int32.toInt_inj.mp
    have hx : 0 ≤ x.toInt := by
      have := Int32.not_lt.mp h
      simpa using Int32.le_iff_toInt_le.mp this
    have hb := Int32.toInt_lt x
    have e : x.toNatClampNeg = x.toInt.toNat := rfl
    rw [e, nI_toInt (by omega)]
    omega
  · have hb := Int32.toInt_lt x
    have e : x.toNatClampNeg = x.toInt.toNat := rfl
    rw [e]
    omega
theorem ms1 {M : Mem} {a k : Nat} {v : Int32} {b j : Nat} : (mset M a k v).1 b j = if b = a then (if j = k then v else M.1 a j) else M.1 b j := by
  by_cases h : b = a
  · subst h
    simp [mset, upd]
  · simp [mset, h]
/-- only rows of a kind have changed -/
def Off (S : Nat → Prop) (M M' : Mem) : Prop := (∀ a, ¬ S a → M'.1 a = M.1 a) ∧ M'.2 = M.2
theorem Off.rf {S : Nat → Prop} {M : Mem} : Off S M M := ⟨fun _ _ => rfl, rfl⟩
theorem Off.tr {S : Nat → Prop} {M M1 M2 : Mem} (h : Off S M M1) (h2 : Off S M1 M2) : Off S M M2 := ⟨fun a ha => (h2.1 a ha).trans (h.1 a ha), h2.2.trans h.2⟩
theorem Off.mono {S S' : Nat → Prop} {M M1 : Mem} (h : Off S M M1) (hs : ∀ a, S a → S' a) : Off S' M M1 := ⟨fun a ha => h.1 a (fun q => ha (hs a q)), h.2⟩
theorem Off.set {S : Nat → Prop} {M : Mem} {a k : Nat} {v : Int32} (h : S a) : Off S M (mset M a k v) := ⟨fun b hb => mset_ne (fun q => hb (by rw [q]; exact h)), rfl⟩
abbrev F3 (f : Nat) : Nat → Prop := fun a => a = f ∨ a = f + 1 ∨ a = f + 2
def nd (l : Fm) (i : Nat) : Nd := l.getD i (0, 0)
theorem nd_lt {l r : Fm} {i : Nat} (h : i < l.length) : nd (l ++ r) i = nd l i := by simp [nd, List.getElem?_append_left h]
theorem nd_ge {l r : Fm} {i : Nat} (h : l.length ≤ i) : nd (l ++ r) i = nd r (i - l.length) := by simp [nd, List.getElem?_append_right h]
theorem nd_out {l : Fm} {i : Nat} (h : l.length ≤ i) : nd l i = (0, 0) := by simp [nd, List.getElem?_eq_none h]
theorem nd_0 {q : Nd} {l : Fm} : nd (q :: l) 0 = q := rfl
theorem nd_s {q : Nd} {l : Fm} {i : Nat} : nd (q :: l) (i + 1) = nd l i := rfl
theorem nd_drop {l : Fm} {i k : Nat} : nd (l.drop k) i = nd l (k + i) := by simp [nd]
theorem nd_take {l : Fm} {i k : Nat} (h : i < k) : nd (l.take k) i = nd l i := by simp [nd, List.getElem?_take, h]
theorem nd_ext {l r : Fm} (h1 : l.length = r.length) (h2 : ∀ i, i < l.length → nd l i = nd r i) : l = r := by
  apply List.ext_getElem h1
  intro i a b
  have := h2 i a
  simpa [nd, a, b] using this
/-- the form at f holds the nodes l -/
def FA (M : Mem) (f : Nat) (l : Fm) : Prop := M.1 f 2 = nI l.length ∧ l.length ≤ ln (f + 1) ∧ ∀ i, i < l.length → (M.1 (f + 1) i, M.1 (f + 2) i) = nd l i
theorem fln {f : Nat} (h : (sh f).1 = 1) : ln (f + 2) = ln (f + 1) ∧ ln (f + 1) ≤ 60 := by
  obtain ⟨-, -, -, -, h1, h2⟩ := tFd f (lt_of_sh h (by omega)) h
  exact ⟨h1.symm, by omega⟩
theorem FA.kept {M M' : Mem} {f : Nat} {l : Fm} (h : FA M f l) (h0 : M'.1 f = M.1 f) (h1 : M'.1 (f + 1) = M.1 (f + 1)) (h2 : M'.1 (f + 2) = M.1 (f + 2)) : FA M' f l := by
  obtain ⟨a, b, c⟩ := h
  exact ⟨by rw [h0]; exact a, b, fun i hi => by rw [h1, h2]; exact c i hi⟩
theorem FA.off {S : Nat → Prop} {M M' : Mem} {f : Nat} {l : Fm} (h : FA M f l) (ho : Off S M M') (hs : ∀ a, F3 f a → ¬ S a) : FA M' f l :=
  h.kept (ho.1 _ (hs _ (Or.inl rfl))) (ho.1 _ (hs _ (Or.inr (Or.inl rfl)))) (ho.1 _ (hs _ (Or.inr (Or.inr rfl))))
theorem has_ok {M : Mem} {f k : Nat} {l : Fm} (hf : (sh f).1 = 1) (h : FA M f l) (hk : k < 2 ^ 31) : f_Form_has f (nI k) M = some (if k < l.length then 1 else 0, M) := by
  obtain ⟨h1, h2, -⟩ := h
  obtain ⟨e2, e3⟩ := fln hf
  simp only [f_Form_has, h1, e2, isB0, isB1, gd_t]
  rw [if_neg (nI_pos hk)]
  by_cases c : k < l.length
  · rw [if_neg (nI_ge c (by omega)), if_neg (nI_ge (by omega) (by omega)), if_neg (nI_ge (by omega) (by omega)), if_pos c]
  · rw [if_pos (nI_le (by omega) hk), if_neg c]
theorem has_neg {M : Mem} {f : Nat} {x : Int32} (hx : x < 0) : f_Form_has f x M = some (0, M) := by
  simp only [f_Form_has, if_pos hx, isB0, gd_t]
theorem kindOf_ok {M : Mem} {f k : Nat} {l : Fm} (hf : (sh f).1 = 1) (h : FA M f l) (hk : k < 2 ^ 31) : f_Form_kindOf f (nI k) M = some ((nd l k).1, M) := by
  obtain ⟨e2, e3⟩ := fln hf
  rw [f_Form_kindOf, has_ok hf h hk, bd_s]
  by_cases c : k < l.length
  · rw [if_pos c, if_neg (by decide), gd_of (inbT (Nat.lt_of_lt_of_le c h.2.1) (by omega)), ixN hk, ← h.2.2 k c]
  · rw [if_neg c, if_pos rfl, nd_out (by omega)]
theorem contentOf_ok {M : Mem} {f k : Nat} {l : Fm} (hf : (sh f).1 = 1) (h : FA M f l) (hk : k < 2 ^ 31) : f_Form_contentOf f (nI k) M = some ((nd l k).2, M) := by
  obtain ⟨e2, e3⟩ := fln hf
  rw [f_Form_contentOf, has_ok hf h hk, bd_s]
  by_cases c : k < l.length
  · rw [if_pos c, if_neg (by decide), gd_of (inbT (Nat.lt_of_lt_of_le c (by rw [e2]; exact h.2.1)) (by omega)), ixN hk, ← h.2.2 k c]
  · rw [if_neg c, if_pos rfl, nd_out (by omega)]
theorem isFull_ok {M : Mem} {f : Nat} {l : Fm} (hf : (sh f).1 = 1) (h : FA M f l) : f_Form_isFull f M = some (if l.length < ln (f + 1) then 0 else 1, M) := by
  obtain ⟨h1, h2, -⟩ := h
  obtain ⟨e2, e3⟩ := fln hf
  simp only [f_Form_isFull, h1, e2, isB0, isB1, gd_t]
  by_cases c : l.length < ln (f + 1)
  · rw [if_neg (nI_ge c (by omega)), if_pos (nI_lt c (by omega)), if_pos c]
  · rw [if_pos (nI_le (by omega) (by omega)), if_neg c]
theorem add_full {M : Mem} {f : Nat} {l : Fm} {a b : Int32} (hf : (sh f).1 = 1) (h : FA M f l) (hl : ¬ l.length < ln (f + 1)) : f_Form_add f a b M = some (0, M) := by
  rw [f_Form_add, isFull_ok hf h, bd_s, if_neg hl, if_neg (by decide), isB0, gd_t]
theorem add_ok {M : Mem} {f : Nat} {l : Fm} {a b : Int32} (hf : (sh f).1 = 1) (h : FA M f l) (hl : l.length < ln (f + 1)) : ∃ M', f_Form_add f a b M = some (1, M') ∧ FA M' f (l ++ [(a, b)]) ∧ Off (F3 f) M M' := by
  obtain ⟨e2, e3⟩ := fln hf
  rw [f_Form_add, isFull_ok hf h, bd_s, if_pos hl, if_pos rfl]
  obtain ⟨h1, h2, h3⟩ := h
  have hix : ix (nI l.length) = l.length := ixN (by omega)
  simp only [bm_e, ms1, h1, hix, show f ≠ f + 1 by omega, show f ≠ f + 2 by omega, if_false]
  rw [gd_of (inbT hl (by omega)), gd_of (inbT (by rw [e2]; exact hl) (by omega)), isB1, gd_t]
  refine ⟨_, rfl, ⟨?_, ?_, ?_⟩, ?_⟩
  · simp [ms1, nI_1]
  · simp; omega
  · intro i hi
    simp only [ms1, show f + 1 ≠ f by omega, show f + 2 ≠ f by omega, show f + 1 ≠ f + 2 by omega, show f + 2 ≠ f + 1 by omega, if_false, if_true]
    by_cases c : i < l.length
    · rw [nd_lt c, if_neg (by omega), if_neg (by omega), h3 i c]
    · have hi2 : i = l.length := by
        simp at hi
        omega
      rw [nd_ge (by omega), if_pos hi2, if_pos hi2, hi2, Nat.sub_self]
      rfl
  · exact ((Off.set (Or.inr (Or.inl rfl))).tr (Off.set (Or.inr (Or.inr rfl)))).tr (Off.set (Or.inl rfl))
