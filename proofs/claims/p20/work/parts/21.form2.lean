/-! Form: copying, looking, inserting, the end of a part -/
theorem FU_e : FU = 4096 := rfl
theorem tk_s {l : Fm} {j : Nat} (h : j < l.length) : l.take (j + 1) = l.take j ++ [nd l j] := by
  rw [List.take_succ]
  congr 1
  simp [nd, h]
theorem nI_s (j : Nat) : nI j + 1 = nI (j + 1) := nI_1 j
theorem nI_p (j : Nat) : nI (j + 1) + (-1) = nI j := by rw [← nI_pred j]; grind
theorem nI_m1 (j : Nat) : nI (j + 1) - 1 = nI j := nI_pred j
theorem nI_sb {a b : Nat} (h : b ≤ a) : nI a - nI b = nI (a - b) := by
  have e : nI (a - b) + nI b = nI a := by rw [nI_add, Nat.sub_add_cancel h]
  rw [← e]; grind
theorem addAll_loop {f g : Nat} {l l' : Fm} (hf : (sh f).1 = 1) (hg : (sh g).1 = 1) (hd : ∀ a, F3 g a → ¬ F3 f a) (hl : l.length + l'.length ≤ ln (f + 1)) : ∀ (n j : Nat) (M : Mem), j ≤ l'.length → l'.length - j < n → FA M g l' → FA M f (l ++ l'.take j) →
    ∃ M', f_Form_addAll_b7 n f g (nI l'.length) (nI j) M = some ((), M') ∧ FA M' f (l ++ l') ∧ Off (F3 f) M M' := by
  have h60 := fln hf
  intro n
  induction n with
  | zero => intro j M _ h; omega
  | succ n ih =>
    intro j M hj hn hG hF
    rw [f_Form_addAll_b7]
    by_cases c : j = l'.length
    · subst c
      rw [if_pos (nI_le (Nat.le_refl _) (by omega))]
      rw [List.take_length] at hF
      exact ⟨M, rfl, hF, Off.rf⟩
    · rw [if_neg (nI_ge (by omega) (by omega)), kindOf_ok hg hG (by omega), bd_s, contentOf_ok hg hG (by omega), bd_s]
      obtain ⟨M1, e1, hF1, ho1⟩ := add_ok (a := (nd l' j).1) (b := (nd l' j).2) hf hF (by simp; omega)
      rw [e1, bd_s, bi_e, nI_s]
      obtain ⟨M2, e2, hF2, ho2⟩ := ih (j + 1) M1 (by omega) (by omega) (hG.off ho1 hd) (by rw [tk_s (by omega), ← List.append_assoc]; exact hF1)
      exact ⟨M2, e2, hF2, ho1.tr ho2⟩
theorem addAll_ok {M : Mem} {f g : Nat} {l l' : Fm} (hf : (sh f).1 = 1) (hg : (sh g).1 = 1) (hd : ∀ a, F3 g a → ¬ F3 f a) (hl : l.length + l'.length ≤ ln (f + 1)) (hF : FA M f l) (hG : FA M g l') : ∃ M', f_Form_addAll f g M = some ((), M') ∧ FA M' f (l ++ l') ∧ Off (F3 f) M M' := by
  have h60 := fln hf
  rw [f_Form_addAll, bi_e, hG.1]
  exact addAll_loop hf hg hd hl FU 0 M (by omega) (by rw [FU_e]; omega) hG (by rw [List.take_zero, List.append_nil]; exact hF)
theorem FA.nil {M : Mem} {f : Nat} : FA (mset M f 2 0) f [] := ⟨by simp [ms1, nI_0], Nat.zero_le _, fun i hi => absurd hi (Nat.not_lt_zero _)⟩
theorem copy_ok {M : Mem} {f g : Nat} {l' : Fm} (hf : (sh f).1 = 1) (hg : (sh g).1 = 1) (hd : ∀ a, F3 g a → ¬ F3 f a) (hl : l'.length ≤ ln (f + 1)) (hG : FA M g l') : ∃ M', f_Form_copy f g M = some ((), M') ∧ FA M' f l' ∧ Off (F3 f) M M' := by
  rw [f_Form_copy, bm_e]
  have ho : Off (F3 f) M (mset M f 2 0) := Off.set (Or.inl rfl)
  obtain ⟨M1, e1, h1, o1⟩ := addAll_ok hf hg hd (l := []) (by simpa using hl) (FA.nil (M := M)) (hG.off ho hd)
  rw [e1, bd_s]
  exact ⟨M1, rfl, h1, ho.tr o1⟩
theorem any_drop {l : Fm} {j : Nat} {p : Nd → Bool} (h : j < l.length) : (l.drop j).any p = (p (nd l j) || (l.drop (j + 1)).any p) := by
  rw [List.drop_eq_getElem_cons h, List.any_cons]
  congr 2
  simp [nd, h]
theorem hasKind_loop {f : Nat} {l : Fm} {k : Int32} {M : Mem} (hf : (sh f).1 = 1) (hF : FA M f l) : ∀ (n j : Nat), j ≤ l.length → l.length - j < n →
    f_Form_hasKind_b2 n f k (nI j) M = some (if (l.drop j).any (fun q => q.1 == k) = true then 1 else 0, M) := by
  have h60 := fln hf
  have hl := hF.2.1
  intro n
  induction n with
  | zero => intro j _ h; omega
  | succ n ih =>
    intro j hj hn
    rw [f_Form_hasKind_b2, hF.1]
    by_cases c : j = l.length
    · subst c
      rw [if_pos (nI_le (Nat.le_refl _) (by omega)), List.drop_length, isB0, gd_t]
      rfl
    · rw [if_neg (nI_ge (by omega) (by omega)), kindOf_ok hf hF (by omega), bd_s, any_drop (by omega)]
      by_cases c2 : (nd l j).1 = k
      · rw [if_pos c2, isB1, gd_t]
        simp [c2]
      · rw [if_neg c2, bi_e, nI_s, ih (j + 1) (by omega) (by omega)]
        have e : ((nd l j).1 == k) = false := by simp [c2]
        simp only [e, Bool.false_or]
theorem hasKind_ok {f : Nat} {l : Fm} {k : Int32} {M : Mem} (hf : (sh f).1 = 1) (hF : FA M f l) : f_Form_hasKind f k M = some (if l.any (fun q => q.1 == k) = true then 1 else 0, M) := by
  have h60 := fln hf
  have hl := hF.2.1
  rw [f_Form_hasKind]
  exact hasKind_loop hf hF FU 0 (by omega) (by rw [FU_e]; omega)
/-- how many parts a node has -/
def ar (k : Int32) : Nat := if 3 ≤ k then (if k = 3 then 1 else 2) else 0
theorem partsOf_ok {k : Int32} {M : Mem} : f_LP_partsOf k M = some (nI (ar k), M) := by
  rw [f_LP_partsOf, ar]
  by_cases c : 3 ≤ k
  · rw [if_pos c, if_pos c]
    by_cases c2 : k = 3
    · rw [if_pos c2, if_pos c2]; rfl
    · rw [if_neg c2, if_neg c2]; rfl
  · rw [if_neg c, if_neg c]; rfl
theorem ar_le (k : Int32) : ar k ≤ 2 := by
  rw [ar]
  split
  · split <;> omega
  · omega
/-- what stands behind the first m trees -/
def skp : Fm → Nat → Option Fm
  | [], 0 => some []
  | [], _ + 1 => none
  | q :: l, 0 => some (q :: l)
  | q :: l, m + 1 => skp l (m + ar q.1)
theorem skp_0 {l : Fm} : skp l 0 = some l := by cases l <;> rfl
theorem skp_drop {l : Fm} {k m : Nat} (h : k < l.length) : skp (l.drop k) (m + 1) = skp (l.drop (k + 1)) (m + ar (nd l k).1) := by
  rw [List.drop_eq_getElem_cons h, skp]
  simp [nd, h]
theorem skp_len : ∀ {l r : Fm} {m : Nat}, skp l m = some r → r.length + m ≤ l.length ∧ l.drop (l.length - r.length) = r
  | [], r, 0, h => by cases h; simp
  | [], r, m + 1, h => by cases h
  | q :: l, r, 0, h => by cases h; simp
  | q :: l, r, m + 1, h => by
    obtain ⟨h1, h2⟩ := skp_len (l := l) (r := r) (m := m + ar q.1) h
    refine ⟨by simp; omega, ?_⟩
    have e : (q :: l).length - r.length = (l.length - r.length) + 1 := by simp; omega
    rw [e, List.drop_succ_cons, h2]
theorem skp_add : ∀ {l r : Fm} {a b : Nat}, skp l (a + b) = some r → ∃ r1, skp l a = some r1 ∧ skp r1 b = some r
  | l, r, 0, b, h => ⟨l, skp_0, by rwa [Nat.zero_add] at h⟩
  | [], r, a + 1, b, h => by rw [Nat.succ_add] at h; cases h
  | q :: l, r, a + 1, b, h => by
    have h' : skp l (a + b + ar q.1) = some r := by rw [Nat.succ_add] at h; exact h
    obtain ⟨r1, h1, h2⟩ := skp_add (l := l) (r := r) (a := a + ar q.1) (b := b) (by rw [← h']; congr 1; omega)
    exact ⟨r1, h1, h2⟩
theorem nI_bhd (m a : Nat) : nI (m + 1) + (nI a - 1) = nI (m + a) := by
  rw [nI_succ, ← nI_add]; grind
theorem behind_loop {f : Nat} {l : Fm} {M : Mem} {rest : Fm} (hf : (sh f).1 = 1) (hF : FA M f l) : ∀ (n k m : Nat), k ≤ l.length → l.length - k < n → m ≤ 1000 - l.length + k + 1 → skp (l.drop k) m = some rest →
    f_Form_behind_b8 n f (nI k) (nI m) M = some (nI (l.length - rest.length), M) := by
  have h60 := fln hf
  have hl := hF.2.1
  intro n
  induction n with
  | zero => intro k m _ h; omega
  | succ n ih =>
    intro k m hk hn hm hs
    rw [f_Form_behind_b8, hF.1]
    cases m with
    | zero =>
      rw [if_pos (by rw [nI_0]; exact Int32.le_refl 0)]
      rw [skp_0] at hs
      cases hs
      rw [List.length_drop]
      congr 3
      omega
    | succ m =>
      have hsl := (skp_len hs).1
      rw [List.length_drop] at hsl
      rw [if_neg (nI_nle (by omega) (by omega)), if_neg (nI_ge (by omega) (by omega)), kindOf_ok hf hF (by omega), bd_s, partsOf_ok, bd_s, bi_e, bi_e, nI_bhd, nI_s]
      have ha := ar_le (nd l k).1
      rw [skp_drop (by omega)] at hs
      exact ih (k + 1) (m + ar (nd l k).1) (by omega) (by omega) (by omega) hs
theorem mx_0 {k : Nat} (hk : k < 2 ^ 31) : mxI 0 (nI k) = nI k := by
  rw [mxI]
  cases k with
  | zero => rw [nI_0]; rfl
  | succ k => rw [if_pos (by rw [← nI_0]; exact nI_lt (by omega) hk)]
theorem behind_ok {f k : Nat} {l : Fm} {M : Mem} {rest : Fm} (hf : (sh f).1 = 1) (hF : FA M f l) (hk : k ≤ l.length) (hs : skp (l.drop k) 1 = some rest) : f_Form_behind f (nI k) M = some (nI (l.length - rest.length), M) := by
  have h60 := fln hf
  have hl := hF.2.1
  rw [f_Form_behind, bi_e, mx_0 (by omega)]
  exact behind_loop hf hF FU k 1 hk (by rw [FU_e]; omega) (by omega) hs
theorem mc1 {M : Mem} {a0 sp a1 dp n b j : Nat} : (mcpy M a0 sp a1 dp n).1 b j = if b = a1 then (if dp ≤ j ∧ j < dp + n then M.1 a0 (sp + (j - dp)) else M.1 a1 j) else M.1 b j := by
  by_cases h : b = a1
  · subst h
    simp [mcpy, va_cpy]
  · simp [mcpy, h]
theorem Off.cpy {S : Nat → Prop} {M : Mem} {a0 sp a1 dp n : Nat} (h : S a1) : Off S M (mcpy M a0 sp a1 dp n) := ⟨fun b hb => if_neg (fun q => hb (by rw [q]; exact h)), rfl⟩
theorem insert_full {M : Mem} {f : Nat} {l : Fm} {x a b : Int32} (hf : (sh f).1 = 1) (h : FA M f l) (hl : ¬ l.length < ln (f + 1)) : f_Form_insert f x a b M = some (0, M) := by
  rw [f_Form_insert, isFull_ok hf h, bd_s, if_neg hl, if_neg (by decide), isB0, gd_t]
theorem insert_ok {M : Mem} {f k : Nat} {l : Fm} {a b : Int32} (hf : (sh f).1 = 1) (h : FA M f l) (hl : l.length < ln (f + 1)) (hk : k ≤ l.length) : ∃ M', f_Form_insert f (nI k) a b M = some (1, M') ∧ FA M' f (l.take k ++ (a, b) :: l.drop k) ∧ Off (F3 f) M M' := by
  obtain ⟨e2, e3⟩ := fln hf
  rw [f_Form_insert, isFull_ok hf h, bd_s, if_pos hl, if_pos rfl]
  obtain ⟨h1, h2, h3⟩ := h
  rw [if_neg (nI_pos (by omega)), h1, if_pos (nI_le hk (by omega))]
  have g1 : ∀ n, n = ln (f + 1) → (!(decide (nI k < 0)) && !(decide ((nI k + 1) < 0)) && !(decide ((nI l.length - nI k) < 0)) && decide (ix (nI k) + ix (nI l.length - nI k) ≤ n) && decide (ix (nI k + 1) + ix (nI l.length - nI k) ≤ n)) = true := by
    intro n hn
    rw [nI_s, nI_sb hk, ixN (by omega), ixN (by omega), ixN (by omega)]
    simp only [Bool.and_eq_true, Bool.not_eq_true', decide_eq_false_iff_not, decide_eq_true_eq]
    exact ⟨⟨⟨⟨nI_pos (by omega), nI_pos (by omega)⟩, nI_pos (by omega)⟩, by omega⟩, by omega⟩
  have hff : f ≠ f + 1 := by omega
  have hff2 : f ≠ f + 2 := by omega
  rw [gd_of (g1 _ rfl), bm_e]
  simp only [mc1, if_neg hff, h1]
  rw [gd_of (g1 _ e2), bm_e, gd_of (inbT (Nat.lt_of_le_of_lt hk hl) (by omega)), bm_e, gd_of (inbT (by rw [e2]; exact Nat.lt_of_le_of_lt hk hl) (by omega)), bm_e, bm_e, isB1, gd_t]
  rw [nI_s, nI_sb hk, ixN (by omega), ixN (by omega), ixN (by omega)]
  refine ⟨_, rfl, ⟨?_, ?_, ?_⟩, ?_⟩
  · simp only [ms1, mc1, if_neg hff, if_neg hff2, h1, if_true, nI_s]
    congr 1
    simp; omega
  · simp; omega
  · intro i hi
    have hlen : (l.take k ++ (a, b) :: l.drop k).length = l.length + 1 := by simp; omega
    rw [hlen] at hi
    simp only [ms1, mc1, show f + 1 ≠ f by omega, show f + 2 ≠ f by omega, show f + 1 ≠ f + 2 by omega, show f + 2 ≠ f + 1 by omega, if_false, if_true]
    rcases Nat.lt_trichotomy i k with c | c | c
    · rw [nd_lt (by simp; omega), nd_take c, if_neg (by omega), if_neg (by omega), if_neg (by omega), if_neg (by omega), h3 i (by omega)]
    · subst c
      rw [nd_ge (by simp; omega), if_pos rfl, if_pos rfl]
      have e0 : i - (l.take i).length = 0 := by simp; omega
      rw [e0, nd_0]
    · rw [nd_ge (by simp; omega)]
      have e0 : i - (l.take k).length = (i - k - 1) + 1 := by simp; omega
      have c1 : ¬ i = k := by omega
      have c2 : k + 1 ≤ i ∧ i < k + 1 + (l.length - k) := by omega
      rw [e0, nd_s, nd_drop]
      simp only [if_neg c1, if_pos c2]
      rw [h3 _ (by omega)]
      congr 1
  · exact ((((Off.cpy (Or.inr (Or.inl rfl))).tr (Off.cpy (Or.inr (Or.inr rfl)))).tr (Off.set (Or.inr (Or.inl rfl)))).tr (Off.set (Or.inr (Or.inr rfl)))).tr (Off.set (Or.inl rfl))
