/-! Form: both parts of a node exchanged -/
/-- a stretch turned around, by its places -/
def tu (lo hi i : Nat) : Nat := if lo ≤ i ∧ i < hi then lo + hi - 1 - i else i
def RV (l l' : Fm) (lo hi : Nat) : Prop := l'.length = l.length ∧ ∀ i, i < l.length → nd l' i = nd l (tu lo hi i)
def lsw (l : Fm) (i j : Nat) : Fm := (l.set i (nd l j)).set j (nd l i)
theorem lsw_len {l : Fm} {i j : Nat} : (lsw l i j).length = l.length := by simp [lsw]
theorem nd_set {l : Fm} {i j : Nat} {q : Nd} (h : i < l.length) : nd (l.set i q) j = if j = i then q else nd l j := by
  by_cases c : j = i
  · subst c
    simp [nd, h]
  · rw [if_neg c]
    simp [nd, List.getElem?_set_ne (Ne.symm c)]
theorem nd_lsw {l : Fm} {i j k : Nat} (hi : i < l.length) (hj : j < l.length) : nd (lsw l i j) k = if k = j then nd l i else if k = i then nd l j else nd l k := by
  rw [lsw, nd_set (by simpa using hj), nd_set hi]
theorem turn_loop {f : Nat} (hf : (sh f).1 = 1) : ∀ (n i j : Nat) (l : Fm) (M : Mem), j < l.length → i ≤ j + 1 → j + 1 - i < n → FA M f l →
    ∃ M' l', f_Form_turnAround_b5 n f (nI i) (nI j) M = some ((), M') ∧ FA M' f l' ∧ RV l l' i (j + 1) ∧ Off (F3 f) M M' := by
  obtain ⟨e2, e3⟩ := fln hf
  intro n
  induction n with
  | zero => intro i j l M _ _ h; omega
  | succ n ih =>
    intro i j l M hj hij hn hF
    have hl := hF.2.1
    rw [f_Form_turnAround_b5]
    by_cases c : j ≤ i
    · rw [if_pos (nI_le c (by omega))]
      refine ⟨M, l, rfl, hF, ⟨rfl, fun k _ => ?_⟩, Off.rf⟩
      rw [tu]
      split
      · congr 1; omega
      · rfl
    · have hi : i < l.length := by omega
      rw [if_neg (nI_ge (by omega) (by omega)), has_ok hf hF (by omega), bd_s, if_pos hi, if_neg (by decide), has_ok hf hF (by omega), bd_s, if_pos hj, if_neg (by decide)]
      have gi : inb (nI i) (ln (f + 1)) = true := inbT (by omega) (by omega)
      have gj : inb (nI j) (ln (f + 1)) = true := inbT (by omega) (by omega)
      simp only [e2, gi, gj, gd_t, bi_e, bm_e]
      rw [ixN (by omega), ixN (by omega), nI_s]
      obtain ⟨j', rfl⟩ : ∃ j', j = j' + 1 := ⟨j - 1, by omega⟩
      rw [nI_p]
      obtain ⟨h1, h2, h3⟩ := hF
      generalize hM : mset (mset (mset (mset M (f + 1) i (M.1 (f + 1) (j' + 1))) (f + 1) (j' + 1) (M.1 (f + 1) i)) (f + 2) i ((mset (mset M (f + 1) i (M.1 (f + 1) (j' + 1))) (f + 1) (j' + 1) (M.1 (f + 1) i)).1 (f + 2) (j' + 1))) (f + 2) (j' + 1) ((mset (mset M (f + 1) i (M.1 (f + 1) (j' + 1))) (f + 1) (j' + 1) (M.1 (f + 1) i)).1 (f + 2) i) = M1
      have hF1 : FA M1 f (lsw l i (j' + 1)) := by
        subst hM
        refine ⟨?_, by rw [lsw_len]; exact h2, fun k hk => ?_⟩
        · simp only [ms1, show f ≠ f + 1 by omega, show f ≠ f + 2 by omega, if_false, h1, lsw_len]
        · rw [lsw_len] at hk
          rw [nd_lsw hi hj]
          simp only [ms1, show f + 1 ≠ f + 2 by omega, show f + 2 ≠ f + 1 by omega, if_false, if_true]
          by_cases k1 : k = j' + 1
          · subst k1
            simp only [if_true]
            exact h3 i hi
          · simp only [if_neg k1]
            by_cases k2 : k = i
            · simp only [if_pos k2]
              exact h3 (j' + 1) hj
            · simp only [if_neg k2]
              exact h3 k hk
      have ho1 : Off (F3 f) M M1 := by
        subst hM
        exact (((Off.set (Or.inr (Or.inl rfl))).tr (Off.set (Or.inr (Or.inl rfl)))).tr (Off.set (Or.inr (Or.inr rfl)))).tr (Off.set (Or.inr (Or.inr rfl)))
      obtain ⟨M2, l2, r1, r2, r3, r4⟩ := ih (i + 1) j' (lsw l i (j' + 1)) M1 (by rw [lsw_len]; omega) (by omega) (by omega) hF1
      refine ⟨M2, l2, r1, r2, ⟨by rw [r3.1, lsw_len], fun k hk => ?_⟩, ho1.tr r4⟩
      rw [r3.2 k (by rw [lsw_len]; exact hk), nd_lsw hi hj]
      by_cases k1 : k = i
      · subst k1
        have t1 : tu (k + 1) (j' + 1) k = k := by rw [tu, if_neg (by omega)]
        have t2 : tu k (j' + 1 + 1) k = j' + 1 := by rw [tu, if_pos (by omega)]; omega
        rw [t1, t2, if_neg (by omega), if_pos rfl]
      · by_cases k2 : k = j' + 1
        · subst k2
          have t1 : tu (i + 1) (j' + 1) (j' + 1) = j' + 1 := by rw [tu, if_neg (by omega)]
          have t2 : tu i (j' + 1 + 1) (j' + 1) = i := by rw [tu, if_pos (by omega)]; omega
          rw [t1, t2, if_pos rfl]
        · have t3 : tu (i + 1) (j' + 1) k = tu i (j' + 1 + 1) k := by
            rw [tu, tu]
            split
            · rw [if_pos (by omega)]; omega
            · rw [if_neg (by omega)]
          have t4 : tu (i + 1) (j' + 1) k ≠ j' + 1 := by rw [tu]; split <;> omega
          have t5 : tu (i + 1) (j' + 1) k ≠ i := by rw [tu]; split <;> omega
          rw [if_neg t4, if_neg t5, t3]
/-- both parts exchanged: a the first part's place, b the second's, c what is behind it -/
def swp (l : Fm) (a b c : Nat) : Fm := l.take a ++ ((l.drop b).take (c - b) ++ ((l.drop a).take (b - a) ++ l.drop c))
theorem swp_len {l : Fm} {a b c : Nat} (h1 : a ≤ b) (h2 : b ≤ c) (h3 : c ≤ l.length) : (swp l a b c).length = l.length := by simp [swp]; omega
theorem nd_swp {l : Fm} {a b c i : Nat} (h1 : a ≤ b) (h2 : b ≤ c) (h3 : c ≤ l.length) : nd (swp l a b c) i = nd l (if i < a then i else if i < a + (c - b) then i + b - a else if i < c then i + b - c else i) := by
  rw [swp]
  by_cases k1 : i < a
  · rw [nd_lt (by simp; omega), nd_take k1, if_pos k1]
  · rw [if_neg k1, nd_ge (by simp; omega)]
    have e1 : i - (l.take a).length = i - a := by simp; omega
    rw [e1]
    by_cases k2 : i < a + (c - b)
    · rw [nd_lt (by simp; omega), nd_take (by omega), nd_drop, if_pos k2]
      congr 1; omega
    · rw [if_neg k2, nd_ge (by simp; omega)]
      have e2 : i - a - ((l.drop b).take (c - b)).length = i - a - (c - b) := by simp; omega
      rw [e2]
      by_cases k3 : i < c
      · rw [nd_lt (by simp; omega), nd_take (by omega), nd_drop, if_pos k3]
        congr 1; omega
      · rw [if_neg k3, nd_ge (by simp; omega), nd_drop]
        congr 1
        simp
        omega
theorem exchange_ok {M : Mem} {f k : Nat} {l r1 r2 : Fm} (hf : (sh f).1 = 1) (hF : FA M f l) (hk : k < l.length) (h1 : skp (l.drop (k + 1)) 1 = some r1) (h2 : skp r1 1 = some r2) :
    ∃ M', f_Form_exchange f (nI k) M = some ((), M') ∧ FA M' f (swp l (k + 1) (l.length - r1.length) (l.length - r2.length)) ∧ Off (F3 f) M M' := by
  obtain ⟨e2, e3⟩ := fln hf
  have hl := hF.2.1
  obtain ⟨s1, d1⟩ := skp_len h1
  obtain ⟨s2, d2⟩ := skp_len h2
  rw [List.length_drop] at s1
  have hd : l.drop (l.length - r1.length) = r1 := by
    have e : l.drop (l.length - r1.length) = (l.drop (k + 1)).drop ((l.drop (k + 1)).length - r1.length) := by
      rw [List.drop_drop, List.length_drop]
      congr 1
      omega
    rw [e, d1]
  rw [f_Form_exchange, nI_s, behind_ok hf hF (by omega) h1, bd_s, behind_ok hf hF (by omega) (by rw [hd]; exact h2), bd_s]
  generalize hb : l.length - r1.length = b
  generalize hc : l.length - r2.length = c
  obtain ⟨b', rfl⟩ : ∃ b', b = b' + 1 := ⟨b - 1, by omega⟩
  obtain ⟨c', rfl⟩ : ∃ c', c = c' + 1 := ⟨c - 1, by omega⟩
  rw [nI_m1, nI_m1]
  simp only [f_Form_turnAround]
  obtain ⟨M1, l1, q1, q2, q3, q4⟩ := turn_loop hf FU (k + 1) b' l M (by omega) (by omega) (by rw [FU_e]; omega) hF
  rw [q1, bd_s]
  obtain ⟨M2, l2, p1, p2, p3, p4⟩ := turn_loop hf FU (b' + 1) c' l1 M1 (by rw [q3.1]; omega) (by omega) (by rw [FU_e]; omega) q2
  rw [p1, bd_s]
  obtain ⟨M3, l3, o1, o2, o3, o4⟩ := turn_loop hf FU (k + 1) c' l2 M2 (by rw [p3.1, q3.1]; omega) (by omega) (by rw [FU_e]; omega) p2
  rw [o1, bd_s]
  have e : l3 = swp l (k + 1) (b' + 1) (c' + 1) := by
    refine nd_ext ?_ ?_
    · rw [swp_len (by omega) (by omega) (by omega), o3.1, p3.1, q3.1]
    · intro i hi
      rw [o3.1, p3.1, q3.1] at hi
      have t1 : tu (k + 1) (c' + 1) i < l.length := by rw [tu]; split <;> omega
      have t2 : tu (b' + 1) (c' + 1) (tu (k + 1) (c' + 1) i) < l.length := by
        generalize tu (k + 1) (c' + 1) i = z at t1 ⊢
        rw [tu]; split <;> omega
      rw [o3.2 i (by rw [p3.1, q3.1]; exact hi), p3.2 _ (by rw [q3.1]; exact t1), q3.2 _ t2, nd_swp (by omega) (by omega) (by omega)]
      congr 1
      by_cases z1 : k + 1 ≤ i ∧ i < c' + 1
      · have w1 : tu (k + 1) (c' + 1) i = k + 1 + (c' + 1) - 1 - i := by rw [tu, if_pos z1]
        rw [w1]
        by_cases z2 : b' + 1 ≤ k + 1 + (c' + 1) - 1 - i
        · have w2 : tu (b' + 1) (c' + 1) (k + 1 + (c' + 1) - 1 - i) = b' + 1 + (c' + 1) - 1 - (k + 1 + (c' + 1) - 1 - i) := by rw [tu, if_pos (by omega)]
          rw [w2, tu, if_neg (by omega), if_neg (by omega), if_pos (by omega)]
          omega
        · have w2 : tu (b' + 1) (c' + 1) (k + 1 + (c' + 1) - 1 - i) = k + 1 + (c' + 1) - 1 - i := by rw [tu, if_neg (by omega)]
          rw [w2, tu, if_pos (by omega), if_neg (by omega), if_neg (by omega), if_pos (by omega)]
          omega
      · have w1 : tu (k + 1) (c' + 1) i = i := by rw [tu, if_neg z1]
        rw [w1]
        have w2 : tu (b' + 1) (c' + 1) i = i := by rw [tu, if_neg (by omega)]
        rw [w2, tu, if_neg (by omega)]
        by_cases z3 : i < k + 1
        · rw [if_pos z3]
        · rw [if_neg z3, if_neg (by omega), if_neg (by omega)]
  subst e
  exact ⟨M3, rfl, o2, (q4.tr p4).tr o4⟩
