/-! Expanded: reading the rows, laying them -/
theorem entry_ok {M : Mem} {a k n : Nat} (hn : ln a = n) (hk : k < n) (hn2 : n < 2 ^ 31) : f_Expanded_entry a (nI k) M = some (M.1 a k, M) := by
  rw [f_Expanded_entry, hn, if_neg (nI_pos (by omega)), if_neg (nI_ge hk hn2), gd_of (inbT hk hn2), ixN (by omega)]
theorem sizeOf_ok {M : Mem} {e k : Nat} (he : (sh e).1 = 0) (hk : k < 60) : f_Expanded_sizeOf e (nI k) M = some (M.1 (e + 4) k, M) := by
  rw [f_Expanded_sizeOf, entry_ok (nE3 he) hk (by omega), bd_s]
theorem needOf_ok {M : Mem} {e k : Nat} (he : (sh e).1 = 0) (hk : k < 60) : f_Expanded_needOf e (nI k) M = some (M.1 (e + 5) k, M) := by
  rw [f_Expanded_needOf, entry_ok (nE4 he) hk (by omega), bd_s]
theorem depthOf_ok {M : Mem} {e k : Nat} (he : (sh e).1 = 0) (hk : k < 60) : f_Expanded_depthOf e (nI k) M = some (M.1 (e + 6) k, M) := by
  rw [f_Expanded_depthOf, entry_ok (nE5 he) hk (by omega), bd_s]
theorem valueOf_ok {M : Mem} {e k : Nat} (he : (sh e).1 = 0) (hk : k < 60) : f_Expanded_valueOf e (nI k) M = some (M.1 (e + 7) k, M) := by
  rw [f_Expanded_valueOf, entry_ok (nE6 he) hk (by omega), bd_s]
theorem put_ok {M : Mem} {e k : Nat} {x y z : Int32} (hk : k < 60) : f_Expanded_put e (nI k) x y z M = some ((), mset (mset (mset M (e + 4) k x) (e + 5) k y) (e + 6) k z) := by
  have g : inb (nI k) 60 = true := inbT hk (by omega)
  rw [f_Expanded_put, if_neg (nI_pos (by omega)), if_neg (by rw [show (60 : Int32) = nI 60 from rfl]; exact nI_ge hk (by omega))]
  simp only [g, gd_t, bm_e]
  rw [ixN (by omega)]
theorem rightOf_ok {M : Mem} {e k z : Nat} (he : (sh e).1 = 0) (hk : k + 1 < 60) (hz : M.1 (e + 4) (k + 1) = nI z) : f_Expanded_rightOf e (nI k) M = some (nI (k + 1 + z), M) := by
  rw [f_Expanded_rightOf, nI_s, sizeOf_ok he hk, bd_s, hz, nI_add]
theorem needOfPair_ok {M : Mem} {a b : Nat} (ha : a < 1000) (hb : b < 1000) : f_Expanded_needOfPair (nI a) (nI b) M = some (nI (npair a b), M) := by
  rw [f_Expanded_needOfPair, npair]
  by_cases c : a = b
  · subst c
    rw [if_pos rfl, if_pos rfl, nI_s]
  · rw [if_neg (by rw [nI_eq (by omega) (by omega)]; exact c), if_neg c, mxI]
    rcases Nat.lt_or_ge a b with d | d
    · rw [if_pos (nI_lt d (by omega)), Nat.max_eq_right (by omega)]
    · rw [if_neg (nI_nlt d (by omega)), Nat.max_eq_left d]
theorem mxI_n {a b : Nat} (ha : a < 1000) (hb : b < 1000) : mxI (nI a) (nI b) = nI (max a b) := by
  rw [mxI]
  rcases Nat.lt_or_ge a b with d | d
  · rw [if_pos (nI_lt d (by omega)), Nat.max_eq_right (by omega)]
  · rw [if_neg (nI_nlt d (by omega)), Nat.max_eq_left d]
theorem operate_ok {M : Mem} {k x y : Int32} : f_Expanded_operate k x.toInt64 y.toInt64 M = some (opv k x y, M) := by
  rw [f_Expanded_operate, bl_e, opv]
  by_cases c : k = 4
  · rw [if_pos c, if_pos c]; rfl
  · rw [if_neg c, if_neg c]
    by_cases d : k = 5
    · rw [if_pos d, if_pos d]; rfl
    · rw [if_neg d, if_neg d]; rfl
/-- what is told of the nodes from i on stands in the rows of e -/
def TA (M : Mem) (e : Nat) (lv : Nd → Int32) (l : Fm) (i : Nat) : Prop := ∀ k, i ≤ k → k < l.length → M.1 (e + 4) k = nI (tr lv l k).1 ∧ M.1 (e + 5) k = nI (tr lv l k).2.1 ∧ M.1 (e + 6) k = nI (tr lv l k).2.2.1 ∧ M.1 (e + 7) k = (tr lv l k).2.2.2
abbrev R47 (e : Nat) : Nat → Prop := fun a => e + 4 ≤ a ∧ a ≤ e + 7
theorem leafValue_ok {M : Mem} {e i ca : Nat} {l : Fm} {cells vals : Nat → Int32} (hf : (sh (e + 1)).1 = 1) (hF : FA M (e + 1) l) (hi : i < l.length) (hca : ln ca = 8) (h0 : ar (nd l i).1 = 0)
    (hc : ∀ c, c < 8 → M.1 ca c = cells c) (fm : Nat) (hfm : fm ≤ 6) (hv : ∀ c, c < fm → M.1 (160 + 8 * c + 7) 0 = vals c) (hok : okN fm (nd l i)) :
    f_Expanded_leafValue e (nI i) ca M = some (lvf cells vals (nd l i), M) := by
  have h60 := fln hf
  have hl := hF.2.1
  rw [f_Expanded_leafValue, kindOf_ok hf hF (by omega), bd_s, contentOf_ok hf hF (by omega), bd_s, lvf]
  rcases hok with ⟨q1, -⟩ | ⟨q1, c, q2, q3⟩ | ⟨q1, c, q2, q3⟩ | ⟨q1, -⟩
  · rw [q1, if_neg (by decide), if_neg (by decide), if_neg (by decide), if_neg (by decide)]
  · rw [q1, q3, if_pos rfl, if_pos rfl, entry_ok hca q2 (by omega), bd_s, ixN (by omega), hc c q2]
  · have he : (sh (160 + 8 * c)).1 = 0 := (sh_E.2 c (by omega)).2
    rw [q1, q3, if_neg (by decide), if_pos rfl, if_neg (nI_pos (by omega)), if_neg (by rw [show (6 : Int32) = nI 6 from rfl]; exact nI_ge (by omega) (by omega)), gd_of (inbT (by omega) (by omega)), ixN (by omega), if_neg (by decide), if_pos rfl, ← nI_0, valueOf_ok he (by omega), bd_s, hv c q2]
  · exfalso
    rcases q1 with q1 | q1 | q1 | q1 <;> rw [q1] at h0 <;> revert h0 <;> decide
theorem measure_loop {e ca : Nat} {l : Fm} {cells vals : Nat → Int32} (he : (sh e).1 = 0) (hw : wf l) (hl60 : l.length ≤ 60) (hca : ln ca = 8) (hca2 : ¬ R47 e ca) (fm : Nat) (hfm : fm ≤ 6) (hfe : ∀ c, c < fm → 160 + 8 * c ≠ e)
    (hok : ∀ i, i < l.length → okN fm (nd l i)) : ∀ (n i : Nat) (M : Mem), i ≤ l.length → i < n → FA M (e + 1) l → TA M e (lvf cells vals) l i → (∀ c, c < 8 → M.1 ca c = cells c) → (∀ c, c < fm → M.1 (160 + 8 * c + 7) 0 = vals c) →
    ∃ M', f_Expanded_measure_b15 n e ca (nI i - 1) M = some ((), M') ∧ TA M' e (lvf cells vals) l 0 ∧ Off (R47 e) M M' := by
  have hf := tE1 he
  have he2 : ∃ j, j < 6 ∧ e = 160 + 8 * j := (show ∀ e, e < 208 → (sh e).1 = 0 → ∃ j, j < 6 ∧ e = 160 + 8 * j by decide +kernel) e (lt_of_sh he (by omega)) he
  obtain ⟨j, hj, hej⟩ := he2
  intro n
  induction n with
  | zero => intro i M _ h; omega
  | succ n ih =>
    intro i M hi hn hF hT hc hv
    rw [f_Expanded_measure_b15]
    cases i with
    | zero =>
      rw [if_pos (by decide)]
      exact ⟨M, rfl, hT, Off.rf⟩
    | succ i =>
      rw [nI_m1, if_neg (nI_pos (by omega)), bi_e, nI_s, kindOf_ok hf hF (by omega), bd_s, partsOf_ok, bd_s]
      have g60 : inb (nI i) 60 = true := inbT (by omega) (by omega)
      have key : ∀ (M1 : Mem) (r : Rw), r = tr (lvf cells vals) l i → M1 = mset (mset (mset (mset M (e + 4) i (nI r.1)) (e + 5) i (nI r.2.1)) (e + 6) i (nI r.2.2.1)) (e + 7) i r.2.2.2 → ∃ M', f_Expanded_measure_b15 n e ca (nI i + (-1)) M1 = some ((), M') ∧ TA M' e (lvf cells vals) l 0 ∧ Off (R47 e) M M' := by
        intro M1 r hr hM
        have ho : Off (R47 e) M M1 := by
          subst hM
          exact (((Off.set (by show _ ∧ _; omega)).tr (Off.set (by show _ ∧ _; omega))).tr (Off.set (by show _ ∧ _; omega))).tr (Off.set (by show _ ∧ _; omega))
        have e1 : nI i + (-1) = nI i - 1 := by grind
        obtain ⟨M2, a1, a2, a3⟩ := ih i M1 (by omega) (by omega) (hF.off ho (fun a ha => by rcases ha with q | q | q <;> subst q <;> show ¬ (_ ∧ _) <;> omega))
          (fun k hk1 hk2 => by
            by_cases hki : k = i
            · subst hki
              subst hM
              rw [← hr]
              simp only [ms1, show e + 4 ≠ e + 5 by omega, show e + 4 ≠ e + 6 by omega, show e + 4 ≠ e + 7 by omega, show e + 5 ≠ e + 6 by omega, show e + 5 ≠ e + 7 by omega, show e + 6 ≠ e + 7 by omega, show e + 5 ≠ e + 4 by omega, show e + 6 ≠ e + 4 by omega, show e + 6 ≠ e + 5 by omega, show e + 7 ≠ e + 4 by omega, show e + 7 ≠ e + 5 by omega, show e + 7 ≠ e + 6 by omega, if_true, if_false, and_self]
            · obtain ⟨b1, b2, b3, b4⟩ := hT k (by omega) hk2
              subst hM
              simp only [ms1, show e + 4 ≠ e + 5 by omega, show e + 4 ≠ e + 6 by omega, show e + 4 ≠ e + 7 by omega, show e + 5 ≠ e + 6 by omega, show e + 5 ≠ e + 7 by omega, show e + 6 ≠ e + 7 by omega, show e + 5 ≠ e + 4 by omega, show e + 6 ≠ e + 4 by omega, show e + 6 ≠ e + 5 by omega, show e + 7 ≠ e + 4 by omega, show e + 7 ≠ e + 5 by omega, show e + 7 ≠ e + 6 by omega, if_true, if_false, if_neg hki]
              exact ⟨b1, b2, b3, b4⟩)
          (fun c hc8 => by rw [ho.1 ca hca2]; exact hc c hc8)
          (fun c hcf => by
            have := hfe c hcf
            rw [ho.1 (160 + 8 * c + 7) (by show ¬ (_ ∧ _); omega)]
            exact hv c hcf)
        rw [e1]
        exact ⟨M2, a1, a2, ho.tr a3⟩
      have hb : ∀ k, k < l.length → (tr (lvf cells vals) l k).2.1 < 1000 ∧ (tr (lvf cells vals) l k).2.2.1 < 1000 := by
        intro k hk
        have z1 := tr_le (lv := lvf cells vals) (l := l) (l.length - k + 1) k (by omega)
        have z2 := wf_size (lv := lvf cells vals) hw hk
        omega
      rcases ar_cases (nd l i).1 with a0 | a0 | a0
      · rw [a0, if_pos (by decide), put_ok (by omega), bd_s]
        have hF1 : FA (mset (mset (mset M (e + 4) i 1) (e + 5) i 1) (e + 6) i 1) (e + 1) l := hF.off ((((Off.set (S := R47 e) (by show _ ∧ _; omega)).tr (Off.set (by show _ ∧ _; omega))).tr (Off.set (by show _ ∧ _; omega)))) (fun a ha => by rcases ha with q | q | q <;> subst q <;> show ¬ (_ ∧ _) <;> omega)
        have hca3 : ca ≠ e + 4 ∧ ca ≠ e + 5 ∧ ca ≠ e + 6 := by
          have : ¬ (e + 4 ≤ ca ∧ ca ≤ e + 7) := hca2
          omega
        rw [leafValue_ok hf hF1 (by omega) hca a0 (fun c hc8 => by simp only [ms1, if_neg hca3.1, if_neg hca3.2.1, if_neg hca3.2.2]; exact hc c hc8) fm hfm (fun c hcf => by
          have := hfe c hcf
          simp only [ms1, show 160 + 8 * c + 7 ≠ e + 4 by omega, show 160 + 8 * c + 7 ≠ e + 5 by omega, show 160 + 8 * c + 7 ≠ e + 6 by omega, if_false]
          exact hv c hcf) (hok i (by omega)), bd_s, gd_of g60, bm_e, bi_e, ixN (by omega)]
        exact key _ (1, 1, 1, lvf cells vals (nd l i)) (tr_a0 (by omega) a0).symm rfl
      · have h1 := wf_1 hw (by omega) a0
        obtain ⟨t1, t2, t3, t4⟩ := hT (i + 1) (by omega) h1
        rw [a0, if_neg (by decide), if_pos (by decide), sizeOf_ok he (by omega), bd_s, needOf_ok he (by omega), bd_s, depthOf_ok he (by omega), bd_s, put_ok (by omega), bd_s, valueOf_ok he (by omega), bd_s, gd_of g60, bm_e, bi_e, ixN (by omega)]
        simp only [ms1, show e + 7 ≠ e + 4 by omega, show e + 7 ≠ e + 5 by omega, show e + 7 ≠ e + 6 by omega, if_false]
        rw [t1, t2, t3, t4, nI_s, nI_s]
        exact key _ _ (tr_a1 (by omega) a0).symm rfl
      · obtain ⟨h1, h2⟩ := wf_2 (lv := lvf cells vals) hw (by omega) a0
        obtain ⟨t1, t2, t3, t4⟩ := hT (i + 1) (by omega) h1
        obtain ⟨u1, u2, u3, u4⟩ := hT (i + 1 + (tr (lvf cells vals) l (i + 1)).1) (by omega) h2
        have b1 := hb _ h1
        have b2 := hb _ h2
        rw [a0, if_neg (by decide), if_neg (by decide), rightOf_ok he (by omega) t1, bd_s, depthOf_ok he (by omega), bd_s, depthOf_ok he (by omega), bd_s, bi_e, sizeOf_ok he (by omega), bd_s, sizeOf_ok he (by omega), bd_s, needOf_ok he (by omega), bd_s, needOf_ok he (by omega), bd_s]
        rw [t1, t2, t3, u1, u2, u3, needOfPair_ok b1.1 b2.1, bd_s, mxI_n b1.2 b2.2, nI_s, nI_add, nI_s, put_ok (by omega), bd_s]
        have hF1 : ∀ x y z, FA (mset (mset (mset M (e + 4) i x) (e + 5) i y) (e + 6) i z) (e + 1) l := fun x y z => hF.off ((((Off.set (S := R47 e) (by show _ ∧ _; omega)).tr (Off.set (by show _ ∧ _; omega))).tr (Off.set (by show _ ∧ _; omega)))) (fun a ha => by rcases ha with q | q | q <;> subst q <;> show ¬ (_ ∧ _) <;> omega)
        rw [kindOf_ok hf (hF1 _ _ _) (by omega), bd_s, valueOf_ok he (by omega), bd_s, valueOf_ok he (by omega), bd_s]
        simp only [ms1, show e + 7 ≠ e + 4 by omega, show e + 7 ≠ e + 5 by omega, show e + 7 ≠ e + 6 by omega, if_false]
        rw [t4, u4, operate_ok, bd_s, gd_of g60, bm_e, bi_e, ixN (by omega)]
        exact key _ _ (tr_a2 (by omega) a0).symm rfl
theorem measure_ok {e ca : Nat} {l : Fm} {cells vals : Nat → Int32} (he : (sh e).1 = 0) (hw : wf l) (hl60 : l.length ≤ 60) (hca : ln ca = 8) (hca2 : ¬ R47 e ca) (fm : Nat) (hfm : fm ≤ 6) (hfe : ∀ c, c < fm → 160 + 8 * c ≠ e)
    (hok : ∀ i, i < l.length → okN fm (nd l i)) (M : Mem) (hF : FA M (e + 1) l) (hc : ∀ c, c < 8 → M.1 ca c = cells c) (hv : ∀ c, c < fm → M.1 (160 + 8 * c + 7) 0 = vals c) :
    ∃ M', f_Expanded_measure e ca M = some ((), M') ∧ TA M' e (lvf cells vals) l 0 ∧ Off (R47 e) M M' := by
  have e1 : mnI (nI l.length) 60 = nI l.length := by
    rw [mnI, if_neg (by rw [show (60 : Int32) = nI 60 from rfl]; exact nI_nlt hl60 (by omega))]
  rw [f_Expanded_measure, bi_e, hF.1, e1]
  exact measure_loop he hw hl60 hca hca2 fm hfm hfe hok FU l.length M (Nat.le_refl _) (by rw [FU_e]; omega) hF (fun k h1 h2 => by omega) hc hv
