/-! formula and node, on the class's side -/
theorem uses_in {M : Mem} {st : St} {fm : Nat} {k4 : Int32 → Int32 → Int32 → Mem → Option (Int32 × Mem)} (hk : OKS st.1) (hE : EXA M st) {i : Nat} (hi : i < st.1.length) (c0 : Nat) : ∀ (n j : Nat), j ≤ (XX st i).1.length → (XX st i).1.length - j < n →
    f_LP_usesOf_b35 k4 n (nI fm) (nI (c0 + (((XX st i).1.take j).countP fun q => q.1 == 2 && q.2 == nI fm))) (nI i) (160 + 8 * i + 1) (nI j) M = k4 (nI fm) (nI (c0 + useN st (nI fm) i)) (nI (i + 1)) M := by
  have h6 := hk.1.2
  obtain ⟨w1, w2, -⟩ := XX_ok hk hi
  have hF := (hE i hi).1
  have hf := tE1 (sh_E8 (c := i) (by omega))
  intro n
  induction n with
  | zero => intro j _ h; omega
  | succ n ih =>
    intro j hj hn
    rw [f_LP_usesOf_b35, hF.1]
    by_cases c : j = (XX st i).1.length
    · subst c
      rw [if_pos (nI_le (Nat.le_refl _) (by omega)), bi_e, nI_s, List.take_length]
      rfl
    · have hj6 : j < (XX st i).1.length := by omega
      rw [if_neg (nI_ge hj6 (by omega)), kindOf_ok hf hF (by omega), bd_s, contentOf_ok hf hF (by omega), bd_s]
      have ihj := ih (j + 1) (by omega) (by omega)
      rw [tk_s hj6, List.countP_append, List.countP_singleton] at ihj
      by_cases d : (nd (XX st i).1 j).1 = 2
      · by_cases d2 : (nd (XX st i).1 j).2 = nI fm
        · have e : ((nd (XX st i).1 j).1 == 2 && (nd (XX st i).1 j).2 == nI fm) = true := by simp [d, d2]
          rw [if_pos e, ← Nat.add_assoc] at ihj
          rw [if_pos d, if_pos d2, f_LP_usesOf_b72, if_neg (by decide), bi_e, bi_e, nI_s, nI_s]
          exact ihj
        · have e : ¬ ((nd (XX st i).1 j).1 == 2 && (nd (XX st i).1 j).2 == nI fm) = true := by simp [d2]
          rw [if_neg e, Nat.add_zero] at ihj
          rw [if_pos d, if_neg d2, f_LP_usesOf_b71, f_LP_usesOf_b72, if_pos rfl, bi_e, bi_e, nI_z, nI_s]
          exact ihj
      · have e : ¬ ((nd (XX st i).1 j).1 == 2 && (nd (XX st i).1 j).2 == nI fm) = true := by simp [d]
        rw [if_neg e, Nat.add_zero] at ihj
        rw [if_neg d, f_LP_usesOf_b71, f_LP_usesOf_b72, if_pos rfl, bi_e, bi_e, nI_z, nI_s]
        exact ihj
theorem uses_loop {M : Mem} {st : St} {fm : Nat} (hk : OKS st.1) (hS : SA M 24 st) (hE : EXA M st) : ∀ (n j : Nat), j ≤ st.1.length → st.1.length - j < n → f_LP_usesOf_b4 n (nI fm) (nI (sumN (useN st (nI fm)) j)) (nI j) M = some (nI (sumN (useN st (nI fm)) st.1.length), M) := by
  have h6 := hk.1.2
  intro n
  induction n with
  | zero => intro j _ h; omega
  | succ n ih =>
    intro j hj hn
    rw [f_LP_usesOf_b4, hS.1]
    by_cases c : j = st.1.length
    · subst c
      rw [if_pos (nI_le (Nat.le_refl _) (by omega))]
    · have hj6 : j < st.1.length := by omega
      have w2 := (XX_ok hk hj6).2.1
      rw [if_neg (nI_ge hj6 (by omega)), if_neg (by rw [l6]; exact nI_ge (by omega) (by omega)), gd_of (inbT (by omega) (by omega)), ixN (by omega), bn_e]
      have h := uses_in (fm := fm) (k4 := f_LP_usesOf_b4 n) hk hE hj6 (sumN (useN st (nI fm)) j) FU 0 (by omega) (by rw [FU_e]; omega)
      rw [List.take_zero, List.countP_nil, Nat.add_zero, nI_0] at h
      rw [h]
      exact ih (j + 1) (by omega) (by omega)
theorem row0 {M : Mem} {st : St} (hk : OKS st.1) (hE : EXA M st) {i : Nat} (hi : i < st.1.length) : f_Expanded_valueOf (160 + 8 * i) 0 M = some ((XX st i).2.2, M) ∧ f_Expanded_depthOf (160 + 8 * i) 0 M = some (nI (tr (lvS st i) (XX st i).1 0).2.2.1, M) := by
  have h6 := hk.1.2
  have h := (hE i hi).2.2 0 (by omega) (wf_len (XX_ok hk hi).1)
  rw [← nI_0, valueOf_ok (sh_E8 (by omega)) (by omega), depthOf_ok (sh_E8 (by omega)) (by omega), h.2.2.1, h.2.2.2]
  exact ⟨rfl, rfl⟩
theorem c_formula {M : Mem} {s : S3} (h : RepC M s) (hk : OKs s) (x w : Int32) : f_LP_formula x w M = some (a_formula s.2.1 x w, M) := by
  obtain ⟨-, hS, -, hE, -⟩ := h
  have hks := hk.2.2.1
  have h6 := hks.1.2
  rw [f_LP_formula, isFormula_ok hS hks, bd_s, a_formula]
  by_cases c : isF s.2.1.1 x = true
  · rw [if_pos c, if_pos c, if_neg (by decide)]
    obtain ⟨k, rfl, hk1, hk2, hk3⟩ := isF_k c
    rw [hk3]
    have g6 : inb (nI k) 6 = true := inbT (by omega) (by omega)
    rw [gd_of g6, bn_e, gd_of g6]
    obtain ⟨e1, e2, e3⟩ := hE k hk1
    by_cases c0 : w = 0
    · rw [if_pos c0, if_pos c0, (hS.2.1 k hk1).1]
    rw [if_neg c0, if_neg c0]
    by_cases c1 : w = 1
    · rw [if_pos c1, if_pos c1, e1.1]
    rw [if_neg c1, if_neg c1]
    by_cases c2 : w = 2
    · rw [if_pos c2, if_pos c2, needOf0 hks hE hk1, bd_s]
    rw [if_neg c2, if_neg c2]
    by_cases c3 : w = 3
    · rw [if_pos c3, if_pos c3, e2]
      by_cases d : (XX s.2.1 k).2.1 = true
      · rw [if_pos d, if_neg (by decide)]
      · rw [if_neg d, if_pos rfl]
    rw [if_neg c3, if_neg c3]
    obtain ⟨r1, r2⟩ := row0 hks hE hk1
    by_cases c4 : w = 4
    · rw [if_pos c4, if_pos c4, r1, bd_s]
    rw [if_neg c4, if_neg c4]
    by_cases c5 : w = 5
    · rw [if_pos c5, if_pos c5, r2, bd_s]
    rw [if_neg c5, if_neg c5]
    by_cases c6 : w = 6
    · rw [if_pos c6, if_pos c6, f_LP_usesOf]
      have := uses_loop (fm := k) hks hS hE FU 0 (by omega) (by rw [FU_e]; omega)
      rw [show f_LP_usesOf_b4 FU (nI k) 0 0 M = _ from this, bd_s]
    rw [if_neg c6, if_neg c6]
  · rw [if_neg c, if_neg c, if_pos rfl]
theorem c_node {M : Mem} {s : S3} (h : RepC M s) (hk : OKs s) (x y w : Int32) : f_LP_node x y w M = some (a_node s.2.1 x y w, M) := by
  obtain ⟨-, hS, -, hE, -⟩ := h
  have hks := hk.2.2.1
  have h6 := hks.1.2
  rw [f_LP_node, isFormula_ok hS hks, bd_s, a_node]
  by_cases c : isF s.2.1.1 x = true
  · rw [if_pos c, if_pos c, if_neg (by decide)]
    obtain ⟨k, rfl, hk1, hk2, hk3⟩ := isF_k c
    rw [hk3]
    have g6 : inb (nI k) 6 = true := inbT (by omega) (by omega)
    obtain ⟨e1, e2, e3⟩ := hE k hk1
    obtain ⟨w1, w2, -⟩ := XX_ok hks hk1
    have he := sh_E8 (c := k) (by omega)
    have hf := tE1 he
    rw [gd_of g6]
    by_cases cy : y < 0
    · rw [has_neg cy, bd_s, if_pos rfl, if_neg (by simp [cy])]
    · obtain ⟨z, rfl, hz⟩ := nonneg_nI cy
      rw [has_ok hf e1 hz, bd_s, ixN hz]
      by_cases cz : z < (XX s.2.1 k).1.length
      · rw [if_pos cz, if_neg (by decide), if_pos (by simp [cy, cz]), gd_of g6, bn_e, kindOf_ok hf e1 hz, bd_s, partsOf_ok, bd_s]
        obtain ⟨t1, t2, t3, t4⟩ := e3 z (by omega) cz
        have ha := ar_le (nd (XX s.2.1 k).1 z).1
        by_cases c0 : w = 0
        · rw [if_pos c0, if_pos c0, kindOf_ok hf e1 hz, bd_s]
        rw [if_neg c0, if_neg c0]
        by_cases c1 : w = 1
        · rw [if_pos c1, if_pos c1]
          by_cases d : ar (nd (XX s.2.1 k).1 z).1 = 0
          · rw [if_pos d, d, if_pos nI_0, contentOf_ok hf e1 hz, bd_s]
          · rw [if_neg d, if_neg (nI_ne0 (by omega) (by omega))]
        rw [if_neg c1, if_neg c1]
        by_cases c2 : w = 2
        · rw [if_pos c2, if_pos c2]
          by_cases d : ar (nd (XX s.2.1 k).1 z).1 = 0
          · rw [if_pos d, d, if_pos (by decide)]
          · rw [if_neg d, if_neg (nI_nle (by omega) (by omega))]
        rw [if_neg c2, if_neg c2]
        by_cases c3 : w = 3
        · rw [if_pos c3, if_pos c3]
          by_cases d : ar (nd (XX s.2.1 k).1 z).1 ≤ 1
          · rw [if_pos d, if_pos (by rw [show (1 : Int32) = nI 1 from rfl]; exact nI_le d (by omega))]
          · obtain ⟨u1, u2⟩ := wf_2 (lv := lvS s.2.1 k) w1 cz (by omega)
            rw [if_neg d, if_neg (by rw [show (1 : Int32) = nI 1 from rfl]; exact nI_ge (by omega) (by omega)), rightOf_ok he (by omega) (e3 (z + 1) (by omega) u1).1, bd_s]
        rw [if_neg c3, if_neg c3]
        by_cases c4 : w = 4
        · rw [if_pos c4, if_pos c4, needOf_ok he (by omega), bd_s, t2]
        rw [if_neg c4, if_neg c4]
        by_cases c5 : w = 5
        · rw [if_pos c5, if_pos c5, sizeOf_ok he (by omega), bd_s, t1]
        rw [if_neg c5, if_neg c5]
        by_cases c6 : w = 6
        · rw [if_pos c6, if_pos c6, valueOf_ok he (by omega), bd_s, t4]
        rw [if_neg c6, if_neg c6]
      · rw [if_neg cz, if_pos rfl, if_neg (by simp [cz])]
  · rw [if_neg c, if_neg c, if_pos rfl]
