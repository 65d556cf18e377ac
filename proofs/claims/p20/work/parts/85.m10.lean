/-! isFormula: what is told of a formula and of its nodes -/
theorem isF_nI {fs : List Fm} {f : Nat} (h : f < fs.length) (h4 : fs.length ≤ 6) : isF fs (nI f) = true := by
  rw [isF, ixN (by omega), Bool.and_eq_true, Bool.not_eq_true', decide_eq_false_iff_not, decide_eq_true_eq]
  exact ⟨nI_pos (by omega), h⟩
theorem isF_out {fs : List Fm} (h4 : fs.length ≤ 6) : isF fs (nI fs.length) = false := by
  rw [isF, ixN (by omega)]
  simp
section FA0
variable {st : St} {f k : Nat}
theorem af {w : Int32} (hk : OKS st.1) (hf : f < st.1.length) : a_formula st (nI f) w = if w = 0 then nI (gf st.1 f).length else if w = 1 then nI (XX st f).1.length else if w = 2 then nI (need0 st f) else if w = 3 then (if (XX st f).2.1 = true then 1 else 0) else if w = 4 then (XX st f).2.2 else if w = 5 then nI (tr (lvS st f) (XX st f).1 0).2.2.1 else if w = 6 then nI (sumN (useN st (nI f)) st.1.length) else -1000001 := by
  have h6 := hk.1.2
  rw [a_formula, if_pos (isF_nI hf h6), ixN (by omega)]
theorem an {w : Int32} (hk : OKS st.1) (hf : f < st.1.length) (hkx : k < (XX st f).1.length) : a_node st (nI f) (nI k) w = if w = 0 then (nd (XX st f).1 k).1
      else if w = 1 then (if ar (nd (XX st f).1 k).1 = 0 then (nd (XX st f).1 k).2 else -1000009)
      else if w = 2 then (if ar (nd (XX st f).1 k).1 = 0 then -1000009 else nI k + 1)
      else if w = 3 then (if ar (nd (XX st f).1 k).1 ≤ 1 then -1000009 else nI (k + 1 + (tr (lvS st f) (XX st f).1 (k + 1)).1))
      else if w = 4 then nI (tr (lvS st f) (XX st f).1 k).2.1
      else if w = 5 then nI (tr (lvS st f) (XX st f).1 k).1
      else if w = 6 then (tr (lvS st f) (XX st f).1 k).2.2.2
      else -1000001 := by
  have h6 := hk.1.2
  have h60 := (XX_ok hk hf).2.1
  have hc : (!decide (nI k < 0) && decide (ix (nI k) < (XX st f).1.length)) = true := by
    rw [ixN (by omega), Bool.and_eq_true, Bool.not_eq_true', decide_eq_false_iff_not, decide_eq_true_eq]
    exact ⟨nI_pos (by omega), hkx⟩
  rw [a_node, if_pos (isF_nI hf h6), ixN (show f < 2 ^ 31 by omega), if_pos hc, ixN (by omega)]
theorem an_out {w : Int32} (hk : OKS st.1) (hf : f < st.1.length) : a_node st (nI f) (nI (XX st f).1.length) w = -1000001 := by
  have h6 := hk.1.2
  have h60 := (XX_ok hk hf).2.1
  rw [a_node, if_pos (isF_nI hf h6), ixN (show f < 2 ^ 31 by omega), if_neg]
  rw [ixN (by omega)]
  simp
theorem an_neg {w : Int32} (hk : OKS st.1) (hf : f < st.1.length) : a_node st (nI f) (-1) w = -1000001 := by
  have h6 := hk.1.2
  rw [a_node, if_pos (isF_nI hf h6), if_neg]
  simp
theorem an0 (hk : OKS st.1) (hf : f < st.1.length) (hkx : k < (XX st f).1.length) : a_node st (nI f) (nI k) 0 = (nd (XX st f).1 k).1 := by
  rw [an hk hf hkx, if_pos rfl]
theorem an1 (hk : OKS st.1) (hf : f < st.1.length) (hkx : k < (XX st f).1.length) : a_node st (nI f) (nI k) 1 = (if ar (nd (XX st f).1 k).1 = 0 then (nd (XX st f).1 k).2 else -1000009) := by
  rw [an hk hf hkx, if_neg (by decide), if_pos rfl]
theorem an2 (hk : OKS st.1) (hf : f < st.1.length) (hkx : k < (XX st f).1.length) : a_node st (nI f) (nI k) 2 = (if ar (nd (XX st f).1 k).1 = 0 then -1000009 else nI k + 1) := by
  rw [an hk hf hkx, if_neg (by decide), if_neg (by decide), if_pos rfl]
theorem an3 (hk : OKS st.1) (hf : f < st.1.length) (hkx : k < (XX st f).1.length) : a_node st (nI f) (nI k) 3 = (if ar (nd (XX st f).1 k).1 ≤ 1 then -1000009 else nI (k + 1 + (tr (lvS st f) (XX st f).1 (k + 1)).1)) := by
  rw [an hk hf hkx, if_neg (by decide), if_neg (by decide), if_neg (by decide), if_pos rfl]
theorem an4 (hk : OKS st.1) (hf : f < st.1.length) (hkx : k < (XX st f).1.length) : a_node st (nI f) (nI k) 4 = nI (tr (lvS st f) (XX st f).1 k).2.1 := by
  rw [an hk hf hkx, if_neg (by decide), if_neg (by decide), if_neg (by decide), if_neg (by decide), if_pos rfl]
theorem an5 (hk : OKS st.1) (hf : f < st.1.length) (hkx : k < (XX st f).1.length) : a_node st (nI f) (nI k) 5 = nI (tr (lvS st f) (XX st f).1 k).1 := by
  rw [an hk hf hkx, if_neg (by decide), if_neg (by decide), if_neg (by decide), if_neg (by decide), if_neg (by decide), if_pos rfl]
theorem an6 (hk : OKS st.1) (hf : f < st.1.length) (hkx : k < (XX st f).1.length) : a_node st (nI f) (nI k) 6 = (tr (lvS st f) (XX st f).1 k).2.2.2 := by
  rw [an hk hf hkx, if_neg (by decide), if_neg (by decide), if_neg (by decide), if_neg (by decide), if_neg (by decide), if_neg (by decide), if_pos rfl]
theorem an7 (hk : OKS st.1) (hf : f < st.1.length) (hkx : k < (XX st f).1.length) : a_node st (nI f) (nI k) 7 = -1000001 := by
  rw [an hk hf hkx, if_neg (by decide), if_neg (by decide), if_neg (by decide), if_neg (by decide), if_neg (by decide), if_neg (by decide), if_neg (by decide)]
theorem af0 (hk : OKS st.1) (hf : f < st.1.length) : a_formula st (nI f) 0 = nI (gf st.1 f).length := by
  rw [af hk hf, if_pos rfl]
theorem af1 (hk : OKS st.1) (hf : f < st.1.length) : a_formula st (nI f) 1 = nI (XX st f).1.length := by
  rw [af hk hf, if_neg (by decide), if_pos rfl]
theorem af2 (hk : OKS st.1) (hf : f < st.1.length) : a_formula st (nI f) 2 = nI (need0 st f) := by
  rw [af hk hf, if_neg (by decide), if_neg (by decide), if_pos rfl]
theorem af3 (hk : OKS st.1) (hf : f < st.1.length) : a_formula st (nI f) 3 = (if (XX st f).2.1 = true then 1 else 0) := by
  rw [af hk hf, if_neg (by decide), if_neg (by decide), if_neg (by decide), if_pos rfl]
theorem af4 (hk : OKS st.1) (hf : f < st.1.length) : a_formula st (nI f) 4 = (XX st f).2.2 := by
  rw [af hk hf, if_neg (by decide), if_neg (by decide), if_neg (by decide), if_neg (by decide), if_pos rfl]
theorem af5 (hk : OKS st.1) (hf : f < st.1.length) : a_formula st (nI f) 5 = nI (tr (lvS st f) (XX st f).1 0).2.2.1 := by
  rw [af hk hf, if_neg (by decide), if_neg (by decide), if_neg (by decide), if_neg (by decide), if_neg (by decide), if_pos rfl]
theorem af6 (hk : OKS st.1) (hf : f < st.1.length) : a_formula st (nI f) 6 = nI (sumN (useN st (nI f)) st.1.length) := by
  rw [af hk hf, if_neg (by decide), if_neg (by decide), if_neg (by decide), if_neg (by decide), if_neg (by decide), if_neg (by decide), if_pos rfl]
theorem af7 (hk : OKS st.1) (hf : f < st.1.length) : a_formula st (nI f) 7 = -1000001 := by
  rw [af hk hf, if_neg (by decide), if_neg (by decide), if_neg (by decide), if_neg (by decide), if_neg (by decide), if_neg (by decide), if_neg (by decide)]
end FA0
/-- what isFormula holds beside the class -/
def IFR (M : Mem) (kd nb sz ne dp vl : Nat) (st : St) (f : Nat) : Prop := (LR M kd 64 ∧ LR M nb 64 ∧ LR M sz 64 ∧ LR M ne 64 ∧ LR M dp 64 ∧ LR M vl 64) ∧ KR M kd nb (XX st f).1 ∧ TB M sz ne dp vl (lvS st f) (XX st f).1 0
theorem IFR.off {M M' : Mem} {kd nb sz ne dp vl f : Nat} {st : St} (h : IFR M kd nb sz ne dp vl st f) (hc : OffC M M') : IFR M' kd nb sz ne dp vl st f := by
  obtain ⟨⟨r1, r2, r3, r4, r5, r6⟩, e1, e2⟩ := h
  have hf := hc.fr (S := fun _ => False)
  exact ⟨⟨r1.fr hf, r2.fr hf, r3.fr hf, r4.fr hf, r5.fr hf, r6.fr hf⟩, fun p hp => by rw [hf.row r1.lt id, hf.row r2.lt id]; exact e1 p hp, fun p h1 h2 => by rw [hf.row r3.lt id, hf.row r4.lt id, hf.row r5.lt id, hf.row r6.lt id]; exact e2 p h1 h2⟩
section IFN
variable {s : S3} {f kd nb sz ne dp vl : Nat}
theorem if386 {M : Mem} (hC : RepC M s) (hO : OKs s) (hf : f < s.2.1.1.length) (hI : IFR M kd nb sz ne dp vl s.2.1 f) :
    ∃ M', f_L_isFormula_b386 (nI f) ne (nI (XX s.2.1 f).1.length) 1 M = some (1, M') ∧ RepC M' s ∧ FrL (fun _ => False) 0 0 M M' := by
  have hks := hO.2.2.1
  have h6 := hks.1.2
  obtain ⟨w1, w2, -⟩ := XX_ok hks hf
  obtain ⟨M1, e1, e2, e3⟩ := c_proved hC hO (nI f)
  have hI1 := hI.off e3
  rw [f_L_isFormula_b386, bk_ok e1 e3, if_neg (by decide), bk_ok (c_node e2 hO _ _ _) OffC.rf, an_out hks hf, if_pos rfl, bk_ok (c_node e2 hO _ _ _) OffC.rf, show a_node s.2.1 (nI f) 0 7 = -1000001 from an7 hks hf (wf_len w1), if_pos rfl, bk_ok (c_node e2 hO _ _ _) OffC.rf, an_neg hks hf, if_pos rfl]
  refine ⟨M1, ?_, e2, e3.fr⟩
  rw [a_proved, if_pos (isF_nI hf h6), ixN (by omega)]
  by_cases hp : pairsS s.2.1 f ≤ 10
  · have hne : nI (need0 s.2.1 f) ≠ -1000009 := by
      have := need_b hks hf
      intro q
      have h1 : ¬ nI (need0 s.2.1 f) < 0 := nI_pos (by omega)
      rw [q] at h1
      exact h1 (by decide)
    rw [if_pos hp, proved_nd hks hf hp, if_neg hne, gd_of (lx_0 hI1.1.2.2.2.1 (by omega) (by omega)), show M1.1 ne (ix 0) = nI (need0 s.2.1 f) from (hI1.2.2 0 (Nat.le_refl _) (wf_len w1)).2.1, if_pos rfl]
    rfl
  · rw [if_neg hp, if_pos rfl]
    rfl
theorem if193 {M : Mem} (hC : RepC M s) (hO : OKs s) (hf : f < s.2.1.1.length) (hI : IFR M kd nb sz ne dp vl s.2.1 f) : ∀ (fu k : Nat), k ≤ (XX s.2.1 f).1.length → (XX s.2.1 f).1.length - k < fu →
    ∃ M', f_L_isFormula_b193 fu (nI f) kd nb sz ne vl (nI (XX s.2.1 f).1.length) 1 (nI k) M = some (1, M') ∧ RepC M' s ∧ FrL (fun _ => False) 0 0 M M' := by
  have hks := hO.2.2.1
  have h6 := hks.1.2
  obtain ⟨w1, w2, w3, -⟩ := XX_ok hks hf
  obtain ⟨⟨r1, r2, r3, r4, r5, r6⟩, e1, e2⟩ := id hI
  intro fu
  induction fu with
  | zero => intro k _ h; omega
  | succ fu ih =>
    intro k hk hfu
    rw [f_L_isFormula_b193]
    by_cases c : k = (XX s.2.1 f).1.length
    · subst c
      rw [if_pos (nI_le (Nat.le_refl _) (by omega))]
      exact if386 hC hO hf hI
    · have hk2 : k < (XX s.2.1 f).1.length := by omega
      obtain ⟨v1, v2⟩ := e1 k hk2
      obtain ⟨t1, t2, t3, t4⟩ := e2 k (Nat.zero_le _) hk2
      have ik : ix (nI k) = k := ixN (by omega)
      have gk : lx M kd (nI k) = true := lx_ok r1 (by omega) (by omega)
      have gn : lx M nb (nI k) = true := lx_ok r2 (by omega) (by omega)
      have gs : lx M sz (nI k) = true := lx_ok r3 (by omega) (by omega)
      have ge : lx M ne (nI k) = true := lx_ok r4 (by omega) (by omega)
      have gv : lx M vl (nI k) = true := lx_ok r6 (by omega) (by omega)
      have last : f_L_isFormula_b318 (f_L_isFormula_b193 fu) (nI f) kd nb sz ne vl (nI (XX s.2.1 f).1.length) (nI k) (a_node s.2.1 (nI f) (nI k) 3) (a_node s.2.1 (nI f) (nI k) 3) M = f_L_isFormula_b193 fu (nI f) kd nb sz ne vl (nI (XX s.2.1 f).1.length) 1 (nI (k + 1)) M := by
        rw [f_L_isFormula_b318, if_pos rfl, bk_ok (c_node hC hO _ _ _) OffC.rf, gd_of ge, ik, t2, an4 hks hf hk2, if_pos rfl, bk_ok (c_node hC hO _ _ _) OffC.rf, gd_of gs, t1, an5 hks hf hk2, if_pos rfl, bk_ok (c_node hC hO _ _ _) OffC.rf, gd_of gv, t4, an6 hks hf hk2, if_pos rfl, bi_e, nI_s]
      rw [if_neg (nI_ge hk2 (by omega)), if_neg (by decide), bk_ok (c_node hC hO _ _ _) OffC.rf, gd_of gk, ik, v1, an0 hks hf hk2, if_pos rfl, bk_ok (c_node hC hO _ _ _) OffC.rf, gd_of gk, v1, an1 hks hf hk2]
      have fin := ih (k + 1) (by omega) (by omega)
      rw [← last] at fin
      rcases ar_cases (nd (XX s.2.1 f).1 k).1 with a | a | a
      · have h3 : ¬ (3 : Int32) ≤ (nd (XX s.2.1 f).1 k).1 := by
          intro q
          rw [ar, if_pos q] at a
          split at a <;> omega
        have h4 : ¬ (4 : Int32) ≤ (nd (XX s.2.1 f).1 k).1 := fun q => h3 (Int32.le_trans (by decide) q)
        have hbc : bc (nd (XX s.2.1 f).1 k) = (nd (XX s.2.1 f).1 k).2 := by rw [bc, if_pos (Int32.not_le.mp h3)]
        rw [if_neg h3, gd_of gn, v2, hbc, if_pos a, f_L_isFormula_b250, if_pos rfl, bk_ok (c_node hC hO _ _ _) OffC.rf, gd_of gk, ik, v1, if_neg h3, an2 hks hf hk2, if_pos a, f_L_isFormula_b280, if_pos rfl, bk_ok (c_node hC hO _ _ _) OffC.rf, gd_of gk, ik, v1, if_neg h4]
        have e3 : a_node s.2.1 (nI f) (nI k) 3 = -1000009 := by rw [an3 hks hf hk2, if_pos (by omega)]
        rw [e3] at fin ⊢
        exact fin
      · have h3 : (3 : Int32) ≤ (nd (XX s.2.1 f).1 k).1 := by
          rw [ar] at a
          split at a
          · assumption
          · omega
        have h4 : ¬ (4 : Int32) ≤ (nd (XX s.2.1 f).1 k).1 := by
          have : (nd (XX s.2.1 f).1 k).1 = 3 := by
            rw [ar, if_pos h3] at a
            split at a
            · assumption
            · omega
          rw [this]
          decide
        rw [if_pos h3, if_neg (by omega), f_L_isFormula_b250, if_pos rfl, bk_ok (c_node hC hO _ _ _) OffC.rf, gd_of gk, ik, v1, if_pos h3, an2 hks hf hk2, if_neg (by omega), f_L_isFormula_b280, if_pos rfl, bk_ok (c_node hC hO _ _ _) OffC.rf, gd_of gk, ik, v1, if_neg h4]
        have e3 : a_node s.2.1 (nI f) (nI k) 3 = -1000009 := by rw [an3 hks hf hk2, if_pos (by omega)]
        rw [e3] at fin ⊢
        exact fin
      · have h3 : (3 : Int32) ≤ (nd (XX s.2.1 f).1 k).1 := by
          rw [ar] at a
          split at a
          · assumption
          · omega
        have h4 : (4 : Int32) ≤ (nd (XX s.2.1 f).1 k).1 := by
          rcases w3 _ (nd_in hk2) with ⟨k1, k2⟩ | ⟨k1, cc, k2, k3⟩ | ⟨k1, cc, k2, k3⟩ | ⟨k1, k2⟩
          · rw [k1] at a; exact absurd a (by decide)
          · rw [k1] at a; exact absurd a (by decide)
          · rw [k1] at a; exact absurd a (by decide)
          · rcases k1 with k1 | k1 | k1 | k1
            · rw [k1] at a; exact absurd a (by decide)
            all_goals rw [k1]; decide
        obtain ⟨p1, p2⟩ := wf_2 (lv := lvS s.2.1 f) w1 hk2 a
        have u1 := (e2 (k + 1) (Nat.zero_le _) p1).1
        have gs1 : lx M sz (nI (k + 1)) = true := lx_ok r3 (by omega) (by omega)
        rw [if_pos h3, if_neg (by omega), f_L_isFormula_b250, if_pos rfl, bk_ok (c_node hC hO _ _ _) OffC.rf, gd_of gk, ik, v1, if_pos h3, an2 hks hf hk2, if_neg (by omega), f_L_isFormula_b280, if_pos rfl, bk_ok (c_node hC hO _ _ _) OffC.rf, gd_of gk, ik, v1, if_pos h4, nI_s, gd_of gs1, ixN (by omega), u1, nI_add]
        have e3 : a_node s.2.1 (nI f) (nI k) 3 = nI (k + 1 + (tr (lvS s.2.1 f) (XX s.2.1 f).1 (k + 1)).1) := by rw [an3 hks hf hk2, if_neg (by omega)]
        rw [e3] at fin ⊢
        exact fin
end IFN
