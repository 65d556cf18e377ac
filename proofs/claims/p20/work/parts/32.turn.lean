/-! turn, on the class's side -/
theorem skp_pre {X Y : Fm} (hXY : ∀ j, skp X j = some [] → skp Y j = some []) : ∀ {l1 : Fm} {m : Nat}, skp (l1 ++ X) m = some [] → skp (l1 ++ Y) m = some []
  | [], m, h => hXY m h
  | q :: l1, 0, h => by cases h
  | q :: l1, m + 1, h => skp_pre hXY (l1 := l1) (m := m + ar q.1) h
theorem skp_tree : ∀ {l r : Fm} {m : Nat}, skp l m = some r → skp (l.take (l.length - r.length)) m = some []
  | l, r, 0, h => by
    rw [skp_0] at h
    cases h
    rw [Nat.sub_self, List.take_zero]
    rfl
  | [], r, m + 1, h => by cases h
  | q :: l, r, m + 1, h => by
    have h' : skp l (m + ar q.1) = some r := h
    have hl := (skp_len h').1
    have ih := skp_tree h'
    have e : (q :: l).length - r.length = (l.length - r.length) + 1 := by simp; omega
    rw [e, List.take_succ_cons]
    exact ih
theorem skp_ap1 {A X : Fm} (hA : skp A 1 = some []) {j : Nat} : skp (A ++ X) (j + 1) = skp X j := by
  rw [Nat.add_comm]
  exact skp_app hA
theorem skp_ap0 {A X : Fm} (hA : skp A 1 = some []) : skp (A ++ X) 0 ≠ some [] := by
  rw [skp_0]
  cases A with
  | nil => cases hA
  | cons a A => intro h; cases h
theorem ar_op {k : Int32} (h : k = 4 ∨ k = 6) : ar k = 2 := by rcases h with h | h <;> rw [h] <;> decide
/-- the two parts of a node, and what is behind them -/
theorem swp_parts {l : Fm} (hw : wf l) {k : Nat} (hk : k < l.length) (ha : ar (nd l k).1 = 2) : ∃ r1 r2, skp (l.drop (k + 1)) 1 = some r1 ∧ skp r1 1 = some r2 ∧ swpAt l k = swp l (k + 1) (l.length - r1.length) (l.length - r2.length) ∧ k + 1 ≤ l.length - r1.length ∧ l.length - r1.length ≤ l.length - r2.length := by
  obtain ⟨r, hr⟩ := wf_tree hw hk
  rw [skp_drop hk, ha] at hr
  obtain ⟨r1, s1, s2⟩ := skp_add (a := 1) (b := 1) hr
  have h1 := (skp_len s1).1
  have h2 := (skp_len s2).1
  rw [List.length_drop] at h1
  refine ⟨r1, r, s1, s2, ?_, by omega, by omega⟩
  rw [swpAt, s1]
  simp only [Option.getD_some]
  rw [s2]
  rfl
theorem swp_ok {l : Fm} (hw : wf l) {k : Nat} (hk : k < l.length) (ha : ar (nd l k).1 = 2) : wf (swpAt l k) ∧ (swpAt l k).length = l.length ∧ ∀ q ∈ swpAt l k, q ∈ l := by
  obtain ⟨r1, r2, s1, s2, e, b1, b2⟩ := swp_parts hw hk ha
  have h1 := skp_len s1
  have h2 := skp_len s2
  rw [List.length_drop] at h1
  rw [e]
  refine ⟨?_, swp_len b1 b2 (by omega), fun q hq => ?_⟩
  · have d1 : l.drop (l.length - r1.length) = r1 := by
      have z := h1.2
      rw [List.drop_drop] at z
      have e9 : k + 1 + (l.length - (k + 1) - r1.length) = l.length - r1.length := by omega
      rw [e9] at z
      exact z
    have d2 : l.drop (l.length - r2.length) = r2 := by
      have z : (l.drop (l.length - r1.length)).drop (r1.length - r2.length) = r2 := by rw [d1]; exact h2.2
      rw [List.drop_drop] at z
      have e9 : l.length - r1.length + (r1.length - r2.length) = l.length - r2.length := by omega
      rw [e9] at z
      exact z
    have tA := skp_tree s1
    rw [List.length_drop] at tA
    have tB := skp_tree s2
    have eA : (l.drop (k + 1)).take (l.length - r1.length - (k + 1)) = (l.drop (k + 1)).take (l.length - (k + 1) - r1.length) := by congr 1; omega
    have eB : (l.drop (l.length - r1.length)).take (l.length - r2.length - (l.length - r1.length)) = r1.take (r1.length - r2.length) := by rw [d1]; congr 1; omega
    have el : l = l.take (k + 1) ++ ((l.drop (k + 1)).take (l.length - (k + 1) - r1.length) ++ (r1.take (r1.length - r2.length) ++ r2)) := by
      have z2 : r1.take (r1.length - r2.length) ++ r2 = r1 := by
        have := List.take_append_drop (r1.length - r2.length) r1
        rw [h2.2] at this
        exact this
      have z1 : (l.drop (k + 1)).take (l.length - (k + 1) - r1.length) ++ r1 = l.drop (k + 1) := by
        have := List.take_append_drop (l.length - (k + 1) - r1.length) (l.drop (k + 1))
        rw [h1.2] at this
        exact this
      rw [z2, z1, List.take_append_drop]
    rw [swp, eA, eB, d2]
    generalize (l.drop (k + 1)).take (l.length - (k + 1) - r1.length) = A at *
    generalize r1.take (r1.length - r2.length) = B at *
    have hw2 : skp (l.take (k + 1) ++ (A ++ (B ++ r2))) 1 = some [] := by rw [← el]; exact hw
    refine skp_pre (X := A ++ (B ++ r2)) (fun j hj => ?_) hw2
    cases j with
    | zero => exact absurd hj (skp_ap0 tA)
    | succ j =>
      rw [skp_ap1 tA] at hj
      cases j with
      | zero => exact absurd hj (skp_ap0 tB)
      | succ j =>
        rw [skp_ap1 tB] at hj
        rw [skp_ap1 tB, skp_ap1 tA]
        exact hj
  · rw [swp] at hq
    rcases List.mem_append.mp hq with w | w
    · exact List.mem_of_mem_take w
    rcases List.mem_append.mp w with w | w
    · exact List.mem_of_mem_drop (List.mem_of_mem_take w)
    rcases List.mem_append.mp w with w | w
    · exact List.mem_of_mem_drop (List.mem_of_mem_take w)
    · exact List.mem_of_mem_drop w
theorem gf_set {fs : List Fm} {f i : Nat} {l : Fm} (hf : f < fs.length) : gf (fs.set f l) i = if i = f then l else gf fs i := by
  by_cases c : i = f
  · subst c
    simp [gf, hf]
  · rw [if_neg c]
    simp [gf, List.getElem?_set_ne (Ne.symm c)]
theorem turnS_ok {st : St} (hk : OKS st.1) {f k : Nat} (hf : f < st.1.length) (hkl : k < (gf st.1 f).length) (ha : ar (nd (gf st.1 f) k).1 = 2) : OKS (turnS st f k).1 := by
  refine ⟨by simp only [turnS, List.length_set]; exact hk.1, fun i hi => ?_⟩
  simp only [turnS, List.length_set] at hi
  simp only [turnS]
  rw [gf_set hf]
  by_cases c : i = f
  · subst c
    rw [if_pos rfl]
    obtain ⟨w1, w2, w3⟩ := hk.2 i hf
    obtain ⟨s1, s2, s3⟩ := swp_ok w1 hkl ha
    exact ⟨s1, by omega, nd_mem.mpr (fun q hq => (nd_mem.mp w3) q (s3 q hq))⟩
  · rw [if_neg c]
    exact hk.2 i hi
theorem c_turn {M : Mem} {s : S3} (h : RepC M s) (hk : OKs s) (x y : Int32) : ∃ M', f_LP_turn x y M = some ((sp_turn x y s).1, M') ∧ RepC M' (sp_turn x y s).2 ∧ OffC M M' := by
  obtain ⟨-, hS, -, -, -⟩ := id h
  have hks := hk.2.2.1
  have h6 := hks.1.2
  rw [f_LP_turn, isFormula_ok hS hks, bd_s, sp_turn]
  by_cases c : isF s.2.1.1 x = true
  · rw [if_pos c, if_pos c, if_neg (by decide)]
    obtain ⟨f, rfl, hf1, hf2, hf3⟩ := isF_k c
    rw [hf3]
    have g6 : inb (nI f) 6 = true := inbT (by omega) (by omega)
    have hfm := sh27 f (by omega)
    have hF := hS.2.1 f hf1
    rw [gd_of g6]
    by_cases cy : y < 0
    · rw [has_neg cy, bd_s, if_pos rfl, if_neg (by simp [cy])]; exact ⟨M, rfl, h, OffC.rf⟩
    · obtain ⟨k, rfl, hk31⟩ := nonneg_nI cy
      rw [has_ok hfm hF hk31, bd_s, ixN hk31]
      by_cases cz : k < (gf s.2.1.1 f).length
      · rw [if_pos cz, if_neg (by decide), if_pos (by simp [cy, cz]), gd_of g6, kindOf_ok hfm hF hk31, bd_s]
        by_cases cop : (nd (gf s.2.1.1 f) k).1 = 4 ∨ (nd (gf s.2.1.1 f) k).1 = 6
        · rw [if_pos cop]
          have ha := ar_op cop
          have main : ∃ M', f_LP_turn_b55 (nI f) (nI k) M = some (nI (need0 (turnS s.2.1 f k) f), M') ∧ RepC M' (s.1, turnS s.2.1 f k, recH s.2.2 s.2.1) ∧ OffC M M' := by
            obtain ⟨M1, e1, hH, hr, hok⟩ := rec_ok hks h.2.1 h.2.2.1 hk.2.2.2.1
            obtain ⟨⟨ht, hS1, hE1, h01⟩, hC⟩ := rec_rest h hk hr
            obtain ⟨w1, w2, w3⟩ := hks.2 f hf1
            obtain ⟨r1, r2, s1, s2, esw, -, -⟩ := swp_parts w1 cz ha
            obtain ⟨M2, e2, x1, x2⟩ := exchange_ok hfm (hS1.2.1 f hf1) cz s1 s2
            have hk2 := turnS_ok hks hf1 cz ha
            rw [← esw] at x1
            have hl2 : (turnS s.2.1 f k).1.length = s.2.1.1.length := by simp [turnS]
            obtain ⟨M3, e3, y1, y2, -, -⟩ := anew_rep (M := M2) (tx := s.1) (st := turnS s.2.1 f k) (hist := recH s.2.2 s.2.1)
              ⟨by rw [x2.1 1 (fun q => by rcases q with q | q | q <;> omega)]; exact ht.1, fun i hi => by rw [x2.1 2 (fun q => by rcases q with q | q | q <;> omega)]; exact ht.2 i hi⟩
              ⟨by rw [x2.1 24 (fun q => by rcases q with q | q | q <;> omega), hl2]; exact hS1.1, fun i hi => by
                rw [hl2] at hi
                have e : gf (turnS s.2.1 f k).1 i = if i = f then swpAt (gf s.2.1.1 f) k else gf s.2.1.1 i := gf_set hf1
                rw [e]
                by_cases ci : i = f
                · subst ci; rw [if_pos rfl]; exact x1
                · rw [if_neg ci]
                  exact (hS1.2.1 i hi).off x2 (fun a ha q => by rcases ha with w | w | w <;> rcases q with q | q | q <;> omega),
                fun c hc => by rw [x2.1 _ (fun q => by rcases q with q | q | q <;> omega)]; exact hS1.2.2.1 c hc, by rw [x2.1 24 (fun q => by rcases q with q | q | q <;> omega)]; exact hS1.2.2.2⟩
              (hH.off hok x2 (fun a ha q => by rcases q with q | q | q <;> omega)) hok (h01.off x2 (fun a ha q => by have : _ ∧ _ := ha; rcases q with q | q | q <;> omega)) hk2
            rw [f_LP_turn_b55, e1, bd_s, gd_of g6, ixN hf2, e2, bd_s, e3, bd_s, gd_of g6]
            have hn := needOf0 hk2 y1.2.2.2.1 (i := f) (by rw [hl2]; exact hf1)
            rw [hn, bd_s]
            exact ⟨M3, rfl, y1, (hC.tr (OffC.of x2 (fun a ha q => by rcases q with q | q | q <;> omega))).tr y2⟩
          by_cases c4 : (nd (gf s.2.1.1 f) k).1 = 4
          · rw [if_pos c4]; exact main
          · rw [if_neg c4, if_pos (by rcases cop with q | q; exact absurd q c4; exact q)]; exact main
        · rw [if_neg cop, if_neg (fun q => cop (Or.inl q)), if_neg (fun q => cop (Or.inr q))]
          exact ⟨M, rfl, h, OffC.rf⟩
      · rw [if_neg cz, if_pos rfl, if_neg (by simp [cz])]; exact ⟨M, rfl, h, OffC.rf⟩
  · rw [if_neg c, if_neg c, if_pos rfl]; exact ⟨M, rfl, h, OffC.rf⟩
