/-! what is typed is read as it was meant -/
theorem sg_d {tx : List Int32} {i : Nat} : sg tx i = (tx.drop i).getD 0 0 := by simp [sg]
theorem sg_c {tx : List Int32} {i : Nat} {c : Int32} {x : List Int32} (h : tx.drop i = c :: x) : sg tx i = c ∧ tx.drop (i + 1) = x := by
  refine ⟨by rw [sg_d, h]; rfl, ?_⟩
  rw [← List.drop_drop, h]
  rfl
theorem sg_a {tx : List Int32} {i : Nat} {x y : List Int32} (h : tx.drop i = x ++ y) : tx.drop (i + x.length) = y := by
  rw [← List.drop_drop, h, List.drop_left]
theorem dg_f : ∀ h, h < 40 → h < 10 → numX (nI h) = [nI (48 + h)] ∧ dig (nI (48 + h)) ∧ (10 : Int32) * 0 + nI (48 + h) - 48 = nI h ∧ ¬ nI (48 + h) = 40 ∧ ¬ nI (48 + h) = 33 := by decide +kernel
theorem dg_g : ∀ h, h < 40 → ¬ h < 10 → numX (nI h) = [nI (48 + h / 10), nI (48 + h % 10)] ∧ (dig (nI (48 + h / 10)) ∧ dig (nI (48 + h % 10))) ∧ (¬ ((10 : Int32) * 0 + nI (48 + h / 10) - 48) ≤ 0) ∧ (10 : Int32) * (10 * 0 + nI (48 + h / 10) - 48) + nI (48 + h % 10) - 48 = nI h ∧ ¬ nI (48 + h / 10) = 40 ∧ ¬ nI (48 + h / 10) = 33 := by decide +kernel
theorem lt_f : ∀ c, c < 8 → (97 : Int32) + nI c = nI (97 + c) ∧ ¬ dig (nI (97 + c)) ∧ (¬ nI (97 + c) < 97 ∧ ¬ 105 ≤ nI (97 + c)) ∧ nI (97 + c) - 97 = nI c ∧ ¬ nI (97 + c) = 40 ∧ ¬ nI (97 + c) = 33 := by decide +kernel
theorem cp_f : ∀ c, c < 5 → (65 : Int32) + nI c = nI (65 + c) ∧ ¬ dig (nI (65 + c)) ∧ ¬ (¬ nI (65 + c) < 97 ∧ ¬ 105 ≤ nI (65 + c)) ∧ ¬ nI (65 + c) < 65 ∧ nI (65 + c) - 65 = nI c ∧ ¬ nI (65 + c) = 40 ∧ ¬ nI (65 + c) = 33 := by decide +kernel
section PA
variable {hk ho : Nat → Int32} {D fm : Nat} {tx : List Int32}
theorem fac_lf {rc : Nat → Nat → Fm → PR} {dep i : Nat} {l : Fm} (h1 : ¬ sg tx i = 40) (h2 : ¬ sg tx i = 33) : pFac rc tx fm dep i l = pLeaf tx fm i l := by
  rw [pFac, if_neg (by rintro (q | q); exact h1 q; exact h2 q)]
/-- leaves -/
theorem par_lf {rc : Nat → Nat → Fm → PR} {dep i k : Nat} {l : Fm} {rest : List Int32} (hN : HN (lev k) D fm (hk k) (ho k)) (h3 : hk k < 3) (hfm : fm ≤ 5) (ht : tx.drop i = lfX hk ho k ++ rest) (hr : ¬ dig (rest.getD 0 0)) (hl : l.length < 30) : pFac rc tx fm dep i l = (true, i + (lfX hk ho k).length, l ++ [nod hk ho k]) := by
  have hn30 : ¬ l.length = 30 := by omega
  have hnod : nod hk ho k = (hk k, ho k) := by rw [nod, if_pos h3]
  rcases HN_lf hN h3 with ⟨k0, h, h40, hv⟩ | ⟨k0, c, hc8, hv⟩ | ⟨k0, c, hck, hv⟩
  · have elf : lfX hk ho k = numX (ho k) := by rw [lfX, if_pos k0]
    rw [elf, hv] at ht ⊢
    by_cases c10 : h < 10
    · obtain ⟨a1, a2, a3, a4, a5⟩ := dg_f h h40 c10
      rw [a1] at ht ⊢
      obtain ⟨s1, s2⟩ := sg_c ht
      have s3 : ¬ dig (sg tx (i + 1)) := by rw [sg_d, s2]; exact hr
      rw [fac_lf (by rw [s1]; exact a4) (by rw [s1]; exact a5), pLeaf, if_neg hn30, if_pos (by rw [s1]; exact a2), pNum, if_pos (by rw [s1]; exact a2), if_pos (Or.inl rfl), pNum, if_neg s3, s1, a3, hnod, k0, hv]
      rfl
    · obtain ⟨a1, ⟨a2, a2'⟩, a3, a4, a5, a6⟩ := dg_g h h40 c10
      rw [a1] at ht ⊢
      obtain ⟨s1, s2⟩ := sg_c ht
      obtain ⟨s3, s4⟩ := sg_c s2
      have s5 : ¬ dig (sg tx (i + 1 + 1)) := by rw [sg_d, s4]; exact hr
      rw [fac_lf (by rw [s1]; exact a5) (by rw [s1]; exact a6), pLeaf, if_neg hn30, if_pos (by rw [s1]; exact a2), pNum, if_pos (by rw [s1]; exact a2), if_pos (Or.inl rfl), pNum, if_pos (by rw [s3]; exact a2'), s1, if_pos (Or.inr a3), pNum, if_neg s5, s3, a4, hnod, k0, hv]
      rfl
  · obtain ⟨a1, a2, a3, a4, a5, a6⟩ := lt_f c hc8
    have elf : lfX hk ho k = [nI (97 + c)] := by rw [lfX, if_neg (by rw [k0]; decide), if_pos k0, hv, a1]
    rw [elf] at ht ⊢
    obtain ⟨s1, s2⟩ := sg_c ht
    rw [fac_lf (by rw [s1]; exact a5) (by rw [s1]; exact a6), pLeaf, if_neg hn30, if_neg (by rw [s1]; exact a2), if_pos (by rw [s1]; exact a3), s1, a4, hnod, k0, hv]
    rfl
  · obtain ⟨a1, a2, a3, a4, a5, a6, a7⟩ := cp_f c (by omega)
    have elf : lfX hk ho k = [nI (65 + c)] := by rw [lfX, if_neg (by rw [k0]; decide), if_neg (by rw [k0]; decide), hv, a1]
    rw [elf] at ht ⊢
    obtain ⟨s1, s2⟩ := sg_c ht
    have hcap : ¬ nI (65 + c) < 65 ∧ ¬ 65 + nI fm ≤ nI (65 + c) := ⟨a4, by rw [show (65 : Int32) = nI 65 from rfl, nI_add]; exact nI_ge (by omega) (by omega)⟩
    rw [fac_lf (by rw [s1]; exact a6) (by rw [s1]; exact a7), pLeaf, if_neg hn30, if_neg (by rw [s1]; exact a2), if_neg (by rw [s1]; exact a3), if_pos (by rw [s1]; exact hcap), s1, a5, hnod, k0, hv]
    rfl
theorem proL_st {rc : Nat → Nat → Fm → PR} {dep s n i : Nat} {l : Fm} (h : ¬ sg tx i = 42) : pProL rc tx fm dep s n (true, i, l) = (true, i, l) := by
  cases n with
  | zero => rfl
  | succ n => rw [pProL, if_neg (by intro h; cases h), if_neg h]
theorem sumL_st {rc : Nat → Nat → Fm → PR} {dep s n i : Nat} {l : Fm} (h : ¬ (sg tx i = 43 ∨ sg tx i = 45)) : pSumL rc tx fm dep s n (true, i, l) = (true, i, l) := by
  cases n with
  | zero => rfl
  | succ n => rw [pSumL, if_neg (by intro h; cases h), if_neg h]
/-- two parts with their operation -/
theorem par_op {rc : Nat → Nat → Fm → PR} {dep i i1 i2 : Nat} {l TL TR : Fm} {op : Int32} {kd : Int32} (hop : op = opc kd) (hkd : kd = 4 ∨ kd = 5 ∨ kd = 6) (hL : pFac rc tx fm dep i l = (true, i1, l ++ TL)) (h1 : sg tx i1 = op) (hlen : (l ++ TL).length < 30) (hR : pFac rc tx fm dep (i1 + 1) (l ++ (kd, 0) :: TL) = (true, i2, (l ++ (kd, 0) :: TL) ++ TR)) (h2 : sg tx i2 = 41) :
    pSum rc tx fm dep i l = (true, i2, l ++ (kd, 0) :: (TL ++ TR)) := by
  have hn30 : ¬ (l ++ TL).length = 30 := by omega
  have h42 : ¬ sg tx i2 = 42 := by rw [h2]; decide
  have h435 : ¬ (sg tx i2 = 43 ∨ sg tx i2 = 45) := by rw [h2]; decide
  have happ : (l ++ (kd, 0) :: TL) ++ TR = l ++ (kd, 0) :: (TL ++ TR) := by simp
  rw [pSum, pPro, hL]
  rcases hkd with q | q | q
  · subst q
    have ho : op = 43 := by rw [hop, opc, if_pos rfl]
    rw [proL_st (by rw [h1, ho]; decide), pSumL, if_neg (by intro h; cases h), if_pos (Or.inl (by rw [h1, ho])), if_neg hn30, if_pos (by rw [h1, ho]), ins_at, pPro, hR, proL_st h42, sumL_st h435, happ]
  · subst q
    have ho : op = 45 := by rw [hop, opc, if_neg (by decide), if_pos rfl]
    rw [proL_st (by rw [h1, ho]; decide), pSumL, if_neg (by intro h; cases h), if_pos (Or.inr (by rw [h1, ho])), if_neg hn30, if_neg (by rw [h1, ho]; decide), ins_at, pPro, hR, proL_st h42, sumL_st h435, happ]
  · subst q
    have ho : op = 42 := by rw [hop, opc, if_neg (by decide), if_neg (by decide)]
    rw [pProL, if_neg (by intro h; cases h), if_pos (by rw [h1, ho]), if_neg hn30, ins_at, hR, proL_st h42, sumL_st h435, happ]
theorem par (hH : HPf hk ho D fm) (hD : D ≤ 3) (hfm : fm ≤ 5) : ∀ (d k : Nat), VD D d k → ∀ (m dep i : Nat) (l : Fm) (rest : List Int32), d ≤ m → dep + d ≤ 8 → tx.drop i = hX hk ho d k ++ rest → ¬ dig (rest.getD 0 0) → l.length + (hT hk ho d k).length ≤ 30 → pFac (pNest tx fm m) tx fm dep i l = (true, i + (hX hk ho d k).length, l ++ hT hk ho d k)
  | 0, k, hV, m, dep, i, l, rest, hm, hdep, ht, hr, hl => by
    have h3 : hk k < 3 := by
      by_cases c : hk k < 3
      · exact c
      · have := (HN_in (hH k hV.1) c).1
        have := hV.2
        omega
    rw [hT_0 h3, hX_0 h3] at *
    exact par_lf (hH k hV.1) h3 hfm ht hr (by rw [List.length_singleton] at hl; omega)
  | d + 1, k, hV, m, dep, i, l, rest, hm, hdep, ht, hr, hl => by
    by_cases h3 : hk k < 3
    · rw [hT_0 h3, hX_0 h3] at *
      exact par_lf (hH k hV.1) h3 hfm ht hr (by rw [List.length_singleton] at hl; omega)
    · obtain ⟨d', hd', vl, vr⟩ := VD_s hH hD hV h3
      have e : d' = d := by omega
      subst e
      obtain ⟨m, rfl⟩ : ∃ m', m = m' + 1 := ⟨m - 1, by omega⟩
      have hdep8 : ¬ 8 ≤ dep := by omega
      by_cases h33 : hk k = 3
      · have eX : hX hk ho (d' + 1) k = 33 :: hX hk ho d' (2 * k + 1) := by rw [hX, if_neg h3, if_pos h33]
        have eT : hT hk ho (d' + 1) k = nod hk ho k :: hT hk ho d' (2 * k + 1) := by rw [hT, if_neg h3, if_pos h33]
        have enod : nod hk ho k = (3, 0) := by rw [nod, if_neg h3, h33]
        rw [eX] at ht ⊢
        rw [eT, enod] at hl ⊢
        rw [List.length_cons] at hl
        obtain ⟨s1, s2⟩ := sg_c ht
        have hT1 := (hT_len (hk := hk) (ho := ho) d' (2 * k + 1)).1
        rw [pFac, if_pos (Or.inr s1), if_neg hdep8, pNest, if_neg (by rw [s1]; decide), if_neg (by omega), if_pos s1, par hH hD hfm d' (2 * k + 1) vl m (dep + 1) (i + 1) (l ++ [(3, 0)]) rest (by omega) (by omega) s2 hr (by rw [List.length_append, List.length_singleton]; omega), List.length_cons]
        simp
        omega
      · have eX : hX hk ho (d' + 1) k = 40 :: (hX hk ho d' (2 * k + 1) ++ opc (hk k) :: (hX hk ho d' (2 * k + 2) ++ [41])) := by rw [hX, if_neg h3, if_neg h33]
        have eT : hT hk ho (d' + 1) k = nod hk ho k :: (hT hk ho d' (2 * k + 1) ++ hT hk ho d' (2 * k + 2)) := by rw [hT, if_neg h3, if_neg h33]
        have enod : nod hk ho k = (hk k, 0) := by rw [nod, if_neg h3]
        have hkd : hk k = 4 ∨ hk k = 5 ∨ hk k = 6 := by
          rcases (HN_in (hH k hV.1) h3).2.1 with q | q
          · exact absurd q h33
          · exact q
        have hdop : ¬ dig (opc (hk k)) := by
          rcases hkd with q | q | q <;> rw [q] <;> decide
        rw [eX] at ht ⊢
        rw [eT, enod] at hl ⊢
        rw [List.length_cons, List.length_append] at hl
        rw [List.cons_append, List.append_assoc, List.cons_append, List.append_assoc, List.singleton_append] at ht
        obtain ⟨s1, s2⟩ := sg_c ht
        have s3 := sg_a s2
        obtain ⟨s4, s5⟩ := sg_c s3
        have s6 := sg_a s5
        obtain ⟨s7, s8⟩ := sg_c s6
        have hT1 := (hT_len (hk := hk) (ho := ho) d' (2 * k + 1)).1
        have hT2 := (hT_len (hk := hk) (ho := ho) d' (2 * k + 2)).1
        have pL := par hH hD hfm d' (2 * k + 1) vl m (dep + 1) (i + 1) l _ (by omega) (by omega) s2 hdop (by omega)
        have pR := par hH hD hfm d' (2 * k + 2) vr m (dep + 1) (i + 1 + (hX hk ho d' (2 * k + 1)).length + 1) (l ++ (hk k, 0) :: hT hk ho d' (2 * k + 1)) _ (by omega) (by omega) s5 (by show ¬ dig 41; decide) (by rw [List.length_append, List.length_cons]; omega)
        have pS := par_op (kd := hk k) rfl hkd pL s4 (by rw [List.length_append]; omega) pR s7
        rw [pFac, if_pos (Or.inl s1), if_neg hdep8, pNest, if_pos s1, pS, if_neg (by intro h; cases h), if_pos s7]
        simp only [List.length_cons, List.length_append, List.length_nil]
        simp
        omega
/-- a whole formula, up to its end -/
theorem par_top (hH : HPf hk ho D fm) (hD : D ≤ 3) (hfm : fm ≤ 5) {i : Nat} {rest : List Int32} (ht : tx.drop i = hX hk ho D 0 ++ rest) (hr : rest.getD 0 0 = 59 ∨ rest.getD 0 0 = 0) : pTop tx fm i = (true, i + (hX hk ho D 0).length, hT hk ho D 0) ∧ sg tx (i + (hX hk ho D 0).length) = rest.getD 0 0 := by
  have hs : sg tx (i + (hX hk ho D 0).length) = rest.getD 0 0 := by rw [sg_d, sg_a ht]
  have hd : ¬ dig (rest.getD 0 0) := by rcases hr with q | q <;> rw [q] <;> decide
  have hlen := (hT_len (hk := hk) (ho := ho) D 0).2
  have hp3 : 2 ^ D ≤ 2 ^ 3 := Nat.pow_le_pow_right (by omega) hD
  have p := par (tx := tx) hH hD hfm D 0 ⟨by omega, by show D ≤ D + 0; omega⟩ 60 0 i [] rest (by omega) (by omega) ht hd (by rw [List.length_nil]; omega)
  rw [List.nil_append] at p
  refine ⟨?_, hs⟩
  rw [pTop, pSum, pPro, p, proL_st (by rw [hs]; rcases hr with q | q <;> rw [q] <;> decide), sumL_st (by rw [hs]; rcases hr with q | q <;> rw [q] <;> decide)]
/-- what is typed is a whole formula -/
theorem hT_wf (hH : HPf hk ho D fm) (hD : D ≤ 3) : ∀ (d k : Nat), VD D d k → wf (hT hk ho d k) ∧ ∀ q ∈ hT hk ho d k, okN fm q := by
  have lf : ∀ k, k < 15 → hk k < 3 → wf [nod hk ho k] ∧ ∀ q ∈ [nod hk ho k], okN fm q := by
    intro k hk15 h3
    have hnod : nod hk ho k = (hk k, ho k) := by rw [nod, if_pos h3]
    rw [hnod]
    rcases HN_lf (hH k hk15) h3 with ⟨k0, h, h40, hv⟩ | ⟨k0, c, hc8, hv⟩ | ⟨k0, c, hck, hv⟩
    · refine ⟨wf_leaf (by show ar (hk k) = 0; rw [k0]; decide), fun q hq => ?_⟩
      rw [List.mem_singleton.mp hq]
      exact Or.inl ⟨k0, by show 0 ≤ ho k; rw [hv]; exact nI_pos' (by omega), by show ho k < 1000; rw [hv]; exact nI_lt (b := 1000) (by omega) (by omega)⟩
    · refine ⟨wf_leaf (by show ar (hk k) = 0; rw [k0]; decide), fun q hq => ?_⟩
      rw [List.mem_singleton.mp hq]
      exact Or.inr (Or.inl ⟨k0, c, hc8, hv⟩)
    · refine ⟨wf_leaf (by show ar (hk k) = 0; rw [k0]; decide), fun q hq => ?_⟩
      rw [List.mem_singleton.mp hq]
      exact Or.inr (Or.inr (Or.inl ⟨k0, c, hck, hv⟩))
  intro d
  induction d with
  | zero =>
    intro k hV
    have h3 : hk k < 3 := by
      by_cases c : hk k < 3
      · exact c
      · have := (HN_in (hH k hV.1) c).1
        have := hV.2
        omega
    rw [hT_0 h3]
    exact lf k hV.1 h3
  | succ d ih =>
    intro k hV
    by_cases h3 : hk k < 3
    · rw [hT_0 h3]
      exact lf k hV.1 h3
    · obtain ⟨d', hd', vl, vr⟩ := VD_s hH hD hV h3
      have e : d' = d := by omega
      subst e
      have hop := (HN_in (hH k hV.1) h3).2.1
      have enod : nod hk ho k = (hk k, 0) := by rw [nod, if_neg h3]
      have hokn : okN fm (hk k, 0) := Or.inr (Or.inr (Or.inr ⟨hop, rfl⟩))
      obtain ⟨a1, a2⟩ := ih (2 * k + 1) vl
      obtain ⟨b1, b2⟩ := ih (2 * k + 2) vr
      by_cases h33 : hk k = 3
      · have eT : hT hk ho (d' + 1) k = nod hk ho k :: hT hk ho d' (2 * k + 1) := by rw [hT, if_neg h3, if_pos h33]
        rw [eT, enod]
        refine ⟨wf_un (by show ar (hk k) = 1; rw [h33]; decide) a1, fun q hq => ?_⟩
        rcases List.mem_cons.mp hq with w | w
        · rw [w]; exact hokn
        · exact a2 q w
      · have eT : hT hk ho (d' + 1) k = nod hk ho k :: (hT hk ho d' (2 * k + 1) ++ hT hk ho d' (2 * k + 2)) := by rw [hT, if_neg h3, if_neg h33]
        have har : ar (hk k) = 2 := by
          rcases hop with q | q | q | q
          · exact absurd q h33
          all_goals rw [q]; decide
        rw [eT, enod]
        refine ⟨wf_bin har a1 b1, fun q hq => ?_⟩
        rcases List.mem_cons.mp hq with w | w
        · rw [w]; exact hokn
        · rcases List.mem_append.mp w with w | w
          · exact a2 q w
          · exact b2 q w
/-- the first character of a formula is no new capital -/
theorem hX_first (hH : HPf hk ho D fm) (hfm : fm ≤ 4) : ∃ c x, hX hk ho D 0 = c :: x ∧ ¬ c = 65 + nI fm := by
  have e65 : (65 : Int32) + nI fm = nI (65 + fm) := by rw [show (65 : Int32) = nI 65 from rfl, nI_add]
  have lf : hk 0 < 3 → ∃ c x, lfX hk ho 0 = c :: x ∧ ¬ c = 65 + nI fm := by
    intro h3
    rcases HN_lf (hH 0 (by omega)) h3 with ⟨k0, h, h40, hv⟩ | ⟨k0, c, hc8, hv⟩ | ⟨k0, c, hck, hv⟩
    · have elf : lfX hk ho 0 = numX (nI h) := by rw [lfX, if_pos k0, hv]
      by_cases c10 : h < 10
      · obtain ⟨a1, -⟩ := dg_f h h40 c10
        exact ⟨nI (48 + h), [], by rw [elf, a1], by rw [e65]; exact fun q => by have := (nI_eq (by omega) (by omega)).mp q; omega⟩
      · obtain ⟨a1, -⟩ := dg_g h h40 c10
        exact ⟨nI (48 + h / 10), [nI (48 + h % 10)], by rw [elf, a1], by rw [e65]; exact fun q => by have := (nI_eq (by omega) (by omega)).mp q; omega⟩
    · obtain ⟨a1, -⟩ := lt_f c hc8
      exact ⟨nI (97 + c), [], by rw [lfX, if_neg (by rw [k0]; decide), if_pos k0, hv, a1], by rw [e65]; exact fun q => by have := (nI_eq (by omega) (by omega)).mp q; omega⟩
    · obtain ⟨a1, -⟩ := cp_f c (by omega)
      exact ⟨nI (65 + c), [], by rw [lfX, if_neg (by rw [k0]; decide), if_neg (by rw [k0]; decide), hv, a1], by rw [e65]; exact fun q => by have := (nI_eq (by omega) (by omega)).mp q; omega⟩
  by_cases h3 : hk 0 < 3
  · rw [hX_0 h3]
    exact lf h3
  · cases D with
    | zero =>
      have := (HN_in (hH 0 (by omega)) h3).1
      omega
    | succ D =>
      by_cases h33 : hk 0 = 3
      · exact ⟨33, _, by rw [hX, if_neg h3, if_pos h33], by rw [e65]; exact fun q => by have := (nI_eq (a := 33) (by omega) (by omega)).mp q; omega⟩
      · exact ⟨40, _, by rw [hX, if_neg h3, if_neg h33], by rw [e65]; exact fun q => by have := (nI_eq (a := 40) (by omega) (by omega)).mp q; omega⟩
end PA
