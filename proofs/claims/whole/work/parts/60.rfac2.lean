/-! factor, on the reference's side -/
theorem lt104 {c : Int32} : 104 < c ↔ 105 ≤ c := by
  rw [Int32.lt_iff_toInt_lt, Int32.le_iff_toInt_le]
  have a : (104 : Int32).toInt = 104 := by decide
  have b : (105 : Int32).toInt = 105 := by decide
  rw [a, b]
  omega
theorem rfac_open {tx : List Int32} {fm i : Nat} {C : List ES} {M : Mem} (hx : tx.length ≤ 100) (hi : i ≤ tx.length) (h : RS2 M tx fm i C []) (ho : OC C []) (hc : sg tx i = 40 ∨ sg tx i = 33) :
    if 8 ≤ deepC C then (∃ M', f_Md_factor M = some (0, M') ∧ M'.1 208 6 = nI i ∧ QW M M')
    else if sg tx i = 33 ∧ (layC C).length = 30 then (∃ M', f_Md_factor M = some (0, M') ∧ M'.1 208 6 = nI i ∧ QW M M')
    else (∃ M', f_Md_factor M = some (1, M') ∧ M'.1 208 15 = 0 ∧ RS2 M' tx fm (i + 1) ((sg tx i, []) :: C) [] ∧ QP fm M M') := by
  have hne : sg tx i ≠ 0 := by rcases hc with q | q <;> rw [q] <;> decide
  have eh : hs tx i = sg tx i := if_pos (sg_lt hne)
  obtain ⟨o1, o2, o3, -⟩ := ho
  rw [List.append_nil] at o2
  have q0 : QP fm M (mset M 208 15 0) := QP.s (by omega)
  have e22 : f_Md_factor M = f_Md_factor_b22 (sg tx i) (mset M 208 15 0) := by
    rw [f_Md_factor, here_ok h.1 h.2.1 hi hx, bd_s, isB0, gd_t, bm_e, eh]
    rcases hc with q | q
    · rw [if_pos q]
    · rw [if_neg (show ¬ sg tx i = 40 by rw [q]; decide), if_pos q]
  have h2 : RS2 (mset M 208 15 0) tx fm i C [] := h.whole
  have h15 : (mset M 208 15 0).1 208 15 = 0 := by simp [ms1]
  rw [e22]
  generalize mset M 208 15 0 = M2 at *
  obtain ⟨h1, h6, h7, h8, h9, hcn, h10, h12, hsg, hst, h14, hwa⟩ := id h2
  rw [List.append_nil] at hcn
  have hlen := len_C (C := C)
  have hle := lay_le o1
  rw [f_Md_factor_b22, h10]
  by_cases c8 : 8 ≤ deepC C
  · rw [if_pos c8, if_pos (by rw [show deepC C = 8 by omega]; rfl), isB0, gd_t]
    exact ⟨M2, rfl, h6, q0.w⟩
  have n8 : ¬ nI (deepC C) = 8 := fun q => by
    have := (nI_eq (by omega) (by omega)).mp (q.trans (show (8 : Int32) = nI 8 from rfl))
    omega
  rw [if_neg c8, if_neg n8, hcn]
  by_cases c30 : sg tx i = 33 ∧ (layC C).length = 30
  · rw [if_pos c30, if_pos c30.1, if_pos (by rw [c30.2]; rfl), isB0, gd_t]
    exact ⟨M2, rfl, h6, q0.w⟩
  rw [if_neg c30]
  have e48 : (if sg tx i = 33 then (if nI (layC C).length = 30 then gd (isB 0) (some ((0 : Int32), M2)) else f_Md_factor_b48 (sg tx i) M2) else f_Md_factor_b48 (sg tx i) M2) = f_Md_factor_b48 (sg tx i) M2 := by
    split
    · rename_i q
      rw [if_neg (fun w => c30 ⟨q, (nI_eq (by omega) (by omega)).mp (w.trans (show (30 : Int32) = nI 30 from rfl))⟩)]
    · rfl
  rw [e48, f_Md_factor_b48, h14, gd_of (inbT (by omega) (by omega)), bm_e, ixN (by omega)]
  have x14 : (mset M2 214 C.length (sg tx i)).1 208 14 = nI C.length := by rw [mset_ne (by omega)]; exact h14
  have x10 : (mset (mset M2 214 C.length (sg tx i)) 208 14 (nI (C.length + 1))).1 208 10 = nI (deepC C) := by simp [ms1, h10]
  have x9 : (mset (mset (mset M2 214 C.length (sg tx i)) 208 14 (nI (C.length + 1))) 208 10 (nI (deepC C + 1))).1 208 9 = nI (layC C).length := by simp [ms1, hcn]
  rw [x14, nI_s, bm_e, x10, nI_s, bm_e, x9]
  have ul : (layC ((sg tx i, []) :: C)).length = (layC C).length + (if sg tx i = 33 then 1 else 0) := by
    rw [layC, opn, List.length_append]
    rcases hc with q | q
    · rw [if_pos q, if_neg (show ¬ sg tx i = 33 by rw [q]; decide)]; rfl
    · rw [if_neg (show ¬ sg tx i = 40 by rw [q]; decide), if_pos q]; rfl
  have e94 : ∀ t0 : Nat, t0 = (if sg tx i = 33 then 1 else 0) → ∃ M', f_Md_factor_b94 (nI t0) (nI (layC C).length) (mset (mset (mset M2 214 C.length (sg tx i)) 208 14 (nI (C.length + 1))) 208 10 (nI (deepC C + 1))) = some (1, M') ∧ M'.1 208 15 = 0 ∧ RS2 M' tx fm (i + 1) ((sg tx i, []) :: C) [] ∧ QP fm M M' := by
    intro t0 ht0
    have x6 : (mset (mset (mset (mset M2 214 C.length (sg tx i)) 208 14 (nI (C.length + 1))) 208 10 (nI (deepC C + 1))) 208 9 (nI ((layC C).length + t0))).1 208 6 = nI i := by simp [ms1, h6]
    rw [f_Md_factor_b94, nI_add, bm_e, x6, nI_s, bm_e, isB1, gd_t]
    have qq : QP fm M2 (mset (mset (mset (mset (mset M2 214 C.length (sg tx i)) 208 14 (nI (C.length + 1))) 208 10 (nI (deepC C + 1))) 208 9 (nI ((layC C).length + t0))) 208 6 (nI (i + 1))) := ((((QP.a (Or.inr rfl)).tr (QP.s (by omega))).tr (QP.s (by omega))).tr (QP.s (by omega))).tr (QP.s (by omega))
    refine ⟨_, rfl, by simp [ms1, h15], ⟨h1.q qq, by simp [ms1], by simp [ms1, h7], ?_, fun k hk => ?_, ?_, ?_, ?_, ?_, fun q => absurd rfl q, by simp [ms1], ⟨by simp [ms1], hwa.lt (fun j hj => ?_)⟩⟩, q0.tr qq⟩
    · rw [lay0, List.append_nil]; simp [ms1]; rw [h8]; simp
    · rw [lay0, List.append_nil] at hk ⊢
      have := h9 k hk
      simpa [ms1] using this
    · rw [List.append_nil, ul, ← ht0]; simp [ms1]
    · rw [deepC, if_pos hc]; simp [ms1]
    · rw [nseg, if_pos hc]; simp [ms1]; rw [h12]; simp
    · refine ⟨fun q => absurd hc q, hsg.lt (fun j _ => by simp [ms1])⟩
    · have : j ≠ C.length := by omega
      simp [ms1, this]
  by_cases c33 : sg tx i = 33
  · rw [if_pos c33] at e94 ⊢
    exact e94 1 rfl
  · rw [if_neg c33] at e94 ⊢
    exact e94 0 rfl
theorem rfac_leaf {tx : List Int32} {fm i : Nat} {C : List ES} {M : Mem} (hx : tx.length ≤ 100) (hfm : fm ≤ 5) (hi : i ≤ tx.length) (h : RS2 M tx fm i C []) (ho : OC C []) (hc : ¬ (sg tx i = 40 ∨ sg tx i = 33)) :
    (pLeaf tx fm i (layC C) = (false, i, layC C) ∧ ∃ M', f_Md_factor M = some (0, M') ∧ M'.1 208 6 = nI i ∧ QW M M') ∨ (∃ v : Int32 × Nat, ∃ kd, pLeaf tx fm i (layC C) = (true, v.2, layC C ++ [(kd, v.1)]) ∧ LfO M tx fm C v kd (f_Md_factor M)) := by
  have q0 : QP fm M (mset M 208 15 0) := QP.s (by omega)
  have h2 : RS2 (mset M 208 15 0) tx fm i C [] := h.whole
  obtain ⟨o1, o2, o3, -⟩ := id ho
  rw [List.append_nil] at o2
  have f40 : ¬ hs tx i = 40 := fun q => hc (Or.inl ((hs_eq (by decide) (by decide)).mp q))
  have f33 : ¬ hs tx i = 33 := fun q => hc (Or.inr ((hs_eq (by decide) (by decide)).mp q))
  rw [f_Md_factor, here_ok h.1 h.2.1 hi hx, bd_s, isB0, gd_t, bm_e, if_neg f40, if_neg f33]
  generalize mset M 208 15 0 = M2 at *
  have h7 := h2.2.2.1
  have hcn := h2.2.2.2.2.2.1
  rw [List.append_nil] at hcn
  rw [in_ok, bd_s, h7]
  have no : pLeaf tx fm i (layC C) = (false, i, layC C) → ∃ o : Option (Int32 × Mem), o = some (0, M2) ∧ ((pLeaf tx fm i (layC C) = (false, i, layC C) ∧ ∃ M', o = some (0, M') ∧ M'.1 208 6 = nI i ∧ QW M M') ∨ (∃ v : Int32 × Nat, ∃ kd, pLeaf tx fm i (layC C) = (true, v.2, layC C ++ [(kd, v.1)]) ∧ LfO M tx fm C v kd o)) := fun q => ⟨_, rfl, Or.inl ⟨q, M2, rfl, h2.2.1, q0.w⟩⟩
  by_cases ci : i < tx.length
  · have eh : hs tx i = sg tx i := if_pos ci
    rw [eh]
    generalize hcc : sg tx i = c at *
    -- x2: a letter of a cell; t0: a formula's name
    have e141 : (if c < 65 then f_Md_factor_b140 c (if c < 97 then 0 else if 104 < c then 0 else 1) M2 else if 65 + nI fm ≤ c then f_Md_factor_b140 c (if c < 97 then 0 else if 104 < c then 0 else 1) M2 else f_Md_factor_b141 c (if c < 97 then 0 else if 104 < c then 0 else 1) 1 M2) = f_Md_factor_b141 c (if ¬ c < 97 ∧ ¬ 105 ≤ c then 1 else 0) (if ¬ c < 65 ∧ ¬ 65 + nI fm ≤ c then 1 else 0) M2 := by
      have ex : (if c < 97 then (0 : Int32) else if 104 < c then 0 else 1) = if ¬ c < 97 ∧ ¬ 105 ≤ c then 1 else 0 := by
        by_cases z1 : c < 97
        · rw [if_pos z1, if_neg (fun q => q.1 z1)]
        · rw [if_neg z1]
          by_cases z2 : 104 < c
          · rw [if_pos z2, if_neg (fun q => q.2 (lt104.mp z2))]
          · rw [if_neg z2, if_pos ⟨z1, fun q => z2 (lt104.mpr q)⟩]
      rw [ex]
      by_cases z1 : c < 65
      · rw [if_pos z1, if_neg (fun q : ¬ c < 65 ∧ ¬ 65 + nI fm ≤ c => q.1 z1), f_Md_factor_b140]
      · rw [if_neg z1]
        by_cases z2 : 65 + nI fm ≤ c
        · rw [if_pos z2, if_neg (fun q : ¬ c < 65 ∧ ¬ 65 + nI fm ≤ c => q.2 z2), f_Md_factor_b140]
        · rw [if_neg z2, if_pos (show ¬ c < 65 ∧ ¬ 65 + nI fm ≤ c from ⟨z1, z2⟩)]
    rw [e141]
    -- accepted signs
    have acc : (dig c ∨ (¬ c < 97 ∧ ¬ 105 ≤ c) ∨ (¬ c < 65 ∧ ¬ 65 + nI fm ≤ c)) → (pLeaf tx fm i (layC C) = (false, i, layC C) ∧ ∃ M', f_Md_factor_b161 c (if ¬ c < 97 ∧ ¬ 105 ≤ c then 1 else 0) M2 = some (0, M') ∧ M'.1 208 6 = nI i ∧ QW M M') ∨ (∃ v : Int32 × Nat, ∃ kd, pLeaf tx fm i (layC C) = (true, v.2, layC C ++ [(kd, v.1)]) ∧ LfO M tx fm C v kd (f_Md_factor_b161 c (if ¬ c < 97 ∧ ¬ 105 ≤ c then 1 else 0) M2)) := by
      intro ha
      rw [f_Md_factor_b161, hcn, pLeaf, hcc]
      by_cases c30 : (layC C).length = 30
      · rw [if_pos c30, isB0, gd_t, if_pos (show nI (layC C).length = 30 by rw [c30]; rfl)]
        exact Or.inl ⟨rfl, M2, rfl, h2.2.1, q0.w⟩
      · have l30 : (layC C).length < 30 := by omega
        have n30 : ¬ nI (layC C).length = 30 := fun q => c30 ((nI_eq (by omega) (by omega)).mp (q.trans (show (30 : Int32) = nI 30 from rfl)))
        rw [if_neg n30, if_neg c30, isB1, gd_t, bm_e, in_dig, bd_s]
        have h3 : RS2 (mset M2 208 15 1) tx fm i C [] := h2.whole
        have q1 : QP fm M (mset M2 208 15 1) := q0.tr (QP.s (by omega))
        have h15 : (mset M2 208 15 1).1 208 15 = 1 := by simp [ms1]
        generalize mset M2 208 15 1 = M3 at *
        by_cases cd : dig c
        · rw [if_pos cd, if_pos cd, if_neg (show ¬ (1 : Int32) = 0 by decide)]
          refine Or.inr ⟨pNum tx 3 0 i, 0, rfl, ?_⟩
          obtain ⟨z, hz, hz10⟩ := dig_k cd
          have ez : c - 48 = nI z := by rw [hz, show (48 : Int32) = nI 48 from rfl, nI_sb (by omega)]; congr 1; omega
          have ep : pNum tx 3 0 i = pNum tx 2 (nI z) (i + 1) := by
            rw [pNum, hcc, if_pos cd, if_pos (Or.inl rfl), show (10 : Int32) * 0 + c - 48 = c - 48 by grind, ez]
          rw [f_Md_number, here_ok h3.1 h3.2.1 hi hx, bd_s, eh, ez, bi_e, h3.2.1, bi_e, bm_e, nI_s, ep]
          have r := rnum hx hfm ho l30 (s := i) 2 FU z (i + 1) (mset M3 208 6 (nI (i + 1))) (Nat.le_refl _) (by rw [FU_e]; omega) rfl (by omega) ci h3.at (by simp [ms1, h15]) (by simpa using hz10)
          rcases LfO.of (q1.tr (QP.s (by omega))) r with ⟨M', a, b, cc, d⟩ | ⟨e, M', a, b, d⟩
          · rw [a, bd_s, isB1, gd_t]
            exact Or.inl ⟨M', rfl, b, cc, d⟩
          · rw [a, bd_s, isB0, gd_t]
            exact Or.inr ⟨e, M', rfl, b, d⟩
        · rw [if_neg cd, if_neg cd, if_pos rfl, bm_e, h3.2.1, nI_s]
          have go : ∀ kd v, LfO M tx fm C (v, i + 1) kd (bd (f_Md_leaf kd v (mset M3 208 6 (nI (i + 1)))) fun r1 M1 => gd (isB r1) (some (r1, M1))) := by
            intro kd v
            obtain ⟨M4, u1, u2, u3, u4⟩ := rleaf (kd := kd) (v := v) hfm (h3.at (j := i + 1)) ho l30
            rw [u1, bd_s, isB1, gd_t]
            exact Or.inl ⟨M4, rfl, u2, by rw [u3]; simp [ms1, h15], (q1.tr (QP.s (by omega))).tr u4⟩
          by_cases cl : ¬ c < 97 ∧ ¬ 105 ≤ c
          · rw [if_pos cl, if_pos cl, if_neg (show ¬ (1 : Int32) = 0 by decide), f_Md_factor_b213, if_neg (show ¬ (1 : Int32) = 0 by decide), f_Md_factor_b228]
            exact Or.inr ⟨(c - 97, i + 1), 1, rfl, go 1 (c - 97)⟩
          · have cf : ¬ c < 65 ∧ ¬ 65 + nI fm ≤ c := by
              rcases ha with q | q | q
              · exact absurd q cd
              · exact absurd q cl
              · exact q
            rw [if_neg cl, if_neg cl, if_pos rfl, f_Md_factor_b213, if_pos rfl, f_Md_factor_b228, if_pos cf]
            exact Or.inr ⟨(c - 65, i + 1), 2, rfl, go 2 (c - 65)⟩
    rw [f_Md_factor_b141]
    by_cases cl : ¬ c < 97 ∧ ¬ 105 ≤ c
    · have := acc (Or.inr (Or.inl cl))
      rw [if_pos cl] at this ⊢
      rw [if_neg (show ¬ (1 : Int32) = 0 by decide)]
      exact this
    · rw [if_neg cl] at acc ⊢
      rw [if_pos rfl]
      by_cases cf : ¬ c < 65 ∧ ¬ 65 + nI fm ≤ c
      · rw [if_pos cf, if_neg (show ¬ (1 : Int32) = 0 by decide)]
        exact acc (Or.inr (Or.inr cf))
      · rw [if_neg cf, if_pos rfl, in_dig, bd_s]
        by_cases cd : dig c
        · rw [if_pos cd, if_neg (show ¬ (1 : Int32) = 0 by decide)]
          exact acc (Or.inl cd)
        · have hp : pLeaf tx fm i (layC C) = (false, i, layC C) := by
            rw [pLeaf, hcc]
            split
            · rfl
            · first
              | rfl
              | rw [if_neg cd, if_neg cl, if_neg cf]
          rw [if_neg cd, if_pos rfl, isB0, gd_t]
          exact Or.inl ⟨hp, M2, rfl, h2.2.1, q0.w⟩
  · have eh : hs tx i = -1000009 := if_neg ci
    have es : sg tx i = 0 := by simp [sg, List.getElem?_eq_none (Nat.le_of_not_lt ci)]
    have hp : pLeaf tx fm i (layC C) = (false, i, layC C) := by
      rw [pLeaf, es]
      split
      · rfl
      · rw [if_neg (fun q : dig 0 => q.1 (by decide)), if_neg (fun q : ¬ (0 : Int32) < 97 ∧ ¬ (105 : Int32) ≤ 0 => q.1 (by decide)), if_neg (fun q : ¬ (0 : Int32) < 65 ∧ ¬ 65 + nI fm ≤ 0 => q.1 (by decide))]
    rw [eh, if_pos (show (-1000009 : Int32) < 65 by decide), if_pos (show (-1000009 : Int32) < 97 by decide), f_Md_factor_b140, f_Md_factor_b141, if_pos rfl, if_pos rfl, in_dig, bd_s, if_neg (fun q : dig (-1000009) => q.1 (by decide)), if_pos rfl, isB0, gd_t]
    exact Or.inl ⟨hp, M2, rfl, h2.2.1, q0.w⟩
