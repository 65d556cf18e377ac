/-! one formula read by the reference -/
def FmO (tx : List Int32) (fm : Nat) (M : Mem) (r : PR) (o : Option (Int32 × Mem)) : Prop :=
  if r.1 = true then (∃ M', o = some (1, mset M' 212 (10 + fm) (nI r.2.2.length)) ∧ M'.1 208 6 = nI r.2.1 ∧ FR M' fm r.2.2 ∧ QP fm M M') ∨ (dig (sg tx r.2.1) ∧ ∃ M', o = some (0, M') ∧ M'.1 208 6 = nI r.2.1 ∧ QW M M')
  else ∃ M', o = some (0, M') ∧ M'.1 208 6 = nI r.2.1 ∧ QW M M'
theorem fread_ok {tx : List Int32} {fm i : Nat} {M : Mem} (hx : tx.length ≤ 100) (hfm : fm ≤ 5) (hi : i ≤ tx.length) (ht : TX M tx) (h6 : M.1 208 6 = nI i) (h7 : M.1 208 7 = nI fm) : FmO tx fm M (pTop tx fm i) (f_Md_formulaRead M) := by
  have q5 : QP fm M (mset (mset (mset (mset (mset M 208 8 0) 208 9 0) 208 10 0) 208 12 0) 208 14 0) := ((((QP.s (by omega)).tr (QP.s (by omega))).tr (QP.s (by omega))).tr (QP.s (by omega))).tr (QP.s (by omega))
  have hS : RS2 (mset (mset (mset (mset (mset M 208 8 0) 208 9 0) 208 10 0) 208 12 0) 208 14 0) tx fm i [] [] :=
    ⟨ht.q q5, by simp [ms1, h6], by simp [ms1, h7], by simp [ms1, lay0, nI_0], fun k hk => absurd hk (by simp [lay0]), by simp [ms1, layC, nI_0], by simp [ms1, deepC, nI_0], by simp [ms1, nseg, nI_0], trivial, fun q => absurd rfl q, by simp [ms1, nI_0], trivial⟩
  rw [f_Md_formulaRead]
  simp only [bm_e]
  generalize mset (mset (mset (mset (mset M 208 8 0) 208 9 0) 208 10 0) 208 12 0) 208 14 0 = M5 at *
  have hO : OC [] [] := ⟨trivial, by simp [layC], by simp [deepC], fun q => absurd rfl q⟩
  have ss := sim_sum hx hfm (nest_gd hfm 60) (sim_nest hx hfm 60) (C := []) (by omega) (show tbd [] < 1 from Nat.zero_lt_one) hi hS hO
  have g : Gd tx fm i [] (pTop tx fm i) := top_gd hfm hi
  have sp : (pTop tx fm i).1 = true → ¬ isBin (sg tx (pTop tx fm i).2.1) := sum_stop (nest_gd hfm 60) hfm hi (by simp)
  have ss' : SO tx fm i M5 (pTop tx fm i) (GK 1 tx fm [] (pTop tx fm i)) := ss
  generalize pTop tx fm i = r at *
  have g1 := g.1
  have g2 := g.2.1
  have fl : FL M5 r.2.1 (r.2.1 - i + 1) → ∃ M', f_Md_formulaRead_b27 FU 1 M5 = some (0, M') ∧ M'.1 208 6 = nI r.2.1 ∧ QW M M' := fun ⟨c, M', a, b, d, e⟩ => by
    obtain ⟨m, hm⟩ : ∃ m, FU = m + c := ⟨FU - c, by rw [FU_e]; omega⟩
    rw [hm]
    exact ⟨M', b m, d, q5.w.tr e⟩
  rw [FmO]
  rw [SO] at ss'
  by_cases c : r.1 = true
  · rw [if_pos c] at ss' ⊢
    rcases ss' with ⟨k, M2, b1, b2, b3, T, C2, T2, w1, w2, w3, w4, w5, w6⟩ | ⟨q, q2⟩
    · obtain ⟨M3, u1, u2, u3, u4⟩ := step_good hx hfm g2 w4 w5 w6 (sp c) w3
      obtain ⟨m, hm⟩ : ∃ m, FU = m + (k + 1) := ⟨FU - (k + 1), by rw [FU_e]; omega⟩
      have eT : r.2.2 = T := by rw [w1]; rfl
      rw [hm, b2.en u1 m, eT]
      exact Or.inl ⟨M3, rfl, u2, u3, (q5.tr b3).tr u4⟩
    · exact Or.inr ⟨q, fl q2⟩
  · rw [if_neg c] at ss' ⊢
    exact fl ss'
