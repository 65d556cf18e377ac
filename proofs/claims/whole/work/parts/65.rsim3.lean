theorem sim_pro {tx : List Int32} {fm d0 i : Nat} {rp : Nat → Nat → Fm → PR} {C : List ES} {M : Mem} (hx : tx.length ≤ 100) (hfm : fm ≤ 5) (hG : GdR tx fm rp) (hS : SimR tx fm d0 rp) (hd : d0 ≤ deepC C + 1) (htb : tbd C < 2) (hi : i ≤ tx.length) (h : RS2 M tx fm i C []) (ho : OC C []) : SO tx fm i M (pPro rp tx fm (deepC C) i (layC C)) (GK 2 tx fm C (pPro rp tx fm (deepC C) i (layC C))) := by
  have hl : (layC C).length ≤ 30 := by have := ho.2.1; rwa [List.append_nil] at this
  have sf := sim_fac hx hfm hS hi h ho hd
  have g := fac_gd hG hfm (dep := deepC C) hi hl
  rw [pPro]
  generalize pFac rp tx fm (deepC C) i (layC C) = r at *
  refine sim_proL hx hfm hG hS hd htb 30 r g (sf.imp (fun _ M' w => ?_))
  obtain ⟨T, w1, w2, w3, w4, w5⟩ := w
  rw [stl_tb (by omega) (show tbd C < 3 by omega)] at w3 w4 w5
  exact ⟨T, C, T, w1, w2, stl_tb (by omega) htb, w3, w4, w5⟩
theorem stl_stl : ∀ {C : List ES} {T : Fm}, stl 1 (stl 2 C T).1 (stl 2 C T).2 = stl 1 C T
  | [], T => rfl
  | e :: C, T => by
    rw [stl]
    by_cases c : 2 ≤ bnd e.1
    · rw [if_pos c, stl_stl, stl, if_pos (by omega)]
    · rw [if_neg c]
theorem sim_sumL {tx : List Int32} {fm d0 i : Nat} {rp : Nat → Nat → Fm → PR} {C : List ES} {M : Mem} (hx : tx.length ≤ 100) (hfm : fm ≤ 5) (hG : GdR tx fm rp) (hS : SimR tx fm d0 rp) (hd : d0 ≤ deepC C + 1) (htb : tbd C < 1) : ∀ (n : Nat) (r : PR), Gd tx fm i (layC C) r → SO tx fm i M r (GK 1 tx fm C r) → SO tx fm i M (pSumL rp tx fm (deepC C) (layC C).length n r) (GK 1 tx fm C (pSumL rp tx fm (deepC C) (layC C).length n r)) := by
  intro n
  induction n with
  | zero => intro r g h; exact h
  | succ n ih =>
    intro r g h
    rw [pSumL]
    by_cases c : r.1 = false
    · rw [if_pos c]; exact h
    rw [if_neg c]
    have c' : r.1 = true := by simpa using c
    by_cases d : sg tx r.2.1 = 43 ∨ sg tx r.2.1 = 45
    · rw [if_pos d]
      have hb : isBin (sg tx r.2.1) := Or.inr d
      have hbk : bk (sg tx r.2.1) = 1 := by rcases d with d | d <;> rw [d] <;> rfl
      have hbn : bnd (sg tx r.2.1) = 1 := by rcases d with d | d <;> rw [d] <;> rfl
      have n40 : ¬ sg tx r.2.1 = 40 := by rcases d with d | d <;> rw [d] <;> decide
      have nu : ¬ (sg tx r.2.1 = 40 ∨ sg tx r.2.1 = 33) := by rcases d with d | d <;> rw [d] <;> decide
      have hkd : (if sg tx r.2.1 = 43 then (4 : Int32) else 5) = kd0 (sg tx r.2.1) := by rcases d with d | d <;> rw [d] <;> rfl
      have hne : sg tx r.2.1 ≠ 0 := by rcases d with d | d <;> rw [d] <;> decide
      have hk : okN fm (kd0 (sg tx r.2.1), 0) ∧ ar (kd0 (sg tx r.2.1)) = 2 := by
        rcases d with d | d
        · rw [d]; exact ⟨Or.inr (Or.inr (Or.inr ⟨Or.inr (Or.inl rfl), rfl⟩)), by decide⟩
        · rw [d]; exact ⟨Or.inr (Or.inr (Or.inr ⟨Or.inr (Or.inr (Or.inl rfl)), rfl⟩)), by decide⟩
      have st := op_sim hx hfm g c' rfl hb hbk h
      rw [hkd]
      have hlt := sg_lt hne
      generalize sg tx r.2.1 = s at *
      by_cases e : r.2.2.length = 30
      · rw [if_pos e] at st ⊢
        rw [SO, if_neg (by simp)]
        exact st
      · rw [if_neg e] at st ⊢
        obtain ⟨T, k, M1, e1, e2, e3, e4, e5, e6, e7⟩ := st
        have eL : ins (layC C).length (kd0 s, 0) r.2.2 = layC ((s, T) :: C) := by rw [e1, ins_lay, layC, opn, if_neg n40]
        have eD : deepC ((s, T) :: C) = deepC C := by rw [deepC, if_neg nu, Nat.add_zero]
        have sf := sim_pro hx hfm hG hS (by rw [eD]; exact hd) (show tbd ((s, T) :: C) < 2 from (by rw [hbn]; omega : bnd s < 2)) hlt e5 e6
        have h3 := g.2.2.1
        have gf1 := pro_gd hG hfm (dep := deepC C) (i := r.2.1 + 1) (l := ins (layC C).length (kd0 s, 0) r.2.2) hlt (by rw [ins_len]; omega)
        have g2 : Gd tx fm i (layC C) (pPro rp tx fm (deepC C) (r.2.1 + 1) (ins (layC C).length (kd0 s, 0) r.2.2)) := op_gd (q := (kd0 s, 0)) hk.2 hk.1 g c' gf1
        rw [eD, ← eL] at sf
        have hge := gf1.1
        generalize pPro rp tx fm (deepC C) (r.2.1 + 1) (ins (layC C).length (kd0 s, 0) r.2.2) = r2 at *
        refine ih r2 g2 (SO.pre e4 e7 e3 (by have := g.1; omega) hge (sf.imp (fun _ M' w => ?_)))
        obtain ⟨T', C2, T2, w1, w2, w3, w4, w5, w6⟩ := w
        refine ⟨(kd0 s, 0) :: (T ++ T'), C2, T2, by rw [w1, ← eL, e1, ins_lay]; simp, by simp, ?_, w4, w5, w6⟩
        rw [← stl_stl, w3]
        simp only
        rw [stl, if_pos (show 1 ≤ bnd s by omega), stl_tb (Nat.le_refl 1) htb]
    · rw [if_neg d]; exact h
theorem sim_sum {tx : List Int32} {fm d0 i : Nat} {rp : Nat → Nat → Fm → PR} {C : List ES} {M : Mem} (hx : tx.length ≤ 100) (hfm : fm ≤ 5) (hG : GdR tx fm rp) (hS : SimR tx fm d0 rp) (hd : d0 ≤ deepC C + 1) (htb : tbd C < 1) (hi : i ≤ tx.length) (h : RS2 M tx fm i C []) (ho : OC C []) : SO tx fm i M (pSum rp tx fm (deepC C) i (layC C)) (GK 1 tx fm C (pSum rp tx fm (deepC C) i (layC C))) := by
  have hl : (layC C).length ≤ 30 := by have := ho.2.1; rwa [List.append_nil] at this
  have sf := sim_pro hx hfm hG hS hd (by omega) hi h ho
  have g := pro_gd hG hfm (dep := deepC C) hi hl
  rw [pSum]
  generalize pPro rp tx fm (deepC C) i (layC C) = r at *
  refine sim_sumL hx hfm hG hS hd htb 30 r g (sf.imp (fun _ M' w => ?_))
  obtain ⟨T, C2, T2, w1, w2, w3, w4, w5, w6⟩ := w
  refine ⟨T, C2, T2, w1, w2, ?_, w4, w5, w6⟩
  rw [← stl_stl, w3]
  exact stl_tb (Nat.le_refl 1) htb
