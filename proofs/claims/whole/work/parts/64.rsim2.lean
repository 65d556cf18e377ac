theorem ins_lay {C : List ES} {T : Fm} {q : Nd} : ins (layC C).length q (layC C ++ T) = layC C ++ q :: T := ins_at
theorem pro_ge {tx : List Int32} {fm i : Nat} {l : Fm} {r : PR} (g : Gd tx fm i l r) : i ≤ r.2.1 := g.1
/-- an operation in a loop: the two readers come to the next part -/
theorem op_sim {tx : List Int32} {fm i k : Nat} {C : List ES} {M : Mem} {r : PR} {s : Int32} (hx : tx.length ≤ 100) (hfm : fm ≤ 5) (g : Gd tx fm i (layC C) r) (hr : r.1 = true) (hs' : sg tx r.2.1 = s) (hb : isBin s) (hk : bk s = k) (h : SO tx fm i M r (GK k tx fm C r)) :
    if r.2.2.length = 30 then FL M r.2.1 (r.2.1 - i + 1) else ∃ T c M', r.2.2 = layC C ++ T ∧ T ≠ [] ∧ c ≤ r.2.1 + 1 - i ∧ RUN2 M 1 c M' 1 ∧ RS2 M' tx fm (r.2.1 + 1) ((s, T) :: C) [] ∧ OC ((s, T) :: C) [] ∧ QP fm M M' := by
  rw [SO, if_pos hr] at h
  have g1 := g.1
  rcases h with ⟨c, M1, a, b, d, T, C2, T2, e1, e2, e3, e4, e5, e6⟩ | ⟨q, -⟩
  · rw [← hk] at e3
    have st := step_op hx hfm g.2.1 e4 e5 e6 hs' hb e3
    rw [← e1] at st
    by_cases c30 : r.2.2.length = 30
    · rw [if_pos c30] at st ⊢
      exact ⟨c + 1, M1, by omega, b.en st, e4.2.1, d.w⟩
    · rw [if_neg c30] at st ⊢
      obtain ⟨M2, u1, u2, u3, u4⟩ := st
      exact ⟨T, c + 1, M2, e1, e2, by omega, b.tr u1, u2, u3, d.tr u4⟩
  · exfalso
    rw [hs'] at q
    rcases hb with w | w | w
    · rw [w] at q; exact q.1 (by decide)
    · rw [w] at q; exact q.1 (by decide)
    · rw [w] at q; exact q.1 (by decide)
theorem sim_proL {tx : List Int32} {fm d0 i : Nat} {rp : Nat → Nat → Fm → PR} {C : List ES} {M : Mem} (hx : tx.length ≤ 100) (hfm : fm ≤ 5) (hG : GdR tx fm rp) (hS : SimR tx fm d0 rp) (hd : d0 ≤ deepC C + 1) (htb : tbd C < 2) : ∀ (n : Nat) (r : PR), Gd tx fm i (layC C) r → SO tx fm i M r (GK 2 tx fm C r) → SO tx fm i M (pProL rp tx fm (deepC C) (layC C).length n r) (GK 2 tx fm C (pProL rp tx fm (deepC C) (layC C).length n r)) := by
  intro n
  induction n with
  | zero => intro r g h; exact h
  | succ n ih =>
    intro r g h
    rw [pProL]
    by_cases c : r.1 = false
    · rw [if_pos c]; exact h
    rw [if_neg c]
    have c' : r.1 = true := by simpa using c
    by_cases d : sg tx r.2.1 = 42
    · rw [if_pos d]
      have st := op_sim hx hfm g c' d (Or.inl rfl) rfl h
      by_cases e : r.2.2.length = 30
      · rw [if_pos e] at st ⊢
        rw [SO, if_neg (by simp)]
        exact st
      · rw [if_neg e] at st ⊢
        obtain ⟨T, k, M1, e1, e2, e3, e4, e5, e6, e7⟩ := st
        have eL : ins (layC C).length (6, 0) r.2.2 = layC ((42, T) :: C) := by rw [e1, ins_lay]; rfl
        have eD : deepC ((42, T) :: C) = deepC C := rfl
        have sf := sim_fac hx hfm hS (sg_lt (by rw [d]; decide)) e5 e6 (by rw [eD]; exact hd)
        have h3 := g.2.2.1
        have gf1 := fac_gd hG hfm (dep := deepC C) (i := r.2.1 + 1) (l := ins (layC C).length (6, 0) r.2.2) (sg_lt (by rw [d]; decide)) (by rw [ins_len]; omega)
        have g2 : Gd tx fm i (layC C) (pFac rp tx fm (deepC C) (r.2.1 + 1) (ins (layC C).length (6, 0) r.2.2)) := op_gd (q := (6, 0)) (by decide) (Or.inr (Or.inr (Or.inr ⟨Or.inr (Or.inr (Or.inr rfl)), rfl⟩))) g c' gf1
        rw [eD, ← eL] at sf
        have hge := gf1.1
        generalize pFac rp tx fm (deepC C) (r.2.1 + 1) (ins (layC C).length (6, 0) r.2.2) = r2 at *
        refine ih r2 g2 (SO.pre e4 e7 e3 (by have := g.1; omega) hge (sf.imp (fun _ M' w => ?_)))
        obtain ⟨T', w1, w2, w3, w4, w5⟩ := w
        rw [stl_tb (by omega) (show tbd ((42, T) :: C) < 3 from (by decide : bnd 42 < 3))] at w3 w4 w5
        exact ⟨(6, 0) :: (T ++ T'), (42, T) :: C, T', by rw [w1]; show (layC C ++ ((6, 0) :: T)) ++ T' = _; simp, by simp, by
          rw [stl, if_pos (show 2 ≤ bnd 42 by decide), stl_tb (by omega) htb]; rfl, w3, w4, w5⟩
    · rw [if_neg d]; exact h
