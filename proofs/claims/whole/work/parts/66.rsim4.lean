theorem sim_nest {tx : List Int32} {fm : Nat} (hx : tx.length ≤ 100) (hfm : fm ≤ 5) : ∀ n, SimR tx fm (9 - n) (pNest tx fm n) := by
  intro n
  induction n with
  | zero => intro i C M hi h ho hd h8 hc; omega
  | succ n ih =>
    intro i C M hi h ho hd h8 hc
    have hG := nest_gd (tx := tx) hfm n
    have hl : (layC C).length ≤ 30 := by have := ho.2.1; rwa [List.append_nil] at this
    have op := rfac_open hx hi h ho hc
    rw [if_neg (show ¬ 8 ≤ deepC C by omega)] at op
    rw [pNest]
    by_cases c : sg tx i = 40
    · have hi1 : i + 1 ≤ tx.length := sg_lt (by rw [c]; decide)
      rw [if_neg (fun q => by rw [c] at q; exact absurd q.1 (by decide)), c] at op
      obtain ⟨M1, a1, a2, a3, a4⟩ := op
      have r1 := step_open hx hi h a1 a2
      have el : layC ((40, []) :: C) = layC C := by rw [layC, opn, if_pos rfl, List.append_nil]
      have ed : deepC ((40, []) :: C) = deepC C + 1 := by rw [deepC, if_pos (Or.inl rfl)]
      have oc : OC ((40, []) :: C) [] := ⟨⟨Or.inl ⟨Or.inl rfl, rfl⟩, ho.1⟩, by rw [el]; exact ho.2.1, by rw [ed]; omega, fun q => absurd rfl q⟩
      have ss := sim_sum hx hfm hG ih (by rw [ed]; omega) (show tbd ((40, []) :: C) < 1 from (by decide : bnd 40 < 1)) hi1 a3 oc
      rw [ed, el] at ss
      have g := sum_gd hG hfm (dep := deepC C + 1) hi1 hl
      have sp := sum_stop hG hfm (dep := deepC C + 1) hi1 hl
      rw [if_pos c]
      generalize pSum (pNest tx fm n) tx fm (deepC C + 1) (i + 1) (layC C) = r at *
      have g1 := g.1
      have s1 := SO.pre r1 a4 (show 1 ≤ i + 1 - i by omega) (by omega) g1 ss
      by_cases d : r.1 = false
      · rw [if_pos d]
        exact s1.imp (fun q => by rw [d] at q; cases q)
      · have d' : r.1 = true := by simpa using d
        rw [if_neg d]
        rw [SO, if_pos d'] at s1
        by_cases e : sg tx r.2.1 = 41
        · rw [if_pos e, SO, if_pos rfl]
          rcases s1 with ⟨k, M2, b1, b2, b3, T, C2, T2, w1, w2, w3, w4, w5, w6⟩ | ⟨q, -⟩
          · obtain ⟨M3, u1, u2, u3, u4, u5⟩ := step_close hx hfm g.2.1 w4 w5 w6 e w3
            rw [el] at w1
            exact Or.inl ⟨k + 1, M3, by show k + 1 ≤ r.2.1 + 1 - i; omega, b2.tr u1, b3.tr u5, T, w1, w2, u2, u3, u4⟩
          · rw [e] at q; exact absurd q (by decide)
        · rw [if_neg e, SO, if_neg (by simp)]
          rcases s1 with ⟨k, M2, b1, b2, b3, T, C2, T2, w1, w2, w3, w4, w5, w6⟩ | ⟨q, q2⟩
          · obtain ⟨M3, u1, u2, u3⟩ := step_bad hx hfm g.2.1 w4 w5 w6 e (sp d') (stl_mem (k := 1) (C := C2) (T := T2) (e := (40, [])) (by rw [w3]; simp)) rfl
            exact ⟨k + 1, M3, by show k + 1 ≤ r.2.1 - i + 1; omega, b2.en u1, u2, b3.w.tr u3⟩
          · exact q2
    · have c33 : sg tx i = 33 := by rcases hc with q | q; exact absurd q c; exact q
      rw [if_neg c]
      by_cases d : (layC C).length = 30
      · rw [if_pos ⟨c33, d⟩] at op
        obtain ⟨M', a, b, e⟩ := op
        rw [if_pos d, SO, if_neg (by simp)]
        exact ⟨1, M', by simp, step_fail hx hi h a, b, e⟩
      · rw [if_neg (fun q => d q.2), c33] at op
        obtain ⟨M1, a1, a2, a3, a4⟩ := op
        have r1 := step_open hx hi h a1 a2
        have hi1 : i + 1 ≤ tx.length := sg_lt (by rw [c33]; decide)
        have el : layC ((33, []) :: C) = layC C ++ [(3, 0)] := by rw [layC, opn, if_neg (by decide)]; rfl
        have ed : deepC ((33, []) :: C) = deepC C + 1 := by rw [deepC, if_pos (Or.inr rfl)]
        have oc : OC ((33, []) :: C) [] := ⟨⟨Or.inl ⟨Or.inr rfl, rfl⟩, ho.1⟩, by rw [el]; simp; omega, by rw [ed]; omega, fun q => absurd rfl q⟩
        have sf := sim_fac hx hfm ih hi1 a3 oc (by rw [ed]; omega)
        rw [ed, el] at sf
        have g := fac_gd hG hfm (dep := deepC C + 1) (l := layC C ++ [(3, 0)]) hi1 (by simp; omega)
        rw [if_neg d, if_pos c33]
        generalize pFac (pNest tx fm n) tx fm (deepC C + 1) (i + 1) (layC C ++ [(3, 0)]) = r at *
        refine (SO.pre r1 a4 (show 1 ≤ i + 1 - i by omega) (by omega) g.1 sf).imp (fun _ M' w => ?_)
        obtain ⟨T, w1, w2, w3, w4, w5⟩ := w
        have es : stl 3 ((33, []) :: C) T = stl 3 C ((3, 0) :: T) := by rw [stl, if_pos (by decide)]; rfl
        rw [es] at w3 w4 w5
        exact ⟨(3, 0) :: T, by rw [w1, el]; simp, by simp, w3, w4, w5⟩
