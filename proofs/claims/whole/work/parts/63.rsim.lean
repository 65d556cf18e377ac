/-! the reference reads as the reader of lists -/
theorem wf_ne {T : Fm} (h : wf T) : T ≠ [] := fun q => by rw [q] at h; cases h
theorem proL_stop {tx : List Int32} {fm : Nat} {rc : Nat → Nat → Fm → PR} (hrc : GdR tx fm rc) (hfm : fm ≤ 5) {dep i : Nat} {l : Fm} : ∀ (n : Nat) (r : PR), Gd tx fm i l r → (r.1 = true → 31 ≤ r.2.2.length + n) → (pProL rc tx fm dep l.length n r).1 = true → ¬ sg tx (pProL rc tx fm dep l.length n r).2.1 = 42
  | 0, r, g, hl, ht => by
    rw [pProL] at ht
    have := hl ht
    have := g.2.2.1
    omega
  | n + 1, r, g, hl, ht => by
    rw [pProL] at ht ⊢
    by_cases c : r.1 = false
    · rw [if_pos c] at ht; rw [c] at ht; cases ht
    rw [if_neg c] at ht ⊢
    have c' : r.1 = true := by simpa using c
    by_cases d : sg tx r.2.1 = 42
    · rw [if_pos d] at ht ⊢
      by_cases e : r.2.2.length = 30
      · rw [if_pos e] at ht; cases ht
      · rw [if_neg e] at ht ⊢
        have h3 := g.2.2.1
        have g1 := fac_gd hrc hfm (dep := dep) (i := r.2.1 + 1) (l := ins l.length (6, 0) r.2.2) (sg_lt (by rw [d]; decide)) (by rw [ins_len]; omega)
        refine proL_stop hrc hfm n _ (op_gd (by decide) (Or.inr (Or.inr (Or.inr ⟨Or.inr (Or.inr (Or.inr rfl)), rfl⟩))) g c' g1) (fun q => ?_) ht
        obtain ⟨-, T, g6, -, -⟩ := g1.2.2.2 q
        rw [g6, List.length_append, ins_len]
        have := hl c'
        omega
    · rw [if_neg d]; exact d
theorem pro_stop {tx : List Int32} {fm : Nat} {rc : Nat → Nat → Fm → PR} (hrc : GdR tx fm rc) (hfm : fm ≤ 5) {dep i : Nat} {l : Fm} (hi : i ≤ tx.length) (hl : l.length ≤ 30) : (pPro rc tx fm dep i l).1 = true → ¬ sg tx (pPro rc tx fm dep i l).2.1 = 42 := by
  have g := fac_gd hrc hfm (dep := dep) hi hl
  refine proL_stop hrc hfm 30 _ g (fun q => ?_)
  obtain ⟨-, T, g6, g7, -⟩ := g.2.2.2 q
  have := wf_len g7
  rw [g6, List.length_append]
  omega
theorem sumL_stop {tx : List Int32} {fm : Nat} {rc : Nat → Nat → Fm → PR} (hrc : GdR tx fm rc) (hfm : fm ≤ 5) {dep i : Nat} {l : Fm}  : ∀ (n : Nat) (r : PR), Gd tx fm i l r → (r.1 = true → 31 ≤ r.2.2.length + n) → (r.1 = true → ¬ sg tx r.2.1 = 42) → (pSumL rc tx fm dep l.length n r).1 = true → ¬ isBin (sg tx (pSumL rc tx fm dep l.length n r).2.1) := by
  intro n
  induction n with
  | zero =>
    intro r g hl h42 ht
    rw [pSumL] at ht
    have := hl ht
    have := g.2.2.1
    omega
  | succ n ih =>
    intro r g hl h42 ht
    rw [pSumL] at ht ⊢
    by_cases c : r.1 = false
    · rw [if_pos c] at ht; rw [c] at ht; cases ht
    rw [if_neg c] at ht ⊢
    have c' : r.1 = true := by simpa using c
    by_cases d : sg tx r.2.1 = 43 ∨ sg tx r.2.1 = 45
    · rw [if_pos d] at ht ⊢
      by_cases e : r.2.2.length = 30
      · rw [if_pos e] at ht; cases ht
      · rw [if_neg e] at ht ⊢
        have h3 := g.2.2.1
        have hne : sg tx r.2.1 ≠ 0 := by rcases d with d | d <;> rw [d] <;> decide
        have hk : okN fm ((if sg tx r.2.1 = 43 then (4 : Int32) else 5), 0) ∧ ar (if sg tx r.2.1 = 43 then (4 : Int32) else 5) = 2 := by
          split
          · exact ⟨Or.inr (Or.inr (Or.inr ⟨Or.inr (Or.inl rfl), rfl⟩)), by decide⟩
          · exact ⟨Or.inr (Or.inr (Or.inr ⟨Or.inr (Or.inr (Or.inl rfl)), rfl⟩)), by decide⟩
        generalize (if sg tx r.2.1 = 43 then (4 : Int32) else 5) = kd at *
        have hil : (ins l.length (kd, 0) r.2.2).length ≤ 30 := by rw [ins_len]; omega
        have g1 := pro_gd hrc hfm (dep := dep) (i := r.2.1 + 1) (l := ins l.length (kd, 0) r.2.2) (sg_lt hne) hil
        have st := pro_stop hrc hfm (dep := dep) (i := r.2.1 + 1) (sg_lt hne) hil
        have g2 : Gd tx fm i l (pPro rc tx fm dep (r.2.1 + 1) (ins l.length (kd, 0) r.2.2)) := op_gd (q := (kd, 0)) (r := r) hk.2 hk.1 g c' g1
        have hl2 : (pPro rc tx fm dep (r.2.1 + 1) (ins l.length (kd, 0) r.2.2)).1 = true → 31 ≤ (pPro rc tx fm dep (r.2.1 + 1) (ins l.length (kd, 0) r.2.2)).2.2.length + n := fun q => by
          obtain ⟨-, T, g6, -, -⟩ := g1.2.2.2 q
          rw [g6, List.length_append, ins_len]
          have := hl c'
          omega
        generalize pPro rc tx fm dep (r.2.1 + 1) (ins l.length (kd, 0) r.2.2) = r1 at *
        exact ih r1 g2 hl2 st ht
    · rw [if_neg d]
      intro q
      rcases q with q | q | q
      · exact h42 c' q
      · exact d (Or.inl q)
      · exact d (Or.inr q)
theorem sum_stop {tx : List Int32} {fm : Nat} {rc : Nat → Nat → Fm → PR} (hrc : GdR tx fm rc) (hfm : fm ≤ 5) {dep i : Nat} {l : Fm} (hi : i ≤ tx.length) (hl : l.length ≤ 30) : (pSum rc tx fm dep i l).1 = true → ¬ isBin (sg tx (pSum rc tx fm dep i l).2.1) := by
  have g := pro_gd hrc hfm (dep := dep) hi hl
  have st := pro_stop hrc hfm (dep := dep) hi hl
  have hl2 : (pPro rc tx fm dep i l).1 = true → 31 ≤ (pPro rc tx fm dep i l).2.2.length + 30 := fun q => by
    obtain ⟨-, T, g6, g7, -⟩ := g.2.2.2 q
    have := wf_len g7
    rw [g6, List.length_append]
    omega
  rw [pSum]
  generalize pPro rc tx fm dep i l = r1 at *
  exact sumL_stop hrc hfm 30 r1 g hl2 st
def FL (M : Mem) (j K : Nat) : Prop := ∃ c M', c ≤ K ∧ END2 M 1 c M' 0 ∧ M'.1 208 6 = nI j ∧ QW M M'
def SO (tx : List Int32) (fm i : Nat) (M : Mem) (r : PR) (G : Mem → Prop) : Prop := if r.1 = true then ((∃ c M', c ≤ r.2.1 - i ∧ RUN2 M 1 c M' 0 ∧ QP fm M M' ∧ G M') ∨ (dig (sg tx r.2.1) ∧ FL M r.2.1 (r.2.1 - i + 1))) else FL M r.2.1 (r.2.1 - i + 1)
theorem SO.imp {tx : List Int32} {fm i : Nat} {M : Mem} {r : PR} {G G' : Mem → Prop} (h : SO tx fm i M r G) (hg : r.1 = true → ∀ M', G M' → G' M') : SO tx fm i M r G' := by
  rw [SO] at h ⊢
  by_cases c : r.1 = true
  · rw [if_pos c] at h ⊢
    rcases h with ⟨k, M', a, b, d, e⟩ | q
    · exact Or.inl ⟨k, M', a, b, d, hg c M' e⟩
    · exact Or.inr q
  · rw [if_neg c] at h ⊢; exact h
theorem SO.pre {tx : List Int32} {fm i j c0 : Nat} {M M1 : Mem} {r : PR} {G : Mem → Prop} (h0 : RUN2 M 1 c0 M1 1) (hq : QP fm M M1) (hc : c0 ≤ j - i) (hij : i ≤ j) (hj : j ≤ r.2.1) (h : SO tx fm j M1 r G) : SO tx fm i M r G := by
  have fl : FL M1 r.2.1 (r.2.1 - j + 1) → FL M r.2.1 (r.2.1 - i + 1) := fun ⟨c, M', a, b, d, e⟩ => ⟨c0 + c, M', by omega, h0.en b, d, hq.w.tr e⟩
  rw [SO] at h ⊢
  by_cases c : r.1 = true
  · rw [if_pos c] at h ⊢
    rcases h with ⟨k, M', a, b, d, e⟩ | q
    · exact Or.inl ⟨c0 + k, M', by omega, h0.tr b, hq.tr d, e⟩
    · exact Or.inr ⟨q.1, fl q.2⟩
  · rw [if_neg c] at h ⊢; exact fl h
def GF (tx : List Int32) (fm : Nat) (C : List ES) (r : PR) (M' : Mem) : Prop := ∃ T, r.2.2 = layC C ++ T ∧ T ≠ [] ∧ RS2 M' tx fm r.2.1 (stl 3 C T).1 (stl 3 C T).2 ∧ OC (stl 3 C T).1 (stl 3 C T).2 ∧ (stl 3 C T).2 ≠ []
def GK (k : Nat) (tx : List Int32) (fm : Nat) (C : List ES) (r : PR) (M' : Mem) : Prop := ∃ T C2 T2, r.2.2 = layC C ++ T ∧ T ≠ [] ∧ stl k C2 T2 = (C, T) ∧ RS2 M' tx fm r.2.1 C2 T2 ∧ OC C2 T2 ∧ T2 ≠ []
def SimR (tx : List Int32) (fm d0 : Nat) (rp : Nat → Nat → Fm → PR) : Prop := ∀ i C M, i ≤ tx.length → RS2 M tx fm i C [] → OC C [] → d0 ≤ deepC C + 1 → deepC C < 8 → (sg tx i = 40 ∨ sg tx i = 33) → SO tx fm i M (rp (deepC C + 1) i (layC C)) (GF tx fm C (rp (deepC C + 1) i (layC C)))
theorem sim_fac {tx : List Int32} {fm d0 i : Nat} {rp : Nat → Nat → Fm → PR} {C : List ES} {M : Mem} (hx : tx.length ≤ 100) (hfm : fm ≤ 5) (hS : SimR tx fm d0 rp) (hi : i ≤ tx.length) (h : RS2 M tx fm i C []) (ho : OC C []) (hd : d0 ≤ deepC C + 1) : SO tx fm i M (pFac rp tx fm (deepC C) i (layC C)) (GF tx fm C (pFac rp tx fm (deepC C) i (layC C))) := by
  have hl : (layC C).length ≤ 30 := by have := ho.2.1; rwa [List.append_nil] at this
  by_cases hc : sg tx i = 40 ∨ sg tx i = 33
  · rw [pFac, if_pos hc]
    by_cases c8 : 8 ≤ deepC C
    · have r := rfac_open hx hi h ho hc
      rw [if_pos c8] at r
      obtain ⟨M', a, b, d⟩ := r
      rw [if_pos c8, SO, if_neg (by simp)]
      exact ⟨1, M', by simp, step_fail hx hi h a, b, d⟩
    · rw [if_neg c8]
      exact hS i C M hi h ho hd (by omega) hc
  · rw [pFac, if_neg hc]
    have g := leaf_gd hi hl hfm
    rcases rfac_leaf hx hfm hi h ho hc with ⟨e, M', a, b, d⟩ | ⟨v, kd, e, q⟩
    · rw [e, SO, if_neg (by simp)]
      exact ⟨1, M', by simp, step_fail hx hi h a, b, d⟩
    · rw [e] at g ⊢
      obtain ⟨g1, g2, g3, g4⟩ := g
      obtain ⟨g5, T, g6, g7, -⟩ := g4 rfl
      have eT : [(kd, v.1)] = T := List.append_cancel_left g6
      rw [← eT] at g7
      rw [SO, if_pos rfl]
      rcases q with ⟨M', a, b, c, d⟩ | ⟨dd, M', a, b, d⟩
      · have hT : [(kd, v.1)] ≠ [] := by simp
        obtain ⟨M2, u1, u2, u3, u4, u5⟩ := settles_ok hfm (show 1 ≤ 3 by omega) (by omega) b ⟨ho.1, g3, ho.2.2.1, fun _ => g7⟩ hT
        exact Or.inl ⟨1, M2, by have : i < v.2 := g5; show 1 ≤ v.2 - i; omega, step_leaf hx hi h a c u1, d.tr u5, [(kd, v.1)], rfl, hT, u2, u3, u4⟩
      · exact Or.inr ⟨dd, 1, M', by simp, step_fail hx hi h a, b, d⟩
def tbd (C : List ES) : Nat := match C with
  | [] => 0
  | e :: _ => bnd e.1
theorem stl_tb {k : Nat} {C : List ES} {T : Fm} (hk : 1 ≤ k) (h : tbd C < k) : stl k C T = (C, T) := by
  cases C with
  | nil => rfl
  | cons e C =>
    have h' : bnd e.1 < k := h
    rw [stl, if_neg (by omega)]
