/-! working out, on the class's side -/
/-- what the rows of an expanded form tell, for the plan -/
def EL (M : Mem) (e i : Nat) (lv : Nd → Int32) (l : Fm) : Prop := (sh e).1 = 0 ∧ M.1 e 0 = nI i ∧ FA M (e + 1) l ∧ (∀ k, k < l.length → M.1 (e + 4) k = nI (tr lv l k).1 ∧ M.1 (e + 5) k = nI (tr lv l k).2.1) ∧ 160 ≤ e
theorem EL.off {M M' : Mem} {e i : Nat} {lv : Nd → Int32} {l : Fm} (h : EL M e i lv l) (ho : Off RP M M') : EL M' e i lv l := by
  obtain ⟨h1, h2, h3, h4, h5⟩ := h
  refine ⟨h1, by rw [ho.1 e (fun q => by have : _ ∧ _ := q; omega)]; exact h2, h3.off ho (fun a ha q => by have : _ ∧ _ := q; rcases ha with w | w | w <;> omega), fun k hk => ?_, h5⟩
  rw [ho.1 (e + 4) (fun q => by have : _ ∧ _ := q; omega), ho.1 (e + 5) (fun q => by have : _ ∧ _ := q; omega)]
  exact h4 k hk
theorem workOut_ok {e i : Nat} {lv : Nd → Int32} {l : Fm} (hw : wf l) (hl60 : l.length ≤ 60) : ∀ (n m k lev : Nat) (p : Int32) (M : Mem) (t : List Ev), l.length - k ≤ n → n ≤ m → k < l.length → (tr lv l k).2.2.1 + lev ≤ 41 → EL M e i lv l → PA M t → t.length + (evs lv l i n k p).length ≤ 726 →
    ∃ M', f_Plan_workOut m e (nI k) p (nI lev) M = some ((), M') ∧ PA M' (t ++ evs lv l i n k p) ∧ Off RP M M' := by
  intro n
  induction n with
  | zero => intro m k lev p M t h; omega
  | succ n ih =>
    intro m k lev p M t hn hm hk hd hE hP hlen
    obtain ⟨m', rfl⟩ : ∃ m', m = m' + 1 := ⟨m - 1, by omega⟩
    obtain ⟨he, hi, hF, hT, h160⟩ := id hE
    have hf := tE1 he
    have hln := fln hf
    have hd1 : 1 ≤ (tr lv l k).2.2.1 := by
      rcases ar_cases (nd l k).1 with c | c | c
      · rw [tr_a0 hk c]; exact Nat.le_refl _
      · rw [tr_a1 hk c]; exact Nat.le_add_left _ _
      · rw [tr_a2 hk c]; exact Nat.le_add_left _ _
    rw [f_Plan_workOut, f_Plan_workOut_step, if_pos (by rw [show (40 : Int32) = nI 40 from rfl]; exact nI_le (by omega) (by omega)), kindOf_ok hf hF (by omega), bd_s, partsOf_ok, bd_s]
    rw [evs] at hlen ⊢
    by_cases c2 : (nd l k).1 = 2
    · rw [if_pos c2] at hlen ⊢
      rw [if_pos c2]
      obtain ⟨M1, e1, a1, a2⟩ := addStep_ok (kd := 5) (pr := 4) (mo := 1) (nn := k) hP (by simp at hlen; omega) h160 hi
      rw [e1, bd_s]
      exact ⟨M1, rfl, a1, a2⟩
    rw [if_neg c2] at hlen ⊢
    rw [if_neg c2]
    by_cases a0 : ar (nd l k).1 = 0
    · rw [if_pos a0] at hlen ⊢
      rw [a0, if_pos nI_0]
      obtain ⟨M1, e1, a1, a2⟩ := addStep_ok (kd := 0) (pr := 1) (mo := 1) (nn := k) hP (by simp at hlen; omega) h160 hi
      rw [e1, bd_s]
      exact ⟨M1, rfl, a1, a2⟩
    have hal := ar_le (nd l k).1
    rw [if_neg a0] at hlen ⊢
    rw [if_neg (nI_ne0 (by omega) (by omega))]
    by_cases a1 : ar (nd l k).1 = 1
    · rw [if_pos a1] at hlen ⊢
      rw [a1, if_pos (show nI 1 = 1 from rfl), nI_s, nI_s]
      rw [List.length_append, List.length_cons, List.length_nil] at hlen
      have hk1 := wf_1 hw hk a1
      have hdd : (tr lv l k).2.2.1 = (tr lv l (k + 1)).2.2.1 + 1 := by rw [tr_a1 hk a1]
      obtain ⟨M1, e1, p1, o1⟩ := ih m' (k + 1) (lev + 1) p M t (by omega) (by omega) hk1 (by omega) hE hP (by omega)
      rw [e1, bd_s]
      have hE1 := hE.off o1
      obtain ⟨M2, e2, p2, o2⟩ := addStep_ok (kd := 1) (pr := 1) (mo := 0) (nn := k) p1 (by rw [List.length_append]; omega) h160 hE1.2.1
      rw [e2, bd_s]
      exact ⟨M2, rfl, by rw [← List.append_assoc]; exact p2, o1.tr o2⟩
    rw [if_neg a1] at hlen ⊢
    have ha : ar (nd l k).1 = 2 := by omega
    rw [ha, if_neg (by decide)]
    obtain ⟨hk1, hk2⟩ := wf_2 (lv := lv) hw hk ha
    have hdd : (tr lv l k).2.2.1 = max (tr lv l (k + 1)).2.2.1 (tr lv l (k + 1 + (tr lv l (k + 1)).1)).2.2.1 + 1 := by rw [tr_a2 hk ha]
    have hnb : ∀ z, z < l.length → (tr lv l z).2.1 ≤ 60 := fun z hz => by
      have z1 := tr_le (lv := lv) (l := l) (l.length - z + 1) z (by omega)
      have z2 := wf_size (lv := lv) hw hz
      omega
    dsimp only at hlen ⊢
    rw [f_Plan_workOutParts, bi_e, nI_s, nI_s, rightOf_ok he (by omega) (hT (k + 1) hk1).1, bd_s, needOf_ok he (by omega), bd_s, needOf_ok he (by omega), bd_s, (hT (k + 1) hk1).2, (hT _ hk2).2]
    generalize hA : k + 1 = A at *
    generalize hB : A + (tr lv l A).1 = B at *
    -- both orders, in one
    have main : ∀ one two : Nat, one < l.length → two < l.length → A ≤ one → A ≤ two → (tr lv l one).2.2.1 + (lev + 1) ≤ 41 → (tr lv l two).2.2.1 + (lev + 1) ≤ 41 →
        t.length + (evs lv l i n one p ++ ((if p ≤ nI (tr lv l two).2.1 then [(2, i, one, 4, -1)] ++ (evs lv l i n two p ++ [(3, i, one, 4, 1)]) else evs lv l i n two (p - 1)) ++ [(1, i, k, if (nd l k).1 = 6 then 3 else 1, -1)])).length ≤ 726 →
        ∃ M', (bd (f_Plan_workOutParts_b60 (f_Plan_workOut m') e p (nI (lev + 1)) (nI one) (nI two) M) fun _ M3 => if (nd l k).1 = 6 then f_Plan_workOut_b118 (f_Plan_workOut m') 3 (nI k) e 1 M3 else f_Plan_workOut_b118 (f_Plan_workOut m') 1 (nI k) e 1 M3) = some ((), M') ∧ PA M' (t ++ (evs lv l i n one p ++ ((if p ≤ nI (tr lv l two).2.1 then [(2, i, one, 4, -1)] ++ (evs lv l i n two p ++ [(3, i, one, 4, 1)]) else evs lv l i n two (p - 1)) ++ [(1, i, k, if (nd l k).1 = 6 then 3 else 1, -1)]))) ∧ Off RP M M' := by
      intro one two h1 h2 h3 h4 d1 d2 hlen
      have fin : ∀ (M3 : Mem) (t3 : List Ev), PA M3 t3 → t3.length < 726 → EL M3 e i lv l → ∃ M', (if (nd l k).1 = 6 then f_Plan_workOut_b118 (f_Plan_workOut m') 3 (nI k) e 1 M3 else f_Plan_workOut_b118 (f_Plan_workOut m') 1 (nI k) e 1 M3) = some ((), M') ∧ PA M' (t3 ++ [(1, i, k, if (nd l k).1 = 6 then 3 else 1, -1)]) ∧ Off RP M3 M' := by
        intro M3 t3 p3 l3 el3
        by_cases c6 : (nd l k).1 = 6
        · rw [if_pos c6, if_pos c6, f_Plan_workOut_b118]
          obtain ⟨M4, e4, q4, o4⟩ := addStep_ok (kd := 1) (pr := 3) (mo := -1) (nn := k) p3 l3 h160 el3.2.1
          rw [e4, bd_s]
          exact ⟨M4, rfl, q4, o4⟩
        · rw [if_neg c6, if_neg c6, f_Plan_workOut_b118]
          obtain ⟨M4, e4, q4, o4⟩ := addStep_ok (kd := 1) (pr := 1) (mo := -1) (nn := k) p3 l3 h160 el3.2.1
          rw [e4, bd_s]
          exact ⟨M4, rfl, q4, o4⟩
      simp only [List.length_append, List.length_cons, List.length_nil] at hlen
      obtain ⟨M1, e1, p1, o1⟩ := ih m' one (lev + 1) p M t (by omega) (by omega) h1 d1 hE hP (by omega)
      have hE1 := hE.off o1
      rw [f_Plan_workOutParts_b60, e1, bd_s, needOf_ok he (by omega), bd_s, (hE1.2.2.2.1 two h2).2]
      by_cases cp : p ≤ nI (tr lv l two).2.1
      · rw [if_pos cp] at hlen ⊢
        rw [if_pos cp]
        simp only [List.length_append, List.length_cons, List.length_nil] at hlen
        obtain ⟨M2, e2, p2, o2⟩ := addStep_ok (kd := 2) (pr := 4) (mo := -1) (nn := one) p1 (by rw [List.length_append]; omega) h160 hE1.2.1
        have hE2 := hE1.off o2
        rw [e2, bd_s]
        obtain ⟨M3, e3, p3, o3⟩ := ih m' two (lev + 1) p M2 _ (by omega) (by omega) h2 d2 hE2 p2 (by simp only [List.length_append, List.length_cons, List.length_nil]; omega)
        have hE3 := hE2.off o3
        rw [e3, bd_s]
        obtain ⟨M4, e4, p4, o4⟩ := addStep_ok (kd := 3) (pr := 4) (mo := 1) (nn := one) p3 (by simp only [List.length_append, List.length_cons, List.length_nil]; omega) h160 hE3.2.1
        have hE4 := hE3.off o4
        rw [e4, bd_s, bd_s]
        obtain ⟨M5, e5, p5, o5⟩ := fin M4 _ p4 (by simp only [List.length_append, List.length_cons, List.length_nil]; omega) hE4
        refine ⟨M5, e5, ?_, (((o1.tr o2).tr o3).tr o4).tr o5⟩
        simp only [List.append_assoc] at p5 ⊢
        exact p5
      · rw [if_neg cp] at hlen ⊢
        rw [if_neg cp]
        obtain ⟨M2, e2, p2, o2⟩ := ih m' two (lev + 1) (p - 1) M1 _ (by omega) (by omega) h2 d2 hE1 p1 (by simp only [List.length_append]; omega)
        have hE2 := hE1.off o2
        rw [e2, bd_s, bd_s]
        obtain ⟨M5, e5, p5, o5⟩ := fin M2 _ p2 (by simp only [List.length_append]; omega) hE2
        refine ⟨M5, e5, ?_, (o1.tr o2).tr o5⟩
        simp only [List.append_assoc] at p5 ⊢
        exact p5
    have b1 := hnb A hk1
    have b2 := hnb B hk2
    by_cases cn : (tr lv l A).2.1 < (tr lv l B).2.1
    · rw [if_pos cn, if_pos cn] at hlen ⊢
      rw [if_pos (nI_lt cn (by omega)), f_Plan_workOutParts_b32, if_pos rfl, f_Plan_workOutParts_b46, if_pos rfl]
      exact main B A hk2 hk1 (by omega) (Nat.le_refl _) (by omega) (by omega) hlen
    · rw [if_neg cn, if_neg cn] at hlen ⊢
      rw [if_neg (nI_nlt (by omega) (by omega)), f_Plan_workOutParts_b32, if_neg (by decide), f_Plan_workOutParts_b46, if_neg (by decide)]
      exact main A B hk1 hk2 (Nat.le_refl _) (by omega) (by omega) (by omega) hlen
