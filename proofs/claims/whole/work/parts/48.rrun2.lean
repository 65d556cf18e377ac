theorem st_q {M : Mem} {tp : Nat} {v : Int32} : QF tp M (mset M 227 tp v) := by
  refine ⟨Off.set (by show _ ∨ _; omega), fun k hk => by simp [ms1], fun j hj => ?_⟩
  have : j ≠ tp := by omega
  simp [ms1, this]
theorem st_p {M : Mem} {t : List Ev} {w : Int32} {tp : Nat} {v : Int32} (h : PB M t w) : PB (mset M 227 tp v) t w :=
  h.keep (fun k h1 h2 => by simp [ms1]) (by rw [mset_ne (by omega)])
theorem st_t {M : Mem} {tp k s s' : Nat} {p : Int32} (h : TP M tp k p s) : TP (mset M 227 tp (nI s')) tp k p s' := by
  obtain ⟨h1, h2, h3, h4⟩ := h
  refine ⟨?_, ?_, ?_, ?_⟩
  · simp [ms1, h1]
  · simp [ms1, h2]
  · simp [ms1, h3]
  · simp [ms1]
theorem TP.below {M M' : Mem} {tp tq k s : Nat} {p : Int32} (h : TP M tp k p s) (hq : QF tq M M') (hl : tp < tq) (h37 : M'.1 208 37 = nI (tp + 1)) : TP M' tp k p s := by
  obtain ⟨h1, h2, h3, h4⟩ := h
  obtain ⟨q1, q2, q3⟩ := hq.2.2 tp hl
  exact ⟨h37, by rw [q1]; exact h2, by rw [q2]; exact h3, by rw [q3]; exact h4⟩
theorem pushed_below {M : Mem} {tp k s : Nat} {p x1 x2 : Int32} (h : TP M tp k p s) : (pushM M (tp + 1) x1 x2).1 225 tp = nI k ∧ (pushM M (tp + 1) x1 x2).1 226 tp = p ∧ (pushM M (tp + 1) x1 x2).1 227 tp = nI s := by
  obtain ⟨h1, h2, h3, h4⟩ := h
  have q := (push_q (M := M) (tq := tp + 1) (x1 := x1) (x2 := x2)).2.2 tp (by omega)
  exact ⟨by rw [q.1]; exact h2, by rw [q.2.1]; exact h3, by rw [q.2.2]; exact h4⟩
/-- a part is pushed, worked out, and the stack is as before -/
theorem part_ok {M : Mem} {lv : Nd → Int32} {l : Fm} {i tp k s u c0 : Nat} {p q w : Int32} {t : List Ev} {ev : List Ev} (ht : tp + 1 < 100) (hT : TP M tp k p s) (hP : PB M t w)
    (ih : ∀ M2, EB M2 i lv l → PB M2 t w → TP M2 (tp + 1) u q 0 → ∃ c M', c ≤ c0 ∧ RUN M2 c M' ∧ PB M' (t ++ ev) w ∧ QF (tp + 1) M2 M' ∧ M'.1 208 37 = nI (tp + 1)) (hE : EB M i lv l) :
    ∃ c M', c ≤ c0 ∧ RUN (pushM M (tp + 1) (nI u) q) c M' ∧ PB M' (t ++ ev) w ∧ QF tp M M' ∧ TP M' tp k p s := by
  obtain ⟨c, M', h1, h2, h3, h4, h5⟩ := ih (pushM M (tp + 1) (nI u) q) (hE.q push_q) (push_p hP) push_t
  refine ⟨c, M', h1, h2, h3, (push_q.le (by omega)).tr (h4.le (by omega)), ?_⟩
  obtain ⟨b1, b2, b3⟩ := pushed_below (x1 := nI u) (x2 := q) hT
  obtain ⟨q1, q2, q3⟩ := h4.2.2 tp (by omega)
  exact ⟨h5, q1.trans b1, q2.trans b2, q3.trans b3⟩
theorem b249_0 {M : Mem} {tp k : Nat} {x2 x5 x10 t0 p : Int32} {one : Nat} (hT : TP M tp k p 0) (ht : tp + 1 < 100) : f_Md_goesOn_b249 (nI tp) x2 p x5 (nI one) x10 t0 M = some ((), pushM (mset M 227 tp (nI 1)) (tp + 1) (nI one) p) := by
  obtain ⟨h1, h2, h3, h4⟩ := hT
  have g : inb (nI tp) 100 = true := inbT (by omega) (by omega)
  have e1 : (mset M 227 tp (nI 1)).1 227 tp = 1 := by simp [ms1]; rfl
  have e2 : (mset M 227 tp (nI 1)).1 208 37 = nI (tp + 1) := by simp [ms1, h1]
  rw [f_Md_goesOn_b249, gd_of g, gd_of g, ixN (by omega), h4, nI_s, bm_e, gd_of g, if_pos e1, pushes_e e2 ht, bd_s]
theorem run_ok {lv : Nd → Int32} {l : Fm} {i : Nat} {w : Int32} (hw : wf l) (hl60 : l.length ≤ 60) : ∀ (n k tp : Nat) (p : Int32) (M : Mem) (t : List Ev), l.length - k ≤ n → k < l.length → tp + (tr lv l k).2.2.1 ≤ 99 → EB M i lv l → PB M t w → TP M tp k p 0 → t.length + (evs lv l i n k p).length ≤ 726 →
    ∃ c M', c ≤ 3 * (tr lv l k).1 ∧ RUN M c M' ∧ PB M' (t ++ evs lv l i n k p) w ∧ QF tp M M' ∧ M'.1 208 37 = nI tp := by
  intro n
  induction n with
  | zero => intro k tp p M t h; omega
  | succ n ih =>
    intro k tp p M t hn hk hd hE hP hT hlen
    have hd1 : 1 ≤ (tr lv l k).2.2.1 := by
      rcases ar_cases (nd l k).1 with c | c | c
      · rw [tr_a0 hk c]; exact Nat.le_refl _
      · rw [tr_a1 hk c]; exact Nat.le_add_left _ _
      · rw [tr_a2 hk c]; exact Nat.le_add_left _ _
    have hs1 := (wf_size (lv := lv) hw hk).1
    have ge := gos_e hT hE hk hl60 (by omega)
    have gtp : inb (nI tp) 100 = true := inbT (by omega) (by omega)
    rw [evs] at hlen ⊢
    by_cases a0 : ar (nd l k).1 = 0
    · rw [if_neg (fun q => ar_3.mp q a0)] at ge
      have leaf : ∃ kd pr, (if (nd l k).1 = 2 then f_Md_goesOn_b58 (nI k) (nd l k).1 5 M else f_Md_goesOn_b58 (nI k) (nd l k).1 0 M) = (bd (f_Md_does kd (nI k) pr 1 M) fun _ M1 => bm (mset M1 208 37 ((M1.1 208 37) - 1)) fun M2 => some ((), M2)) ∧ (if (nd l k).1 = 2 then [((5 : Int32), i, k, (4 : Int32), (1 : Int32))] else if ar (nd l k).1 = 0 then [(0, i, k, 1, 1)] else if ar (nd l k).1 = 1 then evs lv l i n (k + 1) p ++ [(1, i, k, 1, 0)] else
      let a := k + 1
      let b := k + 1 + (tr lv l (k + 1)).1
      let one := if (tr lv l a).2.1 < (tr lv l b).2.1 then b else a
      let two := if (tr lv l a).2.1 < (tr lv l b).2.1 then a else b
      evs lv l i n one p ++ ((if p ≤ nI (tr lv l two).2.1 then [(2, i, one, 4, -1)] ++ (evs lv l i n two p ++ [(3, i, one, 4, 1)]) else evs lv l i n two (p - 1)) ++ [(1, i, k, if (nd l k).1 = 6 then 3 else 1, -1)])) = [(kd, i, k, pr, 1)] := by
        by_cases c2 : (nd l k).1 = 2
        · refine ⟨5, 4, ?_, ?_⟩
          · rw [if_pos c2, f_Md_goesOn_b58, if_pos c2, f_Md_goesOn_b70]
          · rw [if_pos c2]
        · refine ⟨0, 1, ?_, ?_⟩
          · rw [if_neg c2, f_Md_goesOn_b58, if_neg c2, f_Md_goesOn_b70]
          · rw [if_neg c2, if_pos a0]
      obtain ⟨kd, pr, l1, l2⟩ := leaf
      rw [l2] at hlen ⊢
      rw [l1] at ge
      obtain ⟨M1, e1, p1, q1, z1⟩ := pop_ok (tp := tp) (nn := k) (kd := kd) (pr := pr) (mo := 1) hP (by simp at hlen; omega) hE.1 hT.1
      exact ⟨1, M1, by omega, RUN.one hT.1 (by omega) (ge.trans e1), p1, q1, z1⟩
    have n2 : ¬ (nd l k).1 = 2 := fun q => a0 (by rw [q]; exact ar2)
    rw [if_neg n2, if_neg a0] at hlen ⊢
    rw [if_pos (ar_3.mpr a0)] at ge
    by_cases a1 : ar (nd l k).1 = 1
    · have c3 : (nd l k).1 = 3 := by
        rcases Decidable.em ((nd l k).1 = 3) with q | q
        · exact q
        · rw [ar, if_pos (ar_3.mpr a0), if_neg q] at a1; omega
      rw [if_pos a1] at hlen ⊢
      rw [List.length_append, List.length_cons, List.length_nil] at hlen
      have hk1 := wf_1 hw hk a1
      have hdd : (tr lv l k).2.2.1 = (tr lv l (k + 1)).2.2.1 + 1 := by rw [tr_a1 hk a1]
      have hss : (tr lv l k).1 = (tr lv l (k + 1)).1 + 1 := by rw [tr_a1 hk a1]
      have hT1 := st_t (s' := 1) hT
      have e37 : (mset M 227 tp (nI 1)).1 208 37 = nI (tp + 1) := hT1.1
      rw [if_pos c3, gd_of gtp, if_pos nI_0, gd_of gtp, bm_e, ixN (by omega)] at ge
      rw [show (mset M 227 tp 1) = mset M 227 tp (nI 1) from rfl, pushes_e e37 (by omega), bd_s] at ge
      obtain ⟨c, M3, h1, h2, h3, h4, h5⟩ := part_ok (u := k + 1) (q := p) (c0 := 3 * (tr lv l (k + 1)).1) (ev := evs lv l i n (k + 1) p) (by omega) hT1 (st_p hP) (fun M2 E2 P2 T2 => ih (k + 1) (tp + 1) p M2 t (by omega) hk1 (by omega) E2 P2 T2 (by omega)) (hE.q st_q)
      have ge2 := gos_e h5 ((hE.q st_q).q h4) hk hl60 (by omega)
      rw [if_pos (ar_3.mpr a0), if_pos c3, gd_of gtp, if_neg (show ¬ nI 1 = 0 by decide)] at ge2
      obtain ⟨M4, e4, p4, q4, z4⟩ := pop_ok (tp := tp) (nn := k) (kd := 1) (pr := 1) (mo := 0) h3 (by rw [List.length_append]; omega) ((hE.q st_q).q h4).1 h5.1
      refine ⟨1 + (c + 1), M4, by omega, (RUN.one hT.1 (by omega) ge).tr (h2.tr (RUN.one h5.1 (by omega) (ge2.trans e4))), by rw [← List.append_assoc]; exact p4, (st_q.tr h4).tr q4, z4⟩
    rw [if_neg a1] at hlen ⊢
    have ha : ar (nd l k).1 = 2 := by have := ar_le (nd l k).1; omega
    obtain ⟨b1, b2⟩ := wf_2 (lv := lv) hw hk ha
    have hdd : (tr lv l k).2.2.1 = max (tr lv l (k + 1)).2.2.1 (tr lv l (k + 1 + (tr lv l (k + 1)).1)).2.2.1 + 1 := by rw [tr_a2 hk ha]
    have hss : (tr lv l k).1 = (tr lv l (k + 1)).1 + (tr lv l (k + 1 + (tr lv l (k + 1)).1)).1 + 1 := by rw [tr_a2 hk ha]
    dsimp only at hlen ⊢
    obtain ⟨one, h1e⟩ : ∃ one, one = if (tr lv l (k + 1)).2.1 < (tr lv l (k + 1 + (tr lv l (k + 1)).1)).2.1 then k + 1 + (tr lv l (k + 1)).1 else k + 1 := ⟨_, rfl⟩
    obtain ⟨two, h2e⟩ : ∃ two, two = if (tr lv l (k + 1)).2.1 < (tr lv l (k + 1 + (tr lv l (k + 1)).1)).2.1 then k + 1 else k + 1 + (tr lv l (k + 1)).1 := ⟨_, rfl⟩
    have gp := fun (M : Mem) (s : Nat) (hT : TP M tp k p s) (hE : EB M i lv l) => gos_pair hw hT hE hk hl60 (by omega) ha h1e h2e
    rw [← h1e, ← h2e] at hlen ⊢
    have fact : one < l.length ∧ two < l.length ∧ k + 1 ≤ one ∧ k + 1 ≤ two ∧ (tr lv l one).2.2.1 + 1 ≤ (tr lv l k).2.2.1 ∧ (tr lv l two).2.2.1 + 1 ≤ (tr lv l k).2.2.1 ∧ (tr lv l one).1 + (tr lv l two).1 + 1 = (tr lv l k).1 := by
      by_cases cn : (tr lv l (k + 1)).2.1 < (tr lv l (k + 1 + (tr lv l (k + 1)).1)).2.1
      · rw [if_pos cn] at h1e h2e
        rw [h1e, h2e]
        exact ⟨b2, b1, by omega, by omega, by omega, by omega, by omega⟩
      · rw [if_neg cn] at h1e h2e
        rw [h1e, h2e]
        exact ⟨b1, b2, by omega, by omega, by omega, by omega, by omega⟩
    clear h1e h2e
    obtain ⟨f1, f2, f3, f4, f5, f6, f7⟩ := fact
    simp only [List.length_append, List.length_cons, List.length_nil] at hlen
    -- the first part
    have g0 := gp M 0 hT hE
    rw [b249_0 hT (by omega)] at g0
    obtain ⟨c1, M3, h1, h2, h3, h4, h5⟩ := part_ok (u := one) (q := p) (c0 := 3 * (tr lv l one).1) (ev := evs lv l i n one p) (by omega) (st_t (s' := 1) hT) (st_p hP) (fun M2 E2 P2 T2 => ih one (tp + 1) p M2 t (by omega) f1 (by omega) E2 P2 T2 (by omega)) (hE.q st_q)
    have hE3 := (hE.q st_q).q h4
    have R1 := (RUN.one hT.1 (by omega) g0).tr h2
    have Q1 := st_q.tr h4
    -- the second part
    have g1 := gp M3 1 h5 hE3
    have T4 := st_t (s' := 2) h5
    have P4 := st_p (tp := tp) (v := nI 2) h3
    have E4 := hE3.q (st_q (tp := tp) (v := nI 2))
    have s3 : M3.1 227 tp = nI 1 := h5.2.2.2
    rw [f_Md_goesOn_b249, gd_of gtp, gd_of gtp, ixN (show tp < 2 ^ 31 by omega), s3, nI_s, bm_e, gd_of gtp] at g1
    have e227 : (mset M3 227 tp (nI 2)).1 227 tp = nI 2 := T4.2.2.2
    rw [if_neg (by rw [e227]; decide), gd_of gtp, if_pos (by rw [e227]; rfl)] at g1
    generalize hM4 : mset M3 227 tp (nI 2) = M4 at *
    have Q4 : QF tp M3 M4 := by rw [← hM4]; exact st_q
    by_cases cp : p ≤ nI (tr lv l two).2.1
    · rw [if_pos cp] at hlen ⊢
      rw [if_pos cp, if_pos rfl] at g1
      simp only [List.length_append, List.length_cons, List.length_nil] at hlen
      obtain ⟨M5, e5, p5, q5, x37, x5, x6, x7⟩ := does_q (tp := tp) (nn := one) (kd := 2) (pr := 4) (mo := -1) P4 (by rw [List.length_append]; omega) E4.1
      have T5 : TP M5 tp k p 2 := by
        obtain ⟨y1, y2, y3, y4⟩ := T4
        exact ⟨by rw [x37]; exact y1, by rw [x5]; exact y2, by rw [x6]; exact y3, by rw [x7]; exact y4⟩
      have E5 := E4.q q5
      rw [e5, bd_s, f_Md_goesOn_b306, if_pos rfl, f_Md_goesOn_b323, pushes_e T5.1 (by omega), bd_s] at g1
      obtain ⟨c2, M6, k1, k2, k3, k4, k5⟩ := part_ok (u := two) (q := p) (c0 := 3 * (tr lv l two).1) (ev := evs lv l i n two p) (by omega) T5 p5 (fun M2 E2 P2 T2 => ih two (tp + 1) p M2 _ (by omega) f2 (by omega) E2 P2 T2 (by simp only [List.length_append, List.length_cons, List.length_nil]; omega)) E5
      have E6 := E5.q k4
      have R2 := R1.tr ((RUN.one h5.1 (by omega) g1).tr k2)
      have Q2 := (Q1.tr Q4).tr (q5.tr k4)
      -- the last
      have g2 := gp M6 2 k5 E6
      have T7 := st_t (s' := 3) k5
      have P7 := st_p (tp := tp) (v := nI 3) k3
      have E7 := E6.q (st_q (tp := tp) (v := nI 3))
      have s6 : M6.1 227 tp = nI 2 := k5.2.2.2
      rw [f_Md_goesOn_b249, gd_of gtp, gd_of gtp, ixN (show tp < 2 ^ 31 by omega), s6, nI_s, bm_e, gd_of gtp] at g2
      have e227 : (mset M6 227 tp (nI 3)).1 227 tp = nI 3 := T7.2.2.2
      rw [if_neg (by rw [e227]; decide), gd_of gtp, if_neg (by rw [e227]; decide), if_pos cp, if_pos rfl] at g2
      generalize hM7 : mset M6 227 tp (nI 3) = M7 at *
      have Q7 : QF tp M6 M7 := by rw [← hM7]; exact st_q
      obtain ⟨M8, e8, p8, q8, v37, v5, v6, v7⟩ := does_q (tp := tp) (nn := one) (kd := 3) (pr := 4) (mo := 1) P7 (by simp only [List.length_append, List.length_cons, List.length_nil]; omega) E7.1
      have h37 : M8.1 208 37 = nI (tp + 1) := by rw [v37]; exact T7.1
      have E8 := E7.q q8
      rw [e8, bd_s, f_Md_goesOn_b343] at g2
      have last : ∀ pr : Int32, f_Md_goesOn M6 = f_Md_goesOn_b358 pr (nI k) 1 M8 → ∃ c M', c ≤ 3 * (tr lv l k).1 ∧ RUN M c M' ∧ PB M' (t ++ (evs lv l i n one p ++ (([(2, i, one, 4, -1)] ++ (evs lv l i n two p ++ [(3, i, one, 4, 1)])) ++ [(1, i, k, pr, -1)]))) w ∧ QF tp M M' ∧ M'.1 208 37 = nI tp := by
        intro pr g3
        obtain ⟨M9, e9, p9, q9, z9⟩ := pop_ok (tp := tp) (nn := k) (kd := 1) (pr := pr) (mo := -1) p8 (by simp only [List.length_append, List.length_cons, List.length_nil]; omega) E8.1 h37
        refine ⟨_, M9, ?_, R2.tr (RUN.one k5.1 (by omega) (g3.trans e9)), ?_, (Q2.tr Q7).tr (q8.tr q9), z9⟩
        · omega
        · simp only [List.append_assoc] at p9 ⊢
          exact p9
      by_cases c6 : (nd l k).1 = 6
      · rw [if_pos c6] at g2 ⊢
        exact last 3 g2
      · rw [if_neg c6] at g2 ⊢
        exact last 1 g2
    · rw [if_neg cp] at hlen ⊢
      rw [if_neg cp, if_neg (by decide), f_Md_goesOn_b306, if_neg (by decide), f_Md_goesOn_b323, pushes_e T4.1 (by omega), bd_s] at g1
      obtain ⟨c2, M6, k1, k2, k3, k4, k5⟩ := part_ok (u := two) (q := p - 1) (c0 := 3 * (tr lv l two).1) (ev := evs lv l i n two (p - 1)) (by omega) T4 P4 (fun M2 E2 P2 T2 => ih two (tp + 1) (p - 1) M2 _ (by omega) f2 (by omega) E2 P2 T2 (by simp only [List.length_append]; omega)) E4
      have E6 := E4.q k4
      have R2 := R1.tr ((RUN.one h5.1 (by omega) g1).tr k2)
      have Q2 := (Q1.tr Q4).tr k4
      have g2 := gp M6 2 k5 E6
      have T7 := st_t (s' := 3) k5
      have P7 := st_p (tp := tp) (v := nI 3) k3
      have E7 := E6.q (st_q (tp := tp) (v := nI 3))
      have s6 : M6.1 227 tp = nI 2 := k5.2.2.2
      rw [f_Md_goesOn_b249, gd_of gtp, gd_of gtp, ixN (show tp < 2 ^ 31 by omega), s6, nI_s, bm_e, gd_of gtp] at g2
      have e227 : (mset M6 227 tp (nI 3)).1 227 tp = nI 3 := T7.2.2.2
      rw [if_neg (by rw [e227]; decide), gd_of gtp, if_neg (by rw [e227]; decide), if_neg cp, if_neg (by decide)] at g2
      generalize hM7 : mset M6 227 tp (nI 3) = M7 at *
      have Q7 : QF tp M6 M7 := by rw [← hM7]; exact st_q
      rw [f_Md_goesOn_b343] at g2
      have last : ∀ pr : Int32, f_Md_goesOn M6 = f_Md_goesOn_b358 pr (nI k) 1 M7 → ∃ c M', c ≤ 3 * (tr lv l k).1 ∧ RUN M c M' ∧ PB M' (t ++ (evs lv l i n one p ++ (evs lv l i n two (p - 1) ++ [(1, i, k, pr, -1)]))) w ∧ QF tp M M' ∧ M'.1 208 37 = nI tp := by
        intro pr g3
        obtain ⟨M9, e9, p9, q9, z9⟩ := pop_ok (tp := tp) (nn := k) (kd := 1) (pr := pr) (mo := -1) P7 (by simp only [List.length_append]; omega) E7.1 T7.1
        refine ⟨_, M9, ?_, R2.tr (RUN.one k5.1 (by omega) (g3.trans e9)), ?_, (Q2.tr Q7).tr q9, z9⟩
        · omega
        · simp only [List.append_assoc] at p9 ⊢
          exact p9
      by_cases c6 : (nd l k).1 = 6
      · rw [if_pos c6] at g2 ⊢
        exact last 3 g2
      · rw [if_neg c6] at g2 ⊢
        exact last 1 g2
