/-! plan, step, costWith, enough, on the reference's side -/
def QL (M M' : Mem) : Prop := Off (fun a => a = 208 ∨ (224 ≤ a ∧ a ≤ 227)) M M' ∧ ∀ k, k < 25 → M'.1 208 k = M.1 208 k
theorem QL.rf {M : Mem} : QL M M := ⟨Off.rf, fun _ _ => rfl⟩
theorem QL.tr {M M1 M2 : Mem} (h : QL M M1) (g : QL M1 M2) : QL M M2 := ⟨h.1.tr g.1, fun k hk => (g.2 k hk).trans (h.2 k hk)⟩
theorem QF.ql {tp : Nat} {M M' : Mem} (h : QF tp M M') : QL M M' := ⟨h.1, fun k hk => h.2.1 k (Or.inl hk)⟩
theorem QL.set {M : Mem} {k : Nat} {v : Int32} (h : 25 ≤ k) : QL M (mset M 208 k v) := ⟨Off.set (Or.inl rfl), fun j hj => by
  have : j ≠ k := by omega
  simp [ms1, this]⟩
theorem XAA.ql {M M' : Mem} {st : St} (h : XAA M st) (hq : QL M M') : XAA M' st := fun i hi => by
  have e : ∀ a, 216 ≤ a → a ≤ 223 → M'.1 a = M.1 a := fun a h1 h2 => hq.1.1 a (by omega)
  have := h i hi
  unfold XAi KA TR at this ⊢
  rw [e 216 (by omega) (by omega), e 217 (by omega) (by omega), e 218 (by omega) (by omega), e 219 (by omega) (by omega), e 220 (by omega) (by omega), e 221 (by omega) (by omega), e 222 (by omega) (by omega), e 223 (by omega) (by omega)]
  exact this
theorem EB_of {M : Mem} {st : St} (hk : OKS st.1) (hE : XAA M st) {i : Nat} (hi : i < st.1.length) (h33 : M.1 208 33 = nI i) : EB M i (lvS st i) (XX st i).1 := by
  obtain ⟨h1, -, h3⟩ := hE i hi
  exact ⟨h33, by have := hk.1.2; omega, fun k hk2 => ⟨(h1.2 k hk2).1, (h3 k (by omega) hk2).1, (h3 k (by omega) hk2).2.1⟩⟩
theorem plans41 {st : St} (hk : OKS st.1) {p w : Int32} : ∀ (n j : Nat) (M : Mem), j ≤ st.1.length → st.1.length - j < n → XAA M st → M.1 209 0 = nI st.1.length → PB M (trA st p j) w →
    ∃ M', f_Md_plans_b41 n p (nI j) M = some ((), M') ∧ PB M' (trS st p) w ∧ QL M M' := by
  have h6 := hk.1.2
  intro n
  induction n with
  | zero => intro j M _ h; omega
  | succ n ih =>
    intro j M hj hn hE h9 hP
    rw [f_Md_plans_b41, gd_of (by decide), show ix 0 = 0 from rfl, h9]
    by_cases c : j = st.1.length
    · subst c
      rw [if_pos (nI_le (Nat.le_refl _) (by omega))]
      exact ⟨M, rfl, hP, QL.rf⟩
    · have hj6 : j < st.1.length := by omega
      have g6 : inb (nI j) 6 = true := inbT (by omega) (by omega)
      rw [if_neg (nI_ge hj6 (by omega)), bm_e, bm_e, gd_of g6, ixN (show j < 2 ^ 31 by omega), mset_ne (show (223 : Nat) ≠ 208 by omega), mset_ne (show (223 : Nat) ≠ 208 by omega), (hE j hj6).2.1]
      have Q2 : QL M (mset (mset M 208 33 (nI j)) 208 37 0) := (QL.set (by omega)).tr (QL.set (by omega))
      have e33 : (mset (mset M 208 33 (nI j)) 208 37 0).1 208 33 = nI j := by simp [ms1]
      have e37 : (mset (mset M 208 33 (nI j)) 208 37 0).1 208 37 = nI 0 := by simp [ms1, nI_0]
      have P2 : PB (mset (mset M 208 33 (nI j)) 208 37 0) (trA st p j) w := hP.keep (fun k h1 h2 => by
        have e1 : k ≠ 33 := by omega
        have e2 : k ≠ 37 := by omega
        simp [ms1, e1, e2]) (by rw [mset_ne (by omega), mset_ne (by omega)])
      generalize hM2 : mset (mset M 208 33 (nI j)) 208 37 0 = M2 at *
      have E2 := hE.ql Q2
      have s9 : M2.1 209 0 = nI st.1.length := by rw [Q2.1.1 209 (by omega)]; exact h9
      by_cases d : (XX st j).2.1 = true
      · rw [if_pos d, if_neg (by decide), show FU = 4095 + 1 from rfl, f_Md_plans_b76, e37, if_pos (by decide), gd_of g6, ixN (show j < 2 ^ 31 by omega), (E2 j hj6).2.1, if_pos d, if_neg (by decide), bi_e, nI_s]
        obtain ⟨M3, e3, p3, q3⟩ := ih (j + 1) M2 (by omega) (by omega) E2 s9 (by rw [trA, trF, if_pos d, List.append_nil]; exact P2)
        exact ⟨M3, e3, p3, Q2.tr q3⟩
      · obtain ⟨w1, w2, -⟩ := XX_ok hk hj6
        have hl1 := trA_len hk (p := p) j (by omega)
        have hl2 := trF_len hk (p := p) hj6
        have hdp := XX_deep hk hj6
        have hle := hl2
        rw [trF, if_neg d, List.length_append] at hle
        have hEB := EB_of hk E2 hj6 e33
        have hs := (wf_size (lv := lvS st j) w1 (wf_len w1)).2
        obtain ⟨c, M3, r1, r2, r3, r4, r5⟩ := run_ok w1 w2 60 0 0 p (pushM M2 0 (nI 0) p) (trA st p j) (by omega) (wf_len w1) (by omega) (hEB.q push_q) (push_p P2) push_t (by omega)
        have Q3 := (Q2.tr (push_q (tq := 0) (x1 := nI 0) (x2 := p)).ql).tr r4.ql
        have E3 := hE.ql Q3
        have s93 : M3.1 209 0 = nI st.1.length := by rw [Q3.1.1 209 (by omega)]; exact h9
        obtain ⟨m, hm⟩ : ∃ m, FU = (m + 1) + c := ⟨FU - c - 1, by rw [FU_e]; omega⟩
        have e330 : M3.1 208 33 = nI j := (hEB.q (push_q.tr r4)).1
        have hm1 : nI st.1.length - 1 = nI (st.1.length - 1) := by
          obtain ⟨z, hz⟩ : ∃ z, st.1.length = z + 1 := ⟨st.1.length - 1, by omega⟩
          rw [hz, nI_m1]; rfl
        rw [if_neg d, if_pos rfl]
        rw [show f_Md_pushes 0 p M2 = _ from pushes_e e37 (by omega), bd_s, hm]
        rw [show pushM M2 0 0 p = pushM M2 0 (nI 0) p from rfl, r2 (f_Md_plans_b41 n) p (nI j) (m + 1), f_Md_plans_b76, r5, if_pos (by decide), gd_of g6, ixN (show j < 2 ^ 31 by omega), (E3 j hj6).2.1, if_neg d, if_pos rfl, gd_of (by decide), show ix 0 = 0 from rfl, s93, hm1]
        by_cases cl : j + 1 < st.1.length
        · rw [if_neg (nI_ge (by omega) (by omega))]
          obtain ⟨M4, e4, p4, o4, z4⟩ := does_ok (kd := 4) (pr := 4) (mo := -1) (nn := 0) (i := j) r3 (by rw [List.length_append]; omega) e330
          have Q4 : QL M3 M4 := ⟨o4.mono (fun a q => by omega), fun k hk => z4 k (Or.inl hk)⟩
          rw [show f_Md_does 4 0 4 (-1) M3 = some ((), M4) from e4, bd_s, bi_e, nI_s]
          obtain ⟨M5, e5, p5, q5⟩ := ih (j + 1) M4 (by omega) (by omega) (E3.ql Q4) (by rw [Q4.1.1 209 (by omega)]; exact s93) (by rw [trA, trF, if_neg d, if_pos cl, ← List.append_assoc]; exact p4)
          exact ⟨M5, e5, p5, (Q3.tr Q4).tr q5⟩
        · rw [if_pos (nI_le (by omega) (by omega)), bi_e, nI_s]
          obtain ⟨M5, e5, p5, q5⟩ := ih (j + 1) M3 (by omega) (by omega) E3 s93 (by rw [trA, trF, if_neg d, if_neg cl, List.append_nil]; exact r3)
          exact ⟨M5, e5, p5, Q3.tr q5⟩
theorem plans_ok {M : Mem} {s : S3} (h : RepR M s) (hk : OKs s) (p w : Int32) : ∃ M', f_Md_plans p w M = some ((), M') ∧ PB M' (trS s.2.1 p) w ∧ RepR M' s ∧ OffR M M' := by
  have hks := hk.2.2.1
  obtain ⟨M1, e1, hE, ho⟩ := lays_ok hks M h.2.1
  obtain ⟨hR, hF⟩ := h.lays ho
  have hS := hR.2.1
  rw [f_Md_plans, e1, bd_s]
  simp only [bm_e]
  have Q2 : QL M1 (mset (mset (mset (mset (mset (mset (mset M1 208 25 0) 208 26 0) 208 27 0) 208 28 0) 208 29 0) 208 30 0) 208 31 w) :=
    ((((((QL.set (by omega)).tr (QL.set (by omega))).tr (QL.set (by omega))).tr (QL.set (by omega))).tr (QL.set (by omega))).tr (QL.set (by omega))).tr (QL.set (by omega))
  have P2 : PB (mset (mset (mset (mset (mset (mset (mset M1 208 25 0) 208 26 0) 208 27 0) 208 28 0) 208 29 0) 208 30 0) 208 31 w) [] w := by
    refine ⟨?_, fun j _ hj => absurd hj (Nat.not_lt_zero _)⟩
    simp [ms1, tC, tS, tF, tO, tH, nI_0]
  generalize mset (mset (mset (mset (mset (mset (mset M1 208 25 0) 208 26 0) 208 27 0) 208 28 0) 208 29 0) 208 30 0) 208 31 w = M2 at *
  obtain ⟨M3, e3, p3, q3⟩ := plans41 hks (p := p) (w := w) FU 0 M2 (by omega) (by rw [FU_e]; have := hks.1.2; omega) (hE.ql Q2) (by rw [Q2.1.1 209 (by omega)]; exact hS.1) P2
  have Q := Q2.tr q3
  exact ⟨M3, e3, p3, hR.keep (Q.2 2 (by omega)) (Q.2 4 (by omega)) (Q.1.1 209 (by omega)) (Q.1.1 210 (by omega)) (Q.1.1 211 (by omega)), hF.tr (OffR.of Q.1 (fun a ha q => by omega))⟩
theorem r_plan {M : Mem} {s : S3} (h : RepR M s) (hk : OKs s) (x : Int32) : ∃ M', f_Md_plan x M = some (a_plan s.2.1 x, M') ∧ RepR M' s ∧ OffR M M' := by
  rw [f_Md_plan, in_ok, bd_s, a_plan]
  by_cases c1 : x < 0
  · have z : ∀ v : Int32, 0 ≤ v → ¬ x = v := fun v hv q => by rw [q] at c1; exact Int32.not_lt.mpr hv c1
    rw [if_pos c1, if_pos rfl, if_neg (z 0 (by decide)), if_neg (z 1 (by decide)), if_neg (z 2 (by decide)), if_neg (z 3 (by decide)), if_neg (z 4 (by decide))]
    exact ⟨M, rfl, h, OffR.rf⟩
  rw [if_neg c1]
  by_cases c2 : 4 < x
  · have z : ∀ v : Int32, v ≤ 4 → ¬ x = v := fun v hv q => by rw [q] at c2; exact Int32.not_lt.mpr hv c2
    rw [if_pos c2, if_pos rfl, if_neg (z 0 (by decide)), if_neg (z 1 (by decide)), if_neg (z 2 (by decide)), if_neg (z 3 (by decide)), if_neg (z 4 (by decide))]
    exact ⟨M, rfl, h, OffR.rf⟩
  rw [if_neg c2, if_neg (by decide), gd_of (by decide), show ix 1 = 1 from rfl]
  rw [show M.1 209 1 = s.2.1.2.2 from h.2.1.2.1]
  obtain ⟨M1, e1, ⟨⟨h5, h6, h7, h8, h9, -, -⟩, -⟩, r1, o1⟩ := plans_ok h hk s.2.1.2.2 (-1000009)
  rw [e1, bd_s, h5, h6, h7, h8, h9]
  refine ⟨M1, ?_, r1, o1⟩
  by_cases d0 : x = 0
  · rw [if_pos d0, if_pos d0]
  rw [if_neg d0, if_neg d0]
  by_cases d1 : x = 1
  · rw [if_pos d1, if_pos d1]
  rw [if_neg d1, if_neg d1]
  by_cases d2 : x = 2
  · rw [if_pos d2, if_pos d2]
  rw [if_neg d2, if_neg d2]
  by_cases d3 : x = 3
  · rw [if_pos d3, if_pos d3]
  rw [if_neg d3, if_neg d3]
  have d4 : x = 4 := by
    obtain ⟨z, rfl, hz⟩ := nonneg_nI c1
    have : z ≤ 4 := by
      rcases Nat.lt_or_ge 4 z with q | q
      · exact absurd (show (4 : Int32) < nI z from nI_lt q hz) c2
      · exact q
    have hne : ∀ v, v < 2 ^ 31 → ¬ nI z = nI v → z ≠ v := fun v hv q r => q (by rw [r])
    have := hne 0 (by omega) d0
    have := hne 1 (by omega) d1
    have := hne 2 (by omega) d2
    have := hne 3 (by omega) d3
    have : z = 4 := by omega
    rw [this]; rfl
  rw [if_pos d4]
theorem r_step {M : Mem} {s : S3} (h : RepR M s) (hk : OKs s) (x w : Int32) : ∃ M', f_Md_step x w M = some (a_step s.2.1 x w, M') ∧ RepR M' s ∧ OffR M M' := by
  rw [f_Md_step, a_step]
  by_cases c1 : x < 0
  · rw [if_pos c1, if_pos c1]; exact ⟨M, rfl, h, OffR.rf⟩
  rw [if_neg c1, if_neg c1, in_ok, bd_s]
  by_cases c2 : w < 0
  · rw [if_pos c2, if_pos c2, if_pos rfl]; exact ⟨M, rfl, h, OffR.rf⟩
  rw [if_neg c2, if_neg c2]
  by_cases c3 : 3 < w
  · rw [if_pos c3, if_pos rfl, if_neg (Int32.not_le.mpr c3)]; exact ⟨M, rfl, h, OffR.rf⟩
  rw [if_neg c3, if_neg (by decide), if_pos (Int32.not_lt.mp c3), gd_of (by decide), show ix 1 = 1 from rfl]
  rw [show M.1 209 1 = s.2.1.2.2 from h.2.1.2.1]
  obtain ⟨M1, e1, ⟨⟨h5, -⟩, hrow⟩, r1, o1⟩ := plans_ok h hk s.2.1.2.2 x
  have hl := trS_len hk.2.2.1 (p := s.2.1.2.2)
  obtain ⟨k, rfl, hk31⟩ := nonneg_nI c1
  rw [e1, bd_s, h5, ixN hk31]
  refine ⟨M1, ?_, r1, o1⟩
  by_cases c4 : k < (trS s.2.1 s.2.1.2.2).length
  · rw [if_neg (nI_ge c4 (by omega)), if_pos c4]
    obtain ⟨q0, q1, q2, q3⟩ := hrow k rfl c4
    obtain ⟨z, rfl, hz⟩ := nonneg_nI c2
    have hz4 : z ≤ 3 := by
      rcases Nat.lt_or_ge 3 z with q | q
      · exact absurd (show (3 : Int32) < nI z from nI_lt q hz) c3
      · exact q
    rw [gd_of (inbT (by omega) (by omega)), ixN hz]
    have hne : ∀ v, v < 2 ^ 31 → z ≠ v → ¬ nI z = nI v := fun v hv q r => q ((nI_eq hz hv).mp r)
    by_cases d0 : z = 0
    · rw [d0, if_pos nI_0, q0]
    rw [if_neg (show ¬ nI z = 0 from hne 0 (by omega) d0)]
    by_cases d1 : z = 1
    · rw [d1, if_pos (show nI 1 = 1 from rfl), q1]
    rw [if_neg (show ¬ nI z = 1 from hne 1 (by omega) d1)]
    by_cases d2 : z = 2
    · rw [d2, if_pos (show nI 2 = 2 from rfl), q2]
    rw [if_neg (show ¬ nI z = 2 from hne 2 (by omega) d2)]
    have d3 : z = 3 := by omega
    rw [d3, q3]
  · rw [if_pos (nI_le (by omega) hk31), if_neg c4]
theorem r_cost {M : Mem} {s : S3} (h : RepR M s) (hk : OKs s) (x : Int32) : ∃ M', f_Md_costWith x M = some (a_cost s.2.1 x, M') ∧ RepR M' s ∧ OffR M M' := by
  rw [f_Md_costWith, in_ok, bd_s, a_cost]
  by_cases c1 : x < 2
  · rw [if_pos c1, if_pos c1, if_pos rfl]; exact ⟨M, rfl, h, OffR.rf⟩
  rw [if_neg c1, if_neg c1]
  by_cases c2 : 8 < x
  · rw [if_pos c2, if_pos c2, if_pos rfl]; exact ⟨M, rfl, h, OffR.rf⟩
  rw [if_neg c2, if_neg c2, if_neg (by decide)]
  obtain ⟨M1, e1, p1, r1, o1⟩ := plans_ok h hk x (-1000009)
  rw [e1, bd_s, p1.1.2.1]
  exact ⟨M1, rfl, r1, o1⟩
theorem tS_cnt (t : List Ev) : ∀ a : Nat, t.foldl (fun a e => a + (if e.1 = 2 then 1 else 0)) (nI a) = nI (a + t.countP fun e => e.1 == 2) := by
  induction t with
  | nil => intro a; rfl
  | cons e t ih =>
    intro a
    rw [List.foldl_cons, List.countP_cons]
    by_cases c : e.1 = 2
    · rw [if_pos c, nI_s, ih, if_pos (by simp [c])]
      congr 1; omega
    · rw [if_neg c, nI_z, ih, if_neg (by simp [c])]
      congr 1
theorem tS_0 {t : List Ev} (h : t.length ≤ 720) : tS t ≤ 0 ↔ tS t = 0 := by
  have e := tS_cnt t 0
  rw [nI_0, Nat.zero_add] at e
  have e2 : tS t = nI (t.countP fun e => e.1 == 2) := e
  have hc := List.countP_le_length (p := fun e : Ev => e.1 == 2) (l := t)
  rw [e2, ← nI_0]
  refine ⟨fun q => ?_, fun q => by rw [q]; exact Int32.le_refl _⟩
  rcases Nat.eq_zero_or_pos (t.countP fun e => e.1 == 2) with z | z
  · rw [z]
  · exact absurd q (nI_ge z (by omega))
theorem ren_loop {s : S3} (hk : OKs s) : ∀ (n m j : Nat) (M : Mem), j ≤ 8 → 8 - j < n → 8 - j ≤ m → RepR M s → PB M (trS s.2.1 (nI j)) (-1000009) → ∃ M', f_Md_enough_b9 n (nI j) M = some (enN s.2.1 m (nI j), M') ∧ RepR M' s ∧ OffR M M' := by
  intro n
  induction n with
  | zero => intro m j M _ h; omega
  | succ n ih =>
    intro m j M hj hn hm h hP
    rw [f_Md_enough_b9, hP.1.2.2.1]
    have hl := trS_len hk.2.2.1 (p := nI j)
    by_cases c : 8 ≤ j
    · have e8 : j = 8 := by omega
      subst e8
      have ee : enN s.2.1 m (nI 8) = nI 8 := by
        cases m with
        | zero => rfl
        | succ m => rw [enN, if_pos (by rw [l8]; exact nI_le c (by omega))]; rfl
      rw [ee]
      refine ⟨M, ?_, h, OffR.rf⟩
      split
      · rfl
      · rw [if_pos (by decide)]
    · obtain ⟨m', rfl⟩ : ∃ m', m = m' + 1 := ⟨m - 1, by omega⟩
      have c8 : ¬ (8 : Int32) ≤ nI j := by rw [l8]; exact nI_ge (by omega) (by omega)
      rw [enN]
      by_cases d : tS (trS s.2.1 (nI j)) = 0
      · rw [if_pos ((tS_0 hl).mpr d), if_neg c8, if_pos d]
        exact ⟨M, rfl, h, OffR.rf⟩
      · rw [if_neg (fun q => d ((tS_0 hl).mp q)), if_neg c8, if_neg c8, if_neg d, bi_e, nI_s]
        obtain ⟨M1, e1, p1, r1, o1⟩ := plans_ok h hk (nI (j + 1)) (-1000009)
        rw [e1, bd_s]
        obtain ⟨M2, e2, r2, o2⟩ := ih m' (j + 1) M1 (by omega) (by omega) (by omega) r1 p1
        exact ⟨M2, e2, r2, o1.tr o2⟩
theorem r_enough {M : Mem} {s : S3} (h : RepR M s) (hk : OKs s) : ∃ M', f_Md_enough M = some (enN s.2.1 6 2, M') ∧ RepR M' s ∧ OffR M M' := by
  obtain ⟨M1, e1, p1, r1, o1⟩ := plans_ok h hk 2 (-1000009)
  rw [f_Md_enough, e1, bd_s]
  obtain ⟨M2, e2, r2, o2⟩ := ren_loop hk FU 6 2 M1 (by omega) (by rw [FU_e]; omega) (by omega) r1 p1
  exact ⟨M2, e2, r2, o1.tr o2⟩
