/-! plan, step, costWith, enough, on the class's side -/
def trF (st : St) (p : Int32) (i : Nat) : List Ev := if (XX st i).2.1 = true then [] else evs (lvS st i) (XX st i).1 i 60 0 p ++ (if i + 1 < st.1.length then [(4, i, 0, 4, -1)] else [])
def trA (st : St) (p : Int32) : Nat → List Ev
  | 0 => []
  | n + 1 => trA st p n ++ trF st p n
def trS (st : St) (p : Int32) : List Ev := trA st p st.1.length
theorem trF_len {st : St} (hk : OKS st.1) {p : Int32} {i : Nat} (hi : i < st.1.length) : (trF st p i).length ≤ 120 := by
  obtain ⟨w1, w2, -⟩ := XX_ok hk hi
  have h1 := evs_len (lv := lvS st i) (i := i) w1 60 0 p (wf_len w1)
  have h2 := wf_size (lv := lvS st i) w1 (wf_len w1)
  rw [trF]
  split
  · simp
  · rw [List.length_append]
    split <;> simp <;> omega
theorem trA_len {st : St} (hk : OKS st.1) {p : Int32} : ∀ n, n ≤ st.1.length → (trA st p n).length ≤ 120 * n
  | 0, _ => by simp [trA]
  | n + 1, h => by
    rw [trA, List.length_append]
    have h1 := trA_len hk (p := p) n (by omega)
    have h2 := trF_len hk (p := p) (i := n) (by omega)
    omega
theorem XX_deep {st : St} (hk : OKS st.1) {i : Nat} (hi : i < st.1.length) : (tr (lvS st i) (XX st i).1 0).2.2.1 ≤ 32 := by
  obtain ⟨w1, w2, w3⟩ := hk.2 i hi
  have h1 := (mkX_ok hk (cells := st.2.1) i hi).1
  have h2 := exl_deep h1 (lv := lvS st i) ((gf st.1 i).length + 1) (gf st.1 i) [] (by omega) w1
  have e : (XX st i).1 = exl (XF st.1 st.2.1 i) (gf st.1 i) := rfl
  rw [e]
  simp at h2
  omega
theorem EL_of {M : Mem} {st : St} (hk : OKS st.1) (hE : EXA M st) (h0 : EX0 M) {i : Nat} (hi : i < st.1.length) : EL M (160 + 8 * i) i (lvS st i) (XX st i).1 := by
  have h6 := hk.1.2
  obtain ⟨e1, e2, e3⟩ := hE i hi
  exact ⟨sh_E8 (by omega), h0 i (by omega), e1, fun k hk2 => ⟨(e3 k (by omega) hk2).1, (e3 k (by omega) hk2).2.1⟩, by omega⟩
theorem planMake_loop {st : St} (hk : OKS st.1) {p : Int32} : ∀ (n j : Nat) (M : Mem), j ≤ st.1.length → st.1.length - j < n → EXA M st → EX0 M → PA M (trA st p j) →
    ∃ M', f_Plan_make_b33 n (nI st.1.length) p (nI j) M = some ((), M') ∧ PA M' (trS st p) ∧ Off RP M M' := by
  have h6 := hk.1.2
  intro n
  induction n with
  | zero => intro j M _ h; omega
  | succ n ih =>
    intro j M hj hn hE h0 hP
    rw [f_Plan_make_b33]
    by_cases c : j = st.1.length
    · subst c
      rw [if_pos (nI_le (Nat.le_refl _) (by omega))]
      exact ⟨M, rfl, hP, Off.rf⟩
    · have hj6 : j < st.1.length := by omega
      have g6 : inb (nI j) 6 = true := inbT (by omega) (by omega)
      rw [if_neg (nI_ge hj6 (by omega)), if_neg (by rw [l6]; exact nI_ge (by omega) (by omega)), gd_of g6, ixN (by omega), (hE j hj6).2.1]
      have hEX : ∀ {M1 : Mem}, Off RP M M1 → EXA M1 st ∧ EX0 M1 := fun ho => ⟨hE.off ho h6 (fun a ha q => by have : _ ∧ _ := ha; have : _ ∧ _ := q; omega), h0.off ho (fun a ha q => by have : _ ∧ _ := ha; have : _ ∧ _ := q; omega)⟩
      by_cases d : (XX st j).2.1 = true
      · rw [if_pos d, if_neg (by decide), bi_e, nI_s]
        exact ih (j + 1) M (by omega) (by omega) hE h0 (by rw [trA, trF, if_pos d, List.append_nil]; exact hP)
      · obtain ⟨w1, w2, -⟩ := XX_ok hk hj6
        have hl1 := trA_len hk (p := p) j (by omega)
        have hl2 := trF_len hk (p := p) hj6
        have hdp := XX_deep hk hj6
        have hel := EL_of hk hE h0 hj6
        have hle := hl2
        rw [trF, if_neg d, List.length_append] at hle
        obtain ⟨M1, e1, p1, o1⟩ := workOut_ok w1 w2 60 60 0 1 p M (trA st p j) (by omega) (Nat.le_refl _) (wf_len w1) (by omega) hel hP (by omega)
        rw [if_neg d, if_pos rfl, gd_of g6]
        rw [show f_Plan_workOut 60 (160 + 8 * j) 0 p 1 M = some ((), M1) from e1, bd_s]
        have hm : nI st.1.length - 1 = nI (st.1.length - 1) := by
          obtain ⟨z, hz⟩ : ∃ z, st.1.length = z + 1 := ⟨st.1.length - 1, by omega⟩
          rw [hz, nI_m1]; rfl
        rw [hm]
        obtain ⟨hE1, h01⟩ := hEX o1
        by_cases cl : j + 1 < st.1.length
        · rw [if_neg (nI_ge (by omega) (by omega)), gd_of g6]
          obtain ⟨M2, e2, p2, o2⟩ := addStep_ok (kd := 4) (pr := 4) (mo := -1) (nn := 0) (i := j) p1 (by rw [List.length_append]; omega) (by omega) (h01 j (by omega))
          rw [show f_Plan_addStep 4 (160 + 8 * j) 0 4 (-1) M1 = some ((), M2) from e2, bd_s, bi_e, nI_s]
          obtain ⟨hE2, h02⟩ := hEX (o1.tr o2)
          obtain ⟨M3, e3, p3, o3⟩ := ih (j + 1) M2 (by omega) (by omega) hE2 h02 (by rw [trA, trF, if_neg d, if_pos cl, ← List.append_assoc]; exact p2)
          exact ⟨M3, e3, p3, (o1.tr o2).tr o3⟩
        · rw [if_pos (nI_le (by omega) (by omega)), bi_e, nI_s]
          obtain ⟨M3, e3, p3, o3⟩ := ih (j + 1) M1 (by omega) (by omega) hE1 h01 (by rw [trA, trF, if_neg d, if_neg cl, List.append_nil]; exact p1)
          exact ⟨M3, e3, p3, o1.tr o3⟩
theorem planMake_ok {st : St} (hk : OKS st.1) (p : Int32) (M : Mem) (hE : EXA M st) (h0 : EX0 M) : ∃ M', f_Plan_make (nI st.1.length) p M = some ((), M') ∧ PA M' (trS st p) ∧ Off RP M M' := by
  have h6 := hk.1.2
  rw [f_Plan_make]
  simp only [bm_e]
  have o : Off RP M (mset (mset (mset (mset (mset (mset M 47 4 0) 47 5 0) 47 6 0) 47 7 0) 47 8 0) 47 9 0) :=
    (((((Off.set (by show _ ∧ _; omega)).tr (Off.set (by show _ ∧ _; omega))).tr (Off.set (by show _ ∧ _; omega))).tr (Off.set (by show _ ∧ _; omega))).tr (Off.set (by show _ ∧ _; omega))).tr (Off.set (by show _ ∧ _; omega))
  have hp : PA (mset (mset (mset (mset (mset (mset M 47 4 0) 47 5 0) 47 6 0) 47 7 0) 47 8 0) 47 9 0) [] := by
    refine ⟨?_, fun j hj => absurd hj (Nat.not_lt_zero _)⟩
    simp [ms1, tC, tS, tF, tO, tH, nI_0]
  obtain ⟨M1, e1, p1, o1⟩ := planMake_loop hk (p := p) FU 0 _ (by omega) (by rw [FU_e]; omega) (hE.off o h6 (fun a ha q => by have : _ ∧ _ := ha; have : _ ∧ _ := q; omega)) (h0.off o (fun a ha q => by have : _ ∧ _ := ha; have : _ ∧ _ := q; omega)) hp
  exact ⟨M1, e1, p1, o.tr o1⟩
/-- nothing that the state's rows tell is written by plans and tries -/
abbrev RPT : Nat → Prop := fun a => 47 ≤ a ∧ a ≤ 54
theorem RepC.off {M M' : Mem} {s : S3} (h : RepC M s) (hk : OKs s) (ho : Off RPT M M') : RepC M' s := by
  obtain ⟨⟨t1, t2⟩, hS, hH, hE, h0⟩ := h
  refine ⟨⟨by rw [ho.1 1 (fun q => by have : _ ∧ _ := q; omega)]; exact t1, fun i hi => by rw [ho.1 2 (fun q => by have : _ ∧ _ := q; omega)]; exact t2 i hi⟩, hS.off ho hk.2.2.1.1.2 (fun a ha q => by have : _ ∧ _ := ha; have : _ ∧ _ := q; omega), hH.off hk.2.2.2.1 ho (fun a ha q => by have : _ ∧ _ := q; omega), hE.off ho hk.2.2.1.1.2 (fun a ha q => by have : _ ∧ _ := ha; have : _ ∧ _ := q; omega), h0.off ho (fun a ha q => by have : _ ∧ _ := ha; have : _ ∧ _ := q; omega)⟩
theorem RP_RPT {M M' : Mem} (h : Off RP M M') : Off RPT M M' := h.mono (fun a q => by have : _ ∧ _ := q; show _ ∧ _; omega)
theorem RPT_C {M M' : Mem} (h : Off RPT M M') : OffC M M' := OffC.of h (fun a ha q => by have : _ ∧ _ := q; omega)
def a_plan (st : St) (w : Int32) : Int32 := if w = 0 then nI (trS st st.2.2).length else if w = 1 then tC (trS st st.2.2) else if w = 2 then tS (trS st st.2.2) else if w = 3 then tF (trS st st.2.2) else if w = 4 then tO (trS st st.2.2) else -1000001
def a_step (st : St) (x w : Int32) : Int32 :=
  if x < 0 then -1000001 else if w < 0 then -1000001 else if w ≤ 3 then
    (if ix x < (trS st st.2.2).length then
      (if w = 0 then ((trS st st.2.2).getD (ix x) ev0).1 else if w = 1 then nI ((trS st st.2.2).getD (ix x) ev0).2.1 else if w = 2 then nI ((trS st st.2.2).getD (ix x) ev0).2.2.1 else tH ((trS st st.2.2).take (ix x + 1)))
    else -1000009)
  else -1000001
def a_cost (st : St) (x : Int32) : Int32 := if x < 2 then -1000001 else if 8 < x then -1000001 else tC (trS st x)
def enN (st : St) : Nat → Int32 → Int32
  | 0, _ => 8
  | n + 1, x => if 8 ≤ x then 8 else if tS (trS st x) = 0 then x else enN st n (x + 1)
theorem trS_len {st : St} (hk : OKS st.1) {p : Int32} : (trS st p).length ≤ 720 := by
  have h := trA_len hk (p := p) st.1.length (Nat.le_refl _)
  have h6 := hk.1.2
  rw [trS]
  omega
theorem c_plan {M : Mem} {s : S3} (h : RepC M s) (hk : OKs s) (w : Int32) : ∃ M', f_LP_plan w M = some (a_plan s.2.1 w, M') ∧ RepC M' s ∧ OffC M M' := by
  obtain ⟨-, hS, -, hE, h0⟩ := id h
  obtain ⟨M1, e1, p1, o1⟩ := planMake_ok hk.2.2.1 s.2.1.2.2 M hE h0
  have r := h.off hk (RP_RPT o1)
  have oc := RPT_C (RP_RPT o1)
  obtain ⟨⟨h4, h5, h6, h7, h8, h9⟩, -⟩ := p1
  rw [f_LP_plan, hS.1, hS.2.2.2, e1, bd_s, h4, h5, h6, h7, h8, a_plan]
  refine ⟨M1, ?_, r, oc⟩
  split; rfl
  split; rfl
  split; rfl
  split; rfl
  split; rfl
  rfl
theorem c_step {M : Mem} {s : S3} (h : RepC M s) (hk : OKs s) (x w : Int32) : ∃ M', f_LP_step x w M = some (a_step s.2.1 x w, M') ∧ RepC M' s ∧ OffC M M' := by
  obtain ⟨-, hS, -, hE, h0⟩ := id h
  rw [f_LP_step, a_step]
  by_cases c1 : x < 0
  · rw [if_pos c1, if_pos c1]; exact ⟨M, rfl, h, fun _ _ => rfl⟩
  rw [if_neg c1, if_neg c1]
  by_cases c2 : w < 0
  · rw [if_pos c2, if_pos c2]; exact ⟨M, rfl, h, fun _ _ => rfl⟩
  rw [if_neg c2, if_neg c2]
  by_cases c3 : w ≤ 3
  · rw [if_pos c3, if_pos c3]
    obtain ⟨M1, e1, p1, o1⟩ := planMake_ok hk.2.2.1 s.2.1.2.2 M hE h0
    have r := h.off hk (RP_RPT o1)
    have oc := RPT_C (RP_RPT o1)
    obtain ⟨⟨h4, -⟩, hrow⟩ := p1
    have hl := trS_len hk.2.2.1 (p := s.2.1.2.2)
    obtain ⟨k, rfl, hk31⟩ := nonneg_nI c1
    rw [hS.1, hS.2.2.2, e1, bd_s, f_Plan_has, h4, if_neg c1, ixN hk31]
    simp only [isB0, isB1, gd_t]
    by_cases c4 : k < (trS s.2.1 s.2.1.2.2).length
    · have g : inb (nI k) 726 = true := inbT (by omega) (by omega)
      obtain ⟨r1, r2, r3, r4⟩ := hrow k c4
      rw [if_neg (nI_ge c4 (by omega)), if_neg (by rw [l726]; exact nI_ge (by omega) (by omega)), bd_s, if_neg (by decide), if_pos c4]
      simp only [g, gd_t]
      rw [r1, r2, r3, r4]
      refine ⟨M1, ?_, r, oc⟩
      split; rfl
      split; rfl
      split; rfl
      rfl
    · rw [if_pos (nI_le (by omega) hk31), bd_s, if_pos rfl, if_neg c4]
      exact ⟨M1, rfl, r, oc⟩
  · rw [if_neg c3, if_neg c3]; exact ⟨M, rfl, h, fun _ _ => rfl⟩
theorem c_cost {M : Mem} {s : S3} (h : RepC M s) (hk : OKs s) (x : Int32) : ∃ M', f_LP_costWith x M = some (a_cost s.2.1 x, M') ∧ RepC M' s ∧ OffC M M' := by
  obtain ⟨-, hS, -, hE, h0⟩ := id h
  rw [f_LP_costWith, f_LP_arePlaces, a_cost]
  simp only [isB0, isB1, gd_t]
  by_cases c1 : x < 2
  · rw [if_pos c1, if_pos c1, bd_s, if_pos rfl]; exact ⟨M, rfl, h, fun _ _ => rfl⟩
  rw [if_neg c1, if_neg c1]
  by_cases c2 : 8 < x
  · rw [if_pos c2, if_pos c2, bd_s, if_pos rfl]; exact ⟨M, rfl, h, fun _ _ => rfl⟩
  rw [if_neg c2, if_neg c2, bd_s, if_neg (by decide)]
  obtain ⟨M1, e1, p1, o1⟩ := planMake_ok hk.2.2.1 x M hE h0
  rw [hS.1, e1, bd_s, p1.1.2.1]
  exact ⟨M1, rfl, h.off hk (RP_RPT o1), RPT_C (RP_RPT o1)⟩
theorem en_loop {s : S3} (hk : OKs s) : ∀ (n m j : Nat) (M : Mem), j ≤ 8 → 8 - j < n → 8 - j ≤ m → RepC M s → ∃ M', f_LP_enough_b2 n (nI j) M = some (enN s.2.1 m (nI j), M') ∧ RepC M' s ∧ OffC M M' := by
  intro n
  induction n with
  | zero => intro m j M _ h; omega
  | succ n ih =>
    intro m j M hj hn hm h
    obtain ⟨-, hS, -, hE, h0⟩ := id h
    rw [f_LP_enough_b2]
    by_cases c : 8 ≤ j
    · rw [if_pos (by rw [l8]; exact nI_le c (by omega))]
      refine ⟨M, ?_, h, fun _ _ => rfl⟩
      cases m with
      | zero => rfl
      | succ m => rw [enN, if_pos (by rw [l8]; exact nI_le c (by omega))]
    · obtain ⟨m', rfl⟩ : ∃ m', m = m' + 1 := ⟨m - 1, by omega⟩
      rw [if_neg (by rw [l8]; exact nI_ge (by omega) (by omega)), enN, if_neg (by rw [l8]; exact nI_ge (by omega) (by omega))]
      obtain ⟨M1, e1, p1, o1⟩ := planMake_ok hk.2.2.1 (nI j) M hE h0
      have r := h.off hk (RP_RPT o1)
      have oc := RPT_C (RP_RPT o1)
      rw [hS.1, e1, bd_s, p1.1.2.2.1]
      by_cases d : tS (trS s.2.1 (nI j)) = 0
      · rw [if_pos d, if_pos d]
        exact ⟨M1, rfl, r, oc⟩
      · rw [if_neg d, if_neg d, bi_e, nI_s]
        obtain ⟨M2, e2, r2, oc2⟩ := ih m' (j + 1) M1 (by omega) (by omega) (by omega) r
        exact ⟨M2, e2, r2, oc.tr oc2⟩
theorem c_enough {M : Mem} {s : S3} (h : RepC M s) (hk : OKs s) : ∃ M', f_LP_enough M = some (enN s.2.1 6 2, M') ∧ RepC M' s ∧ OffC M M' := by
  rw [f_LP_enough]
  exact en_loop hk FU 6 2 M (by omega) (by rw [FU_e]; omega) (by omega) h
