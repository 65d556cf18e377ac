/-! workAnew: all expanded forms of a sheet; the history's rows -/
def XX (st : St) (i : Nat) : XE := mkX (XF st.1 st.2.1 i) st.1 st.2.1 i
def lvS (st : St) (i : Nat) : Nd → Int32 := lvf st.2.1 (vls (XF st.1 st.2.1 i))
def EXi (M : Mem) (st : St) (i : Nat) : Prop := FA M (160 + 8 * i + 1) (XX st i).1 ∧ M.1 (160 + 8 * i) 2 = (if (XX st i).2.1 = true then 1 else 0) ∧ TA M (160 + 8 * i) (lvS st i) (XX st i).1 0
def EXA (M : Mem) (st : St) : Prop := ∀ i, i < st.1.length → EXi M st i
def EX0 (M : Mem) : Prop := ∀ i, i < 6 → M.1 (160 + 8 * i) 0 = nI i
abbrev RE : Nat → Prop := fun a => 160 ≤ a ∧ a ≤ 207
theorem EXi.off {P : Nat → Prop} {M M' : Mem} {st : St} {i : Nat} (h : EXi M st i) (ho : Off P M M') (hP : ∀ a, 160 + 8 * i ≤ a → a ≤ 160 + 8 * i + 7 → ¬ P a) : EXi M' st i := by
  obtain ⟨h1, h2, h3⟩ := h
  refine ⟨h1.off ho (fun a ha => hP a (by rcases ha with q | q | q <;> omega) (by rcases ha with q | q | q <;> omega)), by rw [ho.1 _ (hP _ (by omega) (by omega))]; exact h2, fun k k1 k2 => ?_⟩
  rw [ho.1 _ (hP _ (by omega) (by omega)), ho.1 _ (hP _ (by omega) (by omega)), ho.1 _ (hP _ (by omega) (by omega)), ho.1 _ (hP _ (by omega) (by omega))]
  exact h3 k k1 k2
theorem EXA.off {P : Nat → Prop} {M M' : Mem} {st : St} (h : EXA M st) (ho : Off P M M') (hl : st.1.length ≤ 6) (hP : ∀ a, RE a → ¬ P a) : EXA M' st := fun i hi => (h i hi).off ho (fun a h1 h2 => hP a ⟨by omega, by omega⟩)
theorem EX0.off {P : Nat → Prop} {M M' : Mem} (h : EX0 M) (ho : Off P M M') (hP : ∀ a, RE a → ¬ P a) : EX0 M' := fun i hi => by rw [ho.1 _ (hP _ ⟨by omega, by omega⟩)]; exact h i hi
theorem sh27 : ∀ i, i < 6 → (sh (27 + 3 * i)).1 = 1 := by decide +kernel
theorem anew_loop {st : St} (hk : OKS st.1) : ∀ (n j : Nat) (M : Mem), j ≤ st.1.length → st.1.length - j < n → M.1 24 1 = nI st.1.length → (∀ i, i < st.1.length → FA M (27 + 3 * i) (gf st.1 i)) → (∀ c, c < 8 → M.1 26 c = st.2.1 c) → EX0 M → (∀ i, i < j → EXi M st i) →
    ∃ M', f_LP_workAnew_b2 n (nI j) M = some ((), M') ∧ EXA M' st ∧ EX0 M' ∧ Off RE M M' := by
  have h6 := hk.1.2
  intro n
  induction n with
  | zero => intro j M _ h; omega
  | succ n ih =>
    intro j M hj hn h1 hF hc h0 hE
    rw [f_LP_workAnew_b2, h1]
    by_cases c : j = st.1.length
    · subst c
      rw [if_pos (nI_le (Nat.le_refl _) (by omega))]
      exact ⟨M, rfl, hE, h0, Off.rf⟩
    · have hj6 : j < st.1.length := by omega
      rw [if_neg (nI_ge hj6 (by omega)), if_neg (by rw [show (6 : Int32) = nI 6 from rfl]; exact nI_ge (by omega) (by omega))]
      have hm : nI st.1.length - 1 = nI (st.1.length - 1) := by
        obtain ⟨z, hz⟩ : ∃ z, st.1.length = z + 1 := ⟨st.1.length - 1, by omega⟩
        rw [hz, nI_m1]; rfl
      have key : ∀ x2 : Int32, (!(x2 == 0)) = decide (j + 1 < st.1.length) → ∃ M', f_LP_workAnew_b37 (f_LP_workAnew_b2 n) (nI j) x2 M = some ((), M') ∧ EXA M' st ∧ EX0 M' ∧ Off RE M M' := by
        intro x2 hx2
        have g6 : inb (nI j) 6 = true := inbT (by omega) (by omega)
        rw [f_LP_workAnew_b37, gd_of g6, gd_of g6, ixN (by omega)]
        obtain ⟨k1, k2, k3, k4, k5⟩ := mkX_ok hk (cells := st.2.1) j hj6
        have hw := hk.2 j hj6
        obtain ⟨M1, e1, a1, a2, a3, a4⟩ := make_ok (x2 := x2) (T := XF st.1 st.2.1 j) (i := j) (by omega) (sh27 j (by omega)) (fun a ha => by rcases ha with q | q | q <;> omega) (by omega) (exl_60 k1 hw.1 hw.2.1) hw.2.2 M (h0 j (by omega)) (hF j hj6)
          (fun c hc => by rw [XF_lt j hc]; exact ⟨(hE c hc).1, (hE c hc).2.1⟩)
        rw [e1, bd_s, gd_of g6]
        obtain ⟨M2, e2, b1, b2⟩ := measure_ok (e := 160 + 8 * j) (ca := 26) (l := (XX st j).1) (cells := st.2.1) (vals := vls (XF st.1 st.2.1 j)) (sh_E8 (by omega)) k2 k3 n26 (by show ¬ (_ ∧ _); omega) j (by omega) (fun c hc => by omega) (nd_mem.mpr k4) M1 a1
          (fun c hc8 => by rw [a4.1 26 (by omega)]; exact hc c hc8)
          (fun c hcj => by
            rw [a4.1 _ (by omega), vls, XF_lt j hcj]
            have := ((hE c hcj).2.2 0 (Nat.le_refl _) (wf_len (mkX_ok hk (cells := st.2.1) c (by omega)).2.1)).2.2.2
            exact this)
        rw [e2, bd_s, bi_e, nI_s]
        have o1 : Off (fun a => 160 + 8 * j ≤ a ∧ a ≤ 160 + 8 * j + 7) M M2 := (a4.mono (fun a q => by omega)).tr (b2.mono (fun a q => by have : _ ∧ _ := q; omega))
        have o2 : Off RE M M2 := o1.mono (fun a q => ⟨by omega, by omega⟩)
        obtain ⟨M3, e3, r1, r2, r3⟩ := ih (j + 1) M2 (by omega) (by omega) (by rw [o1.1 24 (by omega)]; exact h1) (fun i hi => (hF i hi).off o1 (fun a ha => by rcases ha with q | q | q <;> omega)) (fun c hc8 => by rw [o1.1 26 (by omega)]; exact hc c hc8)
          (fun i hi => by
            by_cases d : i = j
            · subst d
              rw [b2.1 _ (fun q => by have : _ ∧ _ := q; omega)]
              exact a3
            · rw [o1.1 _ (by omega)]; exact h0 i hi)
          (fun i hi => by
            by_cases d : i = j
            · subst d
              refine ⟨a1.off b2 (fun a ha q => by have : _ ∧ _ := q; rcases ha with w | w | w <;> omega), ?_, b1⟩
              rw [b2.1 _ (fun q => by have : _ ∧ _ := q; omega), a2, hx2]
              rfl
            · exact (hE i (by omega)).off o1 (fun a w1 w2 => by omega))
        exact ⟨M3, e3, r1, r2, o2.tr r3⟩
      rw [hm]
      by_cases d : j + 1 < st.1.length
      · rw [if_neg (nI_ge (by omega) (by omega))]
        exact key 1 (by simp [d])
      · rw [if_pos (nI_le (by omega) (by omega))]
        exact key 0 (by simp [d])
theorem anew_ok {st : St} (hk : OKS st.1) (M : Mem) (h1 : M.1 24 1 = nI st.1.length) (hF : ∀ i, i < st.1.length → FA M (27 + 3 * i) (gf st.1 i)) (hc : ∀ c, c < 8 → M.1 26 c = st.2.1 c) (h0 : EX0 M) :
    ∃ M', f_LP_workAnew M = some ((), M') ∧ EXA M' st ∧ EX0 M' ∧ Off RE M M' := by
  have h6 := hk.1.2
  rw [f_LP_workAnew, ← nI_0]
  exact anew_loop hk FU 0 M (by omega) (by rw [FU_e]; omega) h1 hF hc h0 (fun i hi => by omega)
/-- the history: its states lie in sheets of their own -/
def st0 : St := ([], fun _ => 0, 0)
def HistC (M : Mem) (hist : List St) : Prop := M.1 0 3 = nI hist.length ∧ hist.length ≤ 5 ∧ (∀ i, i < 5 → ∃ j, j < 5 ∧ M.2 i = 55 + 21 * j) ∧ (∀ i i', i < 5 → i' < 5 → M.2 i = M.2 i' → i = i') ∧ ∀ j, j < hist.length → SA M (M.2 j) (hist.getD j st0)
def recH (hist : List St) (st : St) : List St := (if hist.length < 5 then hist else hist.drop 1) ++ [st]
theorem drop_loop {a1 : Nat} : ∀ (n j : Nat) (M : Mem), j < 5 → 4 - j < n →
    ∃ M', f_LP_dropOldestState_b9 n a1 (nI (j + 1)) M = some ((), M') ∧ M'.1 = (mset M 0 3 4).1 ∧ (∀ i, i < 5 → M'.2 i = if i = 4 then a1 else if j ≤ i then M.2 (i + 1) else M.2 i) ∧ ∀ i, 5 ≤ i → M'.2 i = M.2 i := by
  intro n
  induction n with
  | zero => intro j M _ h; omega
  | succ n ih =>
    intro j M hj hn
    rw [f_LP_dropOldestState_b9]
    by_cases c : j = 4
    · subst c
      rw [if_pos (by decide), gd_of (by decide), bm_e, bm_e, show ix (5 - 1) = 4 from rfl]
      refine ⟨_, rfl, rfl, fun i hi => ?_, fun i hi => hset_2 (M := M) (i := 4) (by omega)⟩
      show (if i = 4 then a1 else M.2 i) = _
      by_cases d : i = 4
      · rw [if_pos d, if_pos d]
      · rw [if_neg d, if_neg d, if_neg (by omega)]
    · rw [if_neg (by rw [show (5 : Int32) = nI 5 from rfl]; exact nI_ge (by omega) (by omega)), gd_of (inbT (by omega) (by omega)), nI_m1, gd_of (inbT (by omega) (by omega)), bm_e, bi_e, ixN (by omega), ixN (by omega), nI_s]
      obtain ⟨M1, e1, e2, e3, e4⟩ := ih (j + 1) (hset M j (M.2 (j + 1))) (by omega) (by omega)
      refine ⟨M1, e1, by rw [e2]; rfl, fun i hi => ?_, fun i hi => by rw [e4 i hi, hset_2 (by omega)]⟩
      rw [e3 i hi]
      by_cases d : i = 4
      · rw [if_pos d, if_pos d]
      · rw [if_neg d, if_neg d]
        show (if j + 1 ≤ i then (if i + 1 = j then M.2 (j + 1) else M.2 (i + 1)) else (if i = j then M.2 (j + 1) else M.2 i)) = _
        by_cases d2 : j + 1 ≤ i
        · rw [if_pos d2, if_neg (by omega), if_pos (by omega)]
        · rw [if_neg d2]
          by_cases d3 : i = j
          · subst d3; rw [if_pos rfl, if_pos (Nat.le_refl _)]
          · rw [if_neg d3, if_neg (by omega)]
theorem SA.row {M M' : Mem} {S : Nat} {st : St} (h : SA M S st) (hl : st.1.length ≤ 6) (hr : ∀ a, RS S a → M'.1 a = M.1 a) : SA M' S st :=
  h.off (P := fun a => ¬ RS S a) (M' := (M'.1, M.2)) ⟨fun a ha => hr a (Classical.not_not.mp ha), rfl⟩ hl (fun a ha q => q ha)
theorem hS4 {M : Mem} {i : Nat} (h : ∀ i, i < 5 → ∃ j, j < 5 ∧ M.2 i = 55 + 21 * j) (hi : i < 5) : (sh (M.2 i)).1 = 4 ∧ 55 ≤ M.2 i ∧ M.2 i ≤ 139 := by
  obtain ⟨j, h1, h2⟩ := h i hi
  rw [h2]
  exact ⟨(show ∀ j, j < 5 → (sh (55 + 21 * j)).1 = 4 by decide +kernel) j h1, by omega, by omega⟩
/-- recording, where there is room -/
theorem rec16_ok {M : Mem} {st : St} {hist : List St} (hk : OKS st.1) (hS : SA M 24 st) (hH : HistC M hist) (hl : hist.length < 5) (hok : ∀ q ∈ hist, OKS q.1) :
    ∃ M', f_LP_recordState_b16 M = some ((), M') ∧ HistC M' (hist ++ [st]) ∧ (∀ a, a ≠ 0 → ¬ (55 ≤ a ∧ a ≤ 159) → M'.1 a = M.1 a) ∧ ∀ i, 5 ≤ i → M'.2 i = M.2 i := by
  obtain ⟨h1, h2, h3, h4, h5⟩ := hH
  obtain ⟨s1, s2, s3⟩ := hS4 h3 hl
  rw [f_LP_recordState_b16, h1, if_neg (nI_pos (by omega)), if_neg (by rw [show (5 : Int32) = nI 5 from rfl]; exact nI_ge hl (by omega)), gd_of (inbT hl (by omega)), ixN (by omega)]
  obtain ⟨M1, e1, a1, a2⟩ := copyS_ok s1 s24 (by omega) hk hS
  rw [e1, bd_s, bm_e]
  have r0 : M1.1 0 = M.1 0 := a2.1 0 (by show ¬ (_ ∧ _); omega)
  refine ⟨_, rfl, ⟨?_, by simp; omega, ?_, ?_, ?_⟩, ?_, fun i _ => by rw [mset_2, a2.2]⟩
  · simp only [ms1, if_true, r0, h1, nI_s, List.length_append, List.length_cons, List.length_nil]
  · intro i hi
    rw [mset_2, a2.2]
    exact h3 i hi
  · intro i i' hi hi'
    rw [mset_2, a2.2]
    exact h4 i i' hi hi'
  · intro j hj
    rw [mset_2, a2.2]
    rw [List.length_append, List.length_cons, List.length_nil] at hj
    by_cases c : j = hist.length
    · subst c
      have e : (hist ++ [st]).getD hist.length st0 = st := by simp
      rw [e]
      exact a1.row hk.1.2 (fun a ha => mset_ne (by have : _ ∧ _ := ha; omega))
    · have hj2 : j < hist.length := by omega
      have e : (hist ++ [st]).getD j st0 = hist.getD j st0 := by simp [List.getElem?_append_left hj2]
      rw [e]
      have hkj : OKS (hist.getD j st0).1 := hok _ (by
        rw [List.getD_eq_getElem?_getD, List.getElem?_eq_getElem hj2]
        exact List.getElem_mem hj2)
      obtain ⟨t1, t2, t3⟩ := hS4 h3 (i := j) (by omega)
      have hap := tSapart t1 s1 (fun q => by have := h4 j hist.length (by omega) (by omega) q; omega)
      refine (h5 j hj2).row hkj.1.2 (fun a ha => ?_)
      have ha' : M.2 j ≤ a ∧ a ≤ M.2 j + 20 := ha
      rw [mset_ne (by omega)]
      exact a2.1 a (by show ¬ (_ ∧ _); omega)
  · intro a ha hb
    rw [mset_ne ha]
    exact a2.1 a (by show ¬ (_ ∧ _); omega)
theorem rec_ok {M : Mem} {st : St} {hist : List St} (hk : OKS st.1) (hS : SA M 24 st) (hH : HistC M hist) (hok : ∀ q ∈ hist, OKS q.1) :
    ∃ M', f_LP_recordState M = some ((), M') ∧ HistC M' (recH hist st) ∧ ((∀ a, a ≠ 0 → ¬ (55 ≤ a ∧ a ≤ 159) → M'.1 a = M.1 a) ∧ ∀ i, 5 ≤ i → M'.2 i = M.2 i) ∧ ∀ q ∈ recH hist st, OKS q.1 := by
  have hH' := hH
  obtain ⟨h1, h2, h3, h4, h5⟩ := hH
  rw [f_LP_recordState, h1]
  by_cases c : hist.length < 5
  · rw [if_pos (by rw [show (5 : Int32) = nI 5 from rfl]; exact nI_lt c (by omega))]
    obtain ⟨M1, e1, a1, a2⟩ := rec16_ok hk hS hH' c hok
    refine ⟨M1, e1, by rw [recH, if_pos c]; exact a1, a2, fun q hq => ?_⟩
    rw [recH, if_pos c] at hq
    rcases List.mem_append.mp hq with w | w
    · exact hok q w
    · rw [List.mem_singleton.mp w]; exact hk
  · have h5e : hist.length = 5 := by omega
    rw [if_neg (by rw [show (5 : Int32) = nI 5 from rfl]; exact nI_nlt (by omega) (by omega)), f_LP_dropOldestState, gd_of (by decide), bn_e, show ix 0 = 0 from rfl]
    obtain ⟨M1, e1, d1, d2, d3⟩ := drop_loop (a1 := M.2 0) FU 0 M (by omega) (by rw [FU_e]; omega)
    have e1' : f_LP_dropOldestState_b9 FU (M.2 0) 1 M = some ((), M1) := e1
    rw [e1', bd_s]
    have rr : ∀ a, a ≠ 0 → M1.1 a = M.1 a := fun a ha => by rw [d1, mset_ne ha]
    have hd : hist.drop 1 = (hist.drop 1) := rfl
    have d2' : ∀ i, i < 5 → M1.2 i = if i = 4 then M.2 0 else M.2 (i + 1) := fun i hi => by
      rw [d2 i hi]
      simp
    have hH1 : HistC M1 (hist.drop 1) := by
      refine ⟨?_, by simp; omega, fun i hi => ?_, fun i i' hi hi' he => ?_, fun j hj => ?_⟩
      · rw [d1, ms1, if_pos rfl, if_pos rfl, List.length_drop, h5e]; rfl
      · rw [d2' i hi]
        split
        · exact h3 0 (by omega)
        · exact h3 (i + 1) (by omega)
      · rw [d2' i hi, d2' i' hi'] at he
        split at he <;> split at he
        · omega
        · have := h4 _ _ (by omega) (by omega) he; omega
        · have := h4 _ _ (by omega) (by omega) he; omega
        · have := h4 _ _ (by omega) (by omega) he; omega
      · rw [List.length_drop] at hj
        rw [d2' j (by omega), if_neg (by omega)]
        have e : (hist.drop 1).getD j st0 = hist.getD (j + 1) st0 := by
          simp [List.getElem?_drop, Nat.add_comm]
        rw [e]
        obtain ⟨t1, t2, t3⟩ := hS4 h3 (i := j + 1) (by omega)
        have hkj : OKS (hist.getD (j + 1) st0).1 := hok _ (by
          rw [List.getD_eq_getElem?_getD, List.getElem?_eq_getElem (show j + 1 < hist.length by omega)]
          exact List.getElem_mem _)
        exact (h5 (j + 1) (by omega)).row hkj.1.2 (fun a ha => rr a (by have : _ ∧ _ := ha; omega))
    obtain ⟨M2, e2, a1, a2, a3⟩ := rec16_ok (M := M1) hk (hS.row hk.1.2 (fun a ha => rr a (by have : _ ∧ _ := ha; omega))) hH1 (by simp; omega) (fun q hq => hok q (List.mem_of_mem_drop hq))
    refine ⟨M2, e2, by rw [recH, if_neg c]; exact a1, ⟨fun a ha hb => by rw [a2 a ha hb, rr a ha], fun i hi => by rw [a3 i hi, d3 i hi]⟩, fun q hq => ?_⟩
    rw [recH, if_neg c] at hq
    rcases List.mem_append.mp hq with w | w
    · exact hok q (List.mem_of_mem_drop w)
    · rw [List.mem_singleton.mp w]; exact hk
