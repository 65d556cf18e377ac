/-! the actions, on the class's side -/
def OffC (M M' : Mem) : Prop := (∀ a, 208 ≤ a → M'.1 a = M.1 a) ∧ ∀ i, 5 ≤ i → M'.2 i = M.2 i
theorem OffC.rf {M : Mem} : OffC M M := ⟨fun _ _ => rfl, fun _ _ => rfl⟩
theorem OffC.of {P : Nat → Prop} {M M' : Mem} (h : Off P M M') (hP : ∀ a, 208 ≤ a → ¬ P a) : OffC M M' := ⟨fun a ha => h.1 a (hP a ha), fun i _ => by rw [h.2]⟩
theorem OffC.tr {M M1 M2 : Mem} (h : OffC M M1) (h2 : OffC M1 M2) : OffC M M2 := ⟨fun a ha => (h2.1 a ha).trans (h.1 a ha), fun i hi => (h2.2 i hi).trans (h.2 i hi)⟩
def sp_append (x : Int32) (s : S3) : Int32 × S3 := if x < 1 then (-1000001, s) else if x ≤ 255 then (if s.1.length < 100 then (nI (s.1.length + 1), (s.1 ++ [x], s.2)) else (-1000003, s)) else (-1000001, s)
def sp_clear (s : S3) : Int32 × S3 := (nI s.1.length, ([], s.2))
def isC (x : Int32) : Bool := !decide (x < 0) && decide (ix x < 8)
def sp_setCell (x v : Int32) (s : S3) : Int32 × S3 := if isC x = true then (if v < -999 then (-1000001, s) else if v ≤ 999 then (s.2.1.2.1 (ix x), (s.1, (s.2.1.1, (fun c => if c = ix x then v else s.2.1.2.1 c), s.2.1.2.2), recH s.2.2 s.2.1)) else (-1000001, s)) else (-1000001, s)
def sp_setPlaces (x : Int32) (s : S3) : Int32 × S3 := if x < 2 then (-1000001, s) else if 8 < x then (-1000001, s) else (s.2.1.2.2, (s.1, (s.2.1.1, s.2.1.2.1, x), recH s.2.2 s.2.1))
def sp_undo (s : S3) : Int32 × S3 := if s.2.2.length = 0 then (-1000002, s) else (nI (s.2.2.length - 1), (s.1, s.2.2.getD (s.2.2.length - 1) st0, s.2.2.take (s.2.2.length - 1)))
def a_cell (st : St) (x : Int32) : Int32 := if isC x = true then st.2.1 (ix x) else -1000001
def swpAt (l : Fm) (k : Nat) : Fm := swp l (k + 1) (l.length - ((skp (l.drop (k + 1)) 1).getD []).length) (l.length - ((skp ((skp (l.drop (k + 1)) 1).getD []) 1).getD []).length)
def turnS (st : St) (f k : Nat) : St := (st.1.set f (swpAt (gf st.1 f) k), st.2)
def sp_turn (x y : Int32) (s : S3) : Int32 × S3 :=
  if isF s.2.1.1 x = true then
    if (!decide (y < 0) && decide (ix y < (gf s.2.1.1 (ix x)).length)) = true then
      if (nd (gf s.2.1.1 (ix x)) (ix y)).1 = 4 ∨ (nd (gf s.2.1.1 (ix x)) (ix y)).1 = 6 then
        (nI (need0 (turnS s.2.1 (ix x) (ix y)) (ix x)), (s.1, turnS s.2.1 (ix x) (ix y), recH s.2.2 s.2.1))
      else (-1000002, s)
    else (-1000001, s)
  else (-1000001, s)
/-- a new memory that differs in the text's rows alone -/
theorem RepC.text {M M' : Mem} {s : S3} {tx : List Int32} (h : RepC M s) (hk : OKs s) (ho : Off (fun a => a = 1 ∨ a = 2) M M') (h1 : M'.1 1 1 = nI tx.length) (h2 : ∀ i, i < tx.length → M'.1 2 i = tx.getD i 0) : RepC M' (tx, s.2) := by
  obtain ⟨-, hS, ⟨g1, g2, g3, g4, g5⟩, hE, h0⟩ := h
  refine ⟨⟨h1, h2⟩, hS.off ho hk.2.2.1.1.2 (fun a ha q => by have : _ ∧ _ := ha; omega), ⟨by rw [ho.1 0 (by omega)]; exact g1, g2, by rw [ho.2]; exact g3, by rw [ho.2]; exact g4, fun j hj => ?_⟩, hE.off ho hk.2.2.1.1.2 (fun a ha q => by have : _ ∧ _ := ha; omega), h0.off ho (fun a ha q => by have : _ ∧ _ := ha; omega)⟩
  rw [ho.2]
  obtain ⟨t1, t2, t3⟩ := hS4 g3 (i := j) (by have : j < s.2.2.length := hj; omega)
  have hkj : OKS (s.2.2.getD j st0).1 := hk.2.2.2.1 _ (by
    rw [List.getD_eq_getElem?_getD, List.getElem?_eq_getElem hj]
    exact List.getElem_mem _)
  exact (g5 j hj).off ho hkj.1.2 (fun a ha q => by have : _ ∧ _ := ha; omega)
theorem c_append {M : Mem} {s : S3} (h : RepC M s) (hk : OKs s) (x : Int32) : ∃ M', f_LP_append x M = some ((sp_append x s).1, M') ∧ RepC M' (sp_append x s).2 ∧ OffC M M' := by
  have ht := h.1
  rw [f_LP_append, sp_append]
  by_cases c1 : x < 1
  · rw [if_pos c1, if_pos c1]; exact ⟨M, rfl, h, OffC.rf⟩
  rw [if_neg c1, if_neg c1]
  by_cases c2 : x ≤ 255
  · rw [if_pos c2, if_pos c2, f_Reader_take, ht.1, if_neg (nI_pos (by have := hk.1; omega))]
    simp only [isB0, isB1, gd_t]
    by_cases c3 : s.1.length < 100
    · rw [if_pos (by rw [show (100 : Int32) = nI 100 from rfl]; exact nI_lt c3 (by omega)), if_pos c3, gd_of (inbT c3 (by omega)), bm_e, bm_e, bd_s, if_neg (by decide), ixN (by omega)]
      have ho : Off (fun a => a = 1 ∨ a = 2) M (mset (mset M 2 s.1.length x) 1 1 ((mset M 2 s.1.length x).1 1 1 + 1)) := (Off.set (Or.inr rfl)).tr (Off.set (Or.inl rfl))
      have e1 : (mset (mset M 2 s.1.length x) 1 1 ((mset M 2 s.1.length x).1 1 1 + 1)).1 1 1 = nI (s.1.length + 1) := by
        simp only [ms1, if_true, show ¬ (1 : Nat) = 2 by omega, if_false]
        rw [ht.1, nI_s]
      rw [e1]
      refine ⟨_, rfl, RepC.text h hk ho (by rw [e1]; simp) (fun i hi => ?_), OffC.of ho (fun a ha q => by omega)⟩
      simp only [ms1, show ¬ (2 : Nat) = 1 by omega, if_false, if_true]
      rw [List.length_append, List.length_cons, List.length_nil] at hi
      by_cases ci : i = s.1.length
      · subst ci
        simp
      · rw [if_neg ci, ht.2 i (by omega)]
        simp [List.getElem?_append_left (show i < s.1.length by omega)]
    · rw [if_neg (by rw [show (100 : Int32) = nI 100 from rfl]; exact nI_nlt (by omega) (by have := hk.1; omega)), if_neg c3, bd_s, if_pos rfl]
      exact ⟨M, rfl, h, OffC.rf⟩
  · rw [if_neg c2, if_neg c2]; exact ⟨M, rfl, h, OffC.rf⟩
theorem c_clear {M : Mem} {s : S3} (h : RepC M s) (hk : OKs s) : ∃ M', f_LP_clearText M = some ((sp_clear s).1, M') ∧ RepC M' (sp_clear s).2 ∧ OffC M M' := by
  rw [f_LP_clearText, bi_e, bm_e, h.1.1]
  have ho : Off (fun a => a = 1 ∨ a = 2) M (mset M 1 1 0) := Off.set (Or.inl rfl)
  exact ⟨_, rfl, RepC.text h hk ho (by simp [ms1, nI_0]) (fun i hi => absurd hi (Nat.not_lt_zero _)), OffC.of ho (fun a ha q => by omega)⟩
theorem isCell_ok {M : Mem} {x : Int32} : f_LP_isCell x M = some (if isC x = true then 1 else 0, M) := by
  rw [f_LP_isCell]
  simp only [isB0, isB1, gd_t]
  by_cases c : x < 0
  · rw [if_pos c, if_neg (by simp [isC, c])]
  · obtain ⟨k, rfl, hk31⟩ := nonneg_nI c
    rw [if_neg c]
    by_cases d : k < 8
    · rw [if_neg (by rw [l8]; exact nI_ge d (by omega)), if_pos (by simp [isC, c, ixN hk31, d])]
    · rw [if_pos (by rw [l8]; exact nI_le (by omega) hk31), if_neg (by simp [isC, c, ixN hk31]; omega)]
theorem isC_k {x : Int32} (h : isC x = true) : ∃ k, x = nI k ∧ k < 8 ∧ ix x = k := by
  simp only [isC, Bool.and_eq_true, Bool.not_eq_true', decide_eq_false_iff_not, decide_eq_true_eq] at h
  obtain ⟨k, rfl, hk⟩ := nonneg_nI h.1
  exact ⟨k, rfl, by rw [ixN hk] at h; exact h.2, ixN hk⟩
theorem c_cell {M : Mem} {s : S3} (h : RepC M s) (x : Int32) : f_LP_cell x M = some (a_cell s.2.1 x, M) := by
  rw [f_LP_cell, isCell_ok, bd_s, a_cell]
  by_cases c : isC x = true
  · obtain ⟨k, rfl, h1, h2⟩ := isC_k c
    rw [if_pos c, if_pos c, if_neg (by decide), gd_of (inbT h1 (by omega)), h2, h.2.1.2.2.1 k h1]
  · rw [if_neg c, if_neg c, if_pos rfl]
/-- what recording leaves of the rest -/
theorem rec_rest {M M' : Mem} {s : S3} (h : RepC M s) (hk : OKs s) (hq : (∀ a, a ≠ 0 → ¬ (55 ≤ a ∧ a ≤ 159) → M'.1 a = M.1 a) ∧ ∀ i, 5 ≤ i → M'.2 i = M.2 i) : ((M'.1 1 1 = nI s.1.length ∧ ∀ i, i < s.1.length → M'.1 2 i = s.1.getD i 0) ∧ SA M' 24 s.2.1 ∧ EXA M' s.2.1 ∧ EX0 M') ∧ OffC M M' := by
  obtain ⟨⟨t1, t2⟩, hS, -, hE, h0⟩ := h
  obtain ⟨hr, hr2⟩ := hq
  have ho : Off (fun a => a = 0 ∨ (55 ≤ a ∧ a ≤ 159)) M (M'.1, M.2) := ⟨fun a ha => hr a (by omega) (by omega), rfl⟩
  refine ⟨⟨⟨by rw [hr 1 (by omega) (by omega)]; exact t1, fun i hi => by rw [hr 2 (by omega) (by omega)]; exact t2 i hi⟩, hS.row hk.2.2.1.1.2 (fun a ha => hr a (by have : _ ∧ _ := ha; omega) (by have : _ ∧ _ := ha; omega)), ?_, ?_⟩, fun a ha => hr a (by omega) (by omega), hr2⟩
  · exact (show EXA (M'.1, M.2) s.2.1 from hE.off ho hk.2.2.1.1.2 (fun a ha q => by have : _ ∧ _ := ha; omega))
  · exact (show EX0 (M'.1, M.2) from h0.off ho (fun a ha q => by have : _ ∧ _ := ha; omega))
theorem HistC.off {P : Nat → Prop} {M M' : Mem} {hist : List St} (h : HistC M hist) (hok : ∀ q ∈ hist, OKS q.1) (ho : Off P M M') (hP : ∀ a, a = 0 ∨ (55 ≤ a ∧ a ≤ 159) → ¬ P a) : HistC M' hist := by
  obtain ⟨g1, g2, g3, g4, g5⟩ := h
  refine ⟨by rw [ho.1 0 (hP 0 (Or.inl rfl))]; exact g1, g2, by rw [ho.2]; exact g3, by rw [ho.2]; exact g4, fun j hj => ?_⟩
  rw [ho.2]
  obtain ⟨t1, t2, t3⟩ := hS4 g3 (i := j) (by omega)
  have hkj : OKS (hist.getD j st0).1 := hok _ (by
    rw [List.getD_eq_getElem?_getD, List.getElem?_eq_getElem hj]
    exact List.getElem_mem _)
  exact (g5 j hj).off ho hkj.1.2 (fun a ha => hP a (by have : _ ∧ _ := ha; omega))
theorem c_setPlaces {M : Mem} {s : S3} (h : RepC M s) (hk : OKs s) (x : Int32) : ∃ M', f_LP_setPlaces x M = some ((sp_setPlaces x s).1, M') ∧ RepC M' (sp_setPlaces x s).2 ∧ OffC M M' := by
  rw [f_LP_setPlaces, f_LP_arePlaces, sp_setPlaces]
  simp only [isB0, isB1, gd_t]
  by_cases c1 : x < 2
  · rw [if_pos c1, if_pos c1, bd_s, if_pos rfl]; exact ⟨M, rfl, h, OffC.rf⟩
  rw [if_neg c1, if_neg c1]
  by_cases c2 : 8 < x
  · rw [if_pos c2, if_pos c2, bd_s, if_pos rfl]; exact ⟨M, rfl, h, OffC.rf⟩
  rw [if_neg c2, if_neg c2, bd_s, if_neg (by decide)]
  obtain ⟨M1, e1, hH, hr, hok⟩ := rec_ok hk.2.2.1 h.2.1 h.2.2.1 hk.2.2.2.1
  obtain ⟨⟨ht, hS, hE, h0⟩, hC⟩ := rec_rest h hk hr
  rw [e1, bd_s, bi_e, bm_e, hS.2.2.2]
  have ho : Off (fun a => a = 24) M1 (mset M1 24 3 x) := Off.set rfl
  refine ⟨_, rfl, ⟨⟨by rw [ho.1 1 (by omega)]; exact ht.1, fun i hi => by rw [ho.1 2 (by omega)]; exact ht.2 i hi⟩, ⟨by simp [ms1]; exact hS.1, fun i hi => (hS.2.1 i hi).off ho (fun a ha q => by rcases ha with w | w | w <;> omega), fun c hc => by rw [ho.1 _ (by omega)]; exact hS.2.2.1 c hc, by simp [ms1]⟩, hH.off hok ho (fun a ha => by omega), ?_, h0.off ho (fun a ha q => by have : _ ∧ _ := ha; omega)⟩, hC.tr (OffC.of ho (fun a ha q => by omega))⟩
  exact hE.off ho hk.2.2.1.1.2 (fun a ha q => by have : _ ∧ _ := ha; omega)
/-- behind an action that has written the sheet anew -/
theorem anew_rep {M : Mem} {tx : List Int32} {st : St} {hist : List St} (ht : M.1 1 1 = nI tx.length ∧ ∀ i, i < tx.length → M.1 2 i = tx.getD i 0) (hS : SA M 24 st) (hH : HistC M hist) (hok : ∀ q ∈ hist, OKS q.1) (h0 : EX0 M) (hk : OKS st.1) :
    ∃ M', f_LP_workAnew M = some ((), M') ∧ RepC M' (tx, st, hist) ∧ OffC M M' ∧ M'.1 24 = M.1 24 ∧ M'.1 0 = M.1 0 := by
  obtain ⟨M1, e1, a1, a2, a3⟩ := anew_ok hk M hS.1 hS.2.1 hS.2.2.1 h0
  refine ⟨M1, e1, ⟨⟨by rw [a3.1 1 (fun q => by have : _ ∧ _ := q; omega)]; exact ht.1, fun i hi => by rw [a3.1 2 (fun q => by have : _ ∧ _ := q; omega)]; exact ht.2 i hi⟩, hS.off a3 hk.1.2 (fun a ha q => by have : _ ∧ _ := ha; have : _ ∧ _ := q; omega), hH.off hok a3 (fun a ha q => by have : _ ∧ _ := q; omega), a1, a2⟩, OffC.of a3 (fun a ha q => by have : _ ∧ _ := q; omega), a3.1 24 (fun q => by have : _ ∧ _ := q; omega), a3.1 0 (fun q => by have : _ ∧ _ := q; omega)⟩
theorem c_setCell {M : Mem} {s : S3} (h : RepC M s) (hk : OKs s) (x v : Int32) : ∃ M', f_LP_setCell x v M = some ((sp_setCell x v s).1, M') ∧ RepC M' (sp_setCell x v s).2 ∧ OffC M M' := by
  rw [f_LP_setCell, isCell_ok, bd_s, sp_setCell]
  by_cases c : isC x = true
  · rw [if_pos c, if_pos c, if_neg (by decide)]
    by_cases c1 : v < -999
    · rw [if_pos c1, if_pos c1]; exact ⟨M, rfl, h, OffC.rf⟩
    rw [if_neg c1, if_neg c1]
    by_cases c2 : v ≤ 999
    · rw [if_pos c2, if_pos c2]
      obtain ⟨k, rfl, hk1, hk2⟩ := isC_k c
      obtain ⟨M1, e1, hH, hr, hok⟩ := rec_ok hk.2.2.1 h.2.1 h.2.2.1 hk.2.2.2.1
      obtain ⟨⟨ht, hS, hE, h0⟩, hC⟩ := rec_rest h hk hr
      have g8 : inb (nI k) 8 = true := inbT hk1 (by omega)
      rw [e1, bd_s, gd_of g8, bi_e, gd_of g8, bm_e, hk2, hS.2.2.1 k hk1]
      have ho : Off (fun a => a = 26) M1 (mset M1 26 k v) := Off.set rfl
      obtain ⟨M2, e2, r1, r2, -, -⟩ := anew_rep (M := mset M1 26 k v) (tx := s.1) (st := (s.2.1.1, (fun c => if c = k then v else s.2.1.2.1 c), s.2.1.2.2)) (hist := recH s.2.2 s.2.1)
        ⟨by rw [ho.1 1 (by omega)]; exact ht.1, fun i hi => by rw [ho.1 2 (by omega)]; exact ht.2 i hi⟩
        ⟨by rw [ho.1 24 (by omega)]; exact hS.1, fun i hi => (hS.2.1 i hi).off ho (fun a ha q => by rcases ha with w | w | w <;> omega), fun c hc => by
          simp only [ms1, if_true]
          split
          · rfl
          · exact hS.2.2.1 c hc, by rw [ho.1 24 (by omega)]; exact hS.2.2.2⟩
        (hH.off hok ho (fun a ha => by omega)) hok (h0.off ho (fun a ha q => by have : _ ∧ _ := ha; omega)) hk.2.2.1
      rw [e2, bd_s]
      exact ⟨M2, rfl, r1, (hC.tr (OffC.of ho (fun a ha q => by omega))).tr r2⟩
    · rw [if_neg c2, if_neg c2]; exact ⟨M, rfl, h, OffC.rf⟩
  · rw [if_neg c, if_neg c, if_pos rfl]; exact ⟨M, rfl, h, OffC.rf⟩
