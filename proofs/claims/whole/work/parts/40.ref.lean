/-! the reference's side: its rows, and the actions -/
/-- a state in a row of the reference -/
def RowS (r : Nat → Int32) (o : Nat) (st : St) : Prop := r o = nI st.1.length ∧ r (o + 1) = st.2.2 ∧ (∀ c, c < 8 → r (o + 2 + c) = st.2.1 c) ∧ ∀ i, i < st.1.length → r (o + 10 + i) = nI (gf st.1 i).length ∧ ∀ k, k < (gf st.1 i).length → r (o + 16 + 60 * i + 2 * k) = (nd (gf st.1 i) k).1 ∧ (ar (nd (gf st.1 i) k).1 = 0 → r (o + 17 + 60 * i + 2 * k) = (nd (gf st.1 i) k).2)
theorem RowS.copy {r r' : Nat → Int32} {o o' : Nat} {st : St} (hk : OKS st.1) (h : RowS r o st) (hc : ∀ j, j < 376 → r' (o' + j) = r (o + j)) : RowS r' o' st := by
  obtain ⟨h1, h2, h3, h4⟩ := h
  have h6 := hk.1.2
  refine ⟨by have := hc 0 (by omega); simp at this; rw [this]; exact h1, by rw [hc 1 (by omega)]; exact h2, fun c hc8 => ?_, fun i hi => ⟨?_, fun k hk2 => ⟨?_, fun ha => ?_⟩⟩⟩
  · rw [Nat.add_assoc, hc (2 + c) (by omega), ← Nat.add_assoc]; exact h3 c hc8
  · rw [Nat.add_assoc, hc (10 + i) (by omega), ← Nat.add_assoc]; exact (h4 i hi).1
  · have hl := (hk.2 i hi).2.1
    rw [show o' + 16 + 60 * i + 2 * k = o' + (16 + 60 * i + 2 * k) by omega, hc _ (by omega), show o + (16 + 60 * i + 2 * k) = o + 16 + 60 * i + 2 * k by omega]
    exact ((h4 i hi).2 k hk2).1
  · have hl := (hk.2 i hi).2.1
    rw [show o' + 17 + 60 * i + 2 * k = o' + (17 + 60 * i + 2 * k) by omega, hc _ (by omega), show o + (17 + 60 * i + 2 * k) = o + 17 + 60 * i + 2 * k by omega]
    exact ((h4 i hi).2 k hk2).2 ha
def HistR (M : Mem) (hist : List St) : Prop := M.1 208 2 = nI hist.length ∧ hist.length ≤ 5 ∧ ∀ j, j < hist.length → RowS (M.1 210) (376 * j) (hist.getD j st0)
def RepR (M : Mem) (s : S3) : Prop := (M.1 208 4 = nI s.1.length ∧ ∀ i, i < s.1.length → M.1 211 i = s.1.getD i 0) ∧ RowS (M.1 209) 0 s.2.1 ∧ HistR M s.2.2
def OffR (M M' : Mem) : Prop := (∀ a, a < 208 → M'.1 a = M.1 a) ∧ M'.2 = M.2
theorem OffR.rf {M : Mem} : OffR M M := ⟨fun _ _ => rfl, rfl⟩
theorem OffR.tr {M M1 M2 : Mem} (h : OffR M M1) (h2 : OffR M1 M2) : OffR M M2 := ⟨fun a ha => (h2.1 a ha).trans (h.1 a ha), h2.2.trans h.2⟩
theorem OffR.of {P : Nat → Prop} {M M' : Mem} (h : Off P M M') (hP : ∀ a, a < 208 → ¬ P a) : OffR M M' := ⟨fun a ha => h.1 a (hP a ha), h.2⟩
theorem l376 : (376 : Int32) = nI 376 := rfl
theorem acts51 {P : Nat} (hP : P < 5) : ∀ (n k : Nat) (M : Mem), k ≤ 376 → 376 - k < n → M.1 208 2 = nI P →
    ∃ M', f_Md_acts_b51 n (nI k) M = some ((), M') ∧ M'.1 208 = upd (M.1 208) 2 (nI (P + 1)) ∧ (∀ j, M'.1 210 j = if 376 * P + k ≤ j ∧ j < 376 * P + 376 then M.1 209 (j - 376 * P) else M.1 210 j) ∧ Off (fun a => a = 208 ∨ a = 210) M M' := by
  intro n
  induction n with
  | zero => intro k M _ h; omega
  | succ n ih =>
    intro k M hk hn hp
    rw [f_Md_acts_b51]
    by_cases c : k = 376
    · subst c
      rw [if_pos (by decide), bm_e, hp, nI_s]
      refine ⟨_, rfl, mset_eq, fun j => ?_, Off.set (Or.inl rfl)⟩
      rw [mset_ne (by omega), if_neg (by omega)]
    · rw [if_neg (by rw [l376]; exact nI_ge (by omega) (by omega)), gd_of (inbT (by omega) (by omega)), hp, l376, nI_mul, nI_add, gd_of (inbT (by omega) (by omega)), bm_e, bi_e, nI_s, ixN (by omega), ixN (by omega)]
      have o1 : Off (fun a => a = 208 ∨ a = 210) M (mset M 210 (376 * P + k) (M.1 209 k)) := Off.set (Or.inr rfl)
      obtain ⟨M1, e1, e2, e3, e4⟩ := ih (k + 1) (mset M 210 (376 * P + k) (M.1 209 k)) (by omega) (by omega) (by rw [mset_ne (by omega)]; exact hp)
      refine ⟨M1, e1, by rw [e2, mset_ne (by omega)], fun j => ?_, o1.tr e4⟩
      rw [e3 j, mset_ne (show (209 : Nat) ≠ 210 by omega)]
      by_cases d : 376 * P + (k + 1) ≤ j ∧ j < 376 * P + 376
      · rw [if_pos d, if_pos (by omega)]
      · rw [if_neg d, ms1, if_pos rfl]
        by_cases d2 : j = 376 * P + k
        · rw [if_pos d2, if_pos (by omega), d2, Nat.add_sub_cancel_left]
        · rw [if_neg d2, if_neg (by omega)]
theorem acts10 : ∀ (n k : Nat) (M : Mem), k ≤ 1504 → 1504 - k < n → M.1 208 2 = nI 5 →
    ∃ M', f_Md_acts_b10 n (nI k) M = f_Md_acts_b49 M' ∧ M'.1 208 = upd (M.1 208) 2 (nI 4) ∧ (∀ j, M'.1 210 j = if k ≤ j ∧ j < 1504 then M.1 210 (j + 376) else M.1 210 j) ∧ Off (fun a => a = 208 ∨ a = 210) M M' := by
  intro n
  induction n with
  | zero => intro k M _ h; omega
  | succ n ih =>
    intro k M hk hn hp
    rw [f_Md_acts_b10]
    by_cases c : k = 1504
    · subst c
      rw [if_pos (by decide), bm_e, hp, show (nI 5 : Int32) - 1 = nI 4 from rfl]
      refine ⟨_, rfl, mset_eq, fun j => ?_, Off.set (Or.inl rfl)⟩
      rw [mset_ne (by omega), if_neg (by omega)]
    · rw [if_neg (by rw [show (1504 : Int32) = nI 1504 from rfl]; exact nI_ge (by omega) (by omega)), l376, nI_add, gd_of (inbT (by omega) (by omega)), gd_of (inbT (by omega) (by omega)), bm_e, bi_e, nI_s, ixN (by omega), ixN (by omega)]
      have o1 : Off (fun a => a = 208 ∨ a = 210) M (mset M 210 k (M.1 210 (k + 376))) := Off.set (Or.inr rfl)
      obtain ⟨M1, e1, e2, e3, e4⟩ := ih (k + 1) (mset M 210 k (M.1 210 (k + 376))) (by omega) (by omega) (by rw [mset_ne (by omega)]; exact hp)
      refine ⟨M1, e1, by rw [e2, mset_ne (by omega)], fun j => ?_, o1.tr e4⟩
      rw [e3 j]
      by_cases d : k + 1 ≤ j ∧ j < 1504
      · rw [if_pos d, if_pos (by omega), ms1, if_pos rfl, if_neg (by omega)]
      · rw [if_neg d, ms1, if_pos rfl]
        by_cases d2 : j = k
        · subst d2; rw [if_pos rfl, if_pos (by omega)]
        · rw [if_neg d2, if_neg (by omega)]
theorem acts_ok {M : Mem} {s : S3} (h : RepR M s) (hk : OKs s) : ∃ M', f_Md_acts M = some ((), M') ∧ HistR M' (recH s.2.2 s.2.1) ∧ M'.1 208 = upd (M.1 208) 2 (nI (recH s.2.2 s.2.1).length) ∧ Off (fun a => a = 208 ∨ a = 210) M M' := by
  obtain ⟨-, hS, g1, g2, g3⟩ := h
  have hkj : ∀ j, j < s.2.2.length → OKS (s.2.2.getD j st0).1 := fun j hj => hk.2.2.2.1 _ (by
    rw [List.getD_eq_getElem?_getD, List.getElem?_eq_getElem hj]
    exact List.getElem_mem _)
  rw [f_Md_acts, g1]
  by_cases c : s.2.2.length < 5
  · rw [if_neg (by
      intro q
      have := (nI_eq (by omega) (by omega)).mp (q.trans (show (5 : Int32) = nI 5 from rfl))
      omega), f_Md_acts_b49, ← nI_0]
    obtain ⟨M1, e1, e2, e3, e4⟩ := acts51 (P := s.2.2.length) c FU 0 M (by omega) (by rw [FU_e]; omega) g1
    have er : recH s.2.2 s.2.1 = s.2.2 ++ [s.2.1] := by rw [recH, if_pos c]
    rw [er]
    refine ⟨M1, e1, ⟨by rw [e2]; simp [upd], by simp; omega, fun j hj => ?_⟩, by rw [e2]; simp, e4⟩
    rw [List.length_append, List.length_cons, List.length_nil] at hj
    by_cases cj : j = s.2.2.length
    · subst cj
      have e : (s.2.2 ++ [s.2.1]).getD s.2.2.length st0 = s.2.1 := by simp
      rw [e]
      exact RowS.copy hk.2.2.1 hS (fun j hj => by rw [e3, if_pos (by omega), show 376 * s.2.2.length + j - 376 * s.2.2.length = 0 + j by omega])
    · have hj2 : j < s.2.2.length := by omega
      have e : (s.2.2 ++ [s.2.1]).getD j st0 = s.2.2.getD j st0 := by simp [List.getElem?_append_left hj2]
      rw [e]
      exact RowS.copy (hkj j hj2) (g3 j hj2) (fun i hi => by rw [e3, if_neg (by omega)])
  · have h5 : s.2.2.length = 5 := by omega
    rw [h5, if_pos (show nI 5 = 5 from rfl), ← nI_0]
    obtain ⟨M1, e1, e2, e3, e4⟩ := acts10 FU 0 M (by omega) (by rw [FU_e]; omega) (by rw [g1, h5])
    obtain ⟨M2, d1, d2, d3, d4⟩ := acts51 (P := 4) (by omega) FU 0 M1 (by omega) (by rw [FU_e]; omega) (by rw [e2]; simp [upd])
    have er : recH s.2.2 s.2.1 = s.2.2.drop 1 ++ [s.2.1] := by rw [recH, if_neg c]
    rw [er, e1, f_Md_acts_b49, ← nI_0]
    refine ⟨M2, d1, ⟨by rw [d2]; simp [upd, h5], by simp; omega, fun j hj => ?_⟩, by rw [d2, e2]; funext z; simp [upd, h5]; split <;> rfl, e4.tr d4⟩
    rw [List.length_append, List.length_cons, List.length_nil, List.length_drop, h5] at hj
    by_cases cj : j = 4
    · subst cj
      have e : (s.2.2.drop 1 ++ [s.2.1]).getD 4 st0 = s.2.1 := by simp [List.getElem?_append_right, h5]
      rw [e]
      exact RowS.copy hk.2.2.1 hS (fun j hj => by rw [d3, if_pos (by omega), e4.1 209 (by omega), show 376 * 4 + j - 376 * 4 = 0 + j by omega])
    · have hj2 : j < 4 := by omega
      have e : (s.2.2.drop 1 ++ [s.2.1]).getD j st0 = s.2.2.getD (j + 1) st0 := by
        rw [List.getD_eq_getElem?_getD, List.getD_eq_getElem?_getD, List.getElem?_append_left (by rw [List.length_drop, h5]; omega), List.getElem?_drop, Nat.add_comm]
      rw [e]
      exact RowS.copy (hkj (j + 1) (by omega)) (g3 (j + 1) (by omega)) (fun i hi => by
        rw [d3, if_neg (by omega), e3, if_pos (by omega), show 376 * j + i + 376 = 376 * (j + 1) + i by omega])
theorem in_ok {M : Mem} {x a b : Int32} : f_Md_in x a b M = some (if x < a then 0 else if b < x then 0 else 1, M) := by
  rw [f_Md_in]
  simp only [isB0, isB1, gd_t]
  split
  · rfl
  · split <;> rfl
theorem r_append {M : Mem} {s : S3} (h : RepR M s) (hk : OKs s) (x : Int32) : ∃ M', f_Md_append x M = some ((sp_append x s).1, M') ∧ RepR M' (sp_append x s).2 ∧ OffR M M' := by
  obtain ⟨⟨t1, t2⟩, hS, g1, g2, g3⟩ := id h
  rw [f_Md_append, in_ok, bd_s, sp_append]
  by_cases c1 : x < 1
  · rw [if_pos c1, if_pos c1, if_pos rfl]; exact ⟨M, rfl, h, OffR.rf⟩
  rw [if_neg c1, if_neg c1]
  by_cases c2 : 255 < x
  · rw [if_pos c2, if_pos rfl, if_neg (Int32.not_le.mpr c2)]; exact ⟨M, rfl, h, OffR.rf⟩
  rw [if_neg c2, if_neg (by decide), if_pos (Int32.not_lt.mp c2), t1]
  have hl := hk.1
  by_cases c3 : s.1.length < 100
  · rw [if_neg (by
      intro q
      have := (nI_eq (by omega) (by omega)).mp (q.trans (show (100 : Int32) = nI 100 from rfl))
      omega), if_pos c3, gd_of (inbT c3 (by omega)), bm_e, bm_e, ixN (by omega)]
    have e1 : (mset (mset M 211 s.1.length x) 208 4 ((mset M 211 s.1.length x).1 208 4 + 1)).1 208 4 = nI (s.1.length + 1) := by
      simp only [ms1, if_true, show ¬ (208 : Nat) = 211 by omega, if_false]
      rw [t1, nI_s]
    have o1 : Off (fun a => a = 208 ∨ a = 211) M (mset (mset M 211 s.1.length x) 208 4 ((mset M 211 s.1.length x).1 208 4 + 1)) := (Off.set (Or.inr rfl)).tr (Off.set (Or.inl rfl))
    rw [e1]
    refine ⟨_, rfl, ⟨⟨by rw [e1]; simp, fun i hi => ?_⟩, by rw [o1.1 209 (by omega)]; exact hS, ?_, g2, fun j hj => by rw [o1.1 210 (by omega)]; exact g3 j hj⟩, OffR.of o1 (fun a ha q => by omega)⟩
    · simp only [ms1, show ¬ (211 : Nat) = 208 by omega, if_false, if_true]
      rw [List.length_append, List.length_cons, List.length_nil] at hi
      by_cases ci : i = s.1.length
      · subst ci; simp
      · rw [if_neg ci, t2 i (by omega)]
        simp [List.getElem?_append_left (show i < s.1.length by omega)]
    · simp only [ms1, show ¬ (2 : Nat) = 4 by omega, show ¬ (208 : Nat) = 211 by omega, if_false, if_true]
      exact g1
  · have h100 : s.1.length = 100 := by omega
    rw [h100, if_pos (show nI 100 = 100 from rfl), if_neg (by omega)]; exact ⟨M, rfl, h, OffR.rf⟩
theorem r_clear {M : Mem} {s : S3} (h : RepR M s) : ∃ M', f_Md_clearText M = some ((sp_clear s).1, M') ∧ RepR M' (sp_clear s).2 ∧ OffR M M' := by
  obtain ⟨⟨t1, t2⟩, hS, g1, g2, g3⟩ := h
  have o1 : Off (fun a => a = 208) M (mset M 208 4 0) := Off.set rfl
  rw [f_Md_clearText, bi_e, bm_e, t1]
  exact ⟨_, rfl, ⟨⟨by simp [ms1, sp_clear, nI_0], fun i hi => absurd hi (Nat.not_lt_zero _)⟩, by rw [o1.1 209 (by omega)]; exact hS, by simp [ms1]; exact g1, g2, fun j hj => by rw [o1.1 210 (by omega)]; exact g3 j hj⟩, OffR.of o1 (fun a ha q => by omega)⟩
theorem r_isCell {M : Mem} {x : Int32} : f_Md_isCell x M = some (if isC x = true then 1 else 0, M) := by
  rw [f_Md_isCell, in_ok, bd_s]
  by_cases c : x < 0
  · rw [if_pos c, isB0, gd_t, if_neg (by simp [isC, c])]
  · obtain ⟨k, rfl, hk31⟩ := nonneg_nI c
    rw [if_neg c]
    by_cases d : k < 8
    · rw [if_neg (by rw [show (7 : Int32) = nI 7 from rfl]; exact nI_nlt (by omega) (by omega)), isB1, gd_t, if_pos (by simp [isC, c, ixN hk31, d])]
    · rw [if_pos (by rw [show (7 : Int32) = nI 7 from rfl]; exact nI_lt (by omega) hk31), isB0, gd_t, if_neg (by simp [isC, c, ixN hk31]; omega)]
theorem l2a (k : Nat) : (2 : Int32) + nI k = nI (2 + k) := by rw [show (2 : Int32) = nI 2 from rfl, nI_add]
theorem r_cell {M : Mem} {s : S3} (h : RepR M s) (x : Int32) : f_Md_cell x M = some (a_cell s.2.1 x, M) := by
  rw [f_Md_cell, r_isCell, bd_s, a_cell]
  by_cases c : isC x = true
  · obtain ⟨k, rfl, h1, h2⟩ := isC_k c
    rw [if_pos c, if_pos c, if_neg (by decide), l2a, gd_of (inbT (by omega) (by omega)), ixN (by omega), h2]
    have := h.2.1.2.2.1 k h1
    rw [show 0 + 2 + k = 2 + k by omega] at this
    rw [this]
  · rw [if_neg c, if_neg c, if_pos rfl]
theorem upd_ne {f : Nat → Int32} {k j : Nat} {v : Int32} (h : j ≠ k) : upd f k v j = f j := if_neg h
theorem r_setPlaces {M : Mem} {s : S3} (h : RepR M s) (hk : OKs s) (x : Int32) : ∃ M', f_Md_setPlaces x M = some ((sp_setPlaces x s).1, M') ∧ RepR M' (sp_setPlaces x s).2 ∧ OffR M M' := by
  obtain ⟨⟨t1, t2⟩, hS, -⟩ := id h
  rw [f_Md_setPlaces, in_ok, bd_s, sp_setPlaces]
  by_cases c1 : x < 2
  · rw [if_pos c1, if_pos c1, if_pos rfl]; exact ⟨M, rfl, h, OffR.rf⟩
  rw [if_neg c1, if_neg c1]
  by_cases c2 : 8 < x
  · rw [if_pos c2, if_pos c2, if_pos rfl]; exact ⟨M, rfl, h, OffR.rf⟩
  rw [if_neg c2, if_neg c2, if_neg (by decide)]
  obtain ⟨M1, e1, e2, e3, e4⟩ := acts_ok h hk
  have s9 : M1.1 209 = M.1 209 := e4.1 209 (by omega)
  rw [e1, bd_s, gd_of (by decide), bi_e, gd_of (by decide), bm_e, show ix 1 = 1 from rfl, s9]
  have o1 : Off (fun a => a = 209) M1 (mset M1 209 1 x) := Off.set rfl
  have e1p : M.1 209 1 = s.2.1.2.2 := hS.2.1
  rw [e1p]
  refine ⟨_, rfl, ⟨⟨by rw [o1.1 208 (by omega), e3, upd_ne (by omega)]; exact t1, fun i hi => by rw [o1.1 211 (by omega), e4.1 211 (by omega)]; exact t2 i hi⟩, ?_, by rw [o1.1 208 (by omega)]; exact e2.1, e2.2.1, fun j hj => by rw [o1.1 210 (by omega)]; exact e2.2.2 j hj⟩, (OffR.of e4 (fun a ha q => by omega)).tr (OffR.of o1 (fun a ha q => by omega))⟩
  obtain ⟨h1, h2, h3, h4⟩ := hS
  rw [mset_eq, s9]
  refine ⟨by rw [upd_ne (by omega)]; exact h1, by simp [upd], fun c hc => by rw [upd_ne (by omega)]; exact h3 c hc, fun i hi => ⟨by rw [upd_ne (by omega)]; exact (h4 i hi).1, fun k hk2 => ⟨by rw [upd_ne (by omega)]; exact ((h4 i hi).2 k hk2).1, fun ha => by rw [upd_ne (by omega)]; exact ((h4 i hi).2 k hk2).2 ha⟩⟩⟩
theorem r_setCell {M : Mem} {s : S3} (h : RepR M s) (hk : OKs s) (x v : Int32) : ∃ M', f_Md_setCell x v M = some ((sp_setCell x v s).1, M') ∧ RepR M' (sp_setCell x v s).2 ∧ OffR M M' := by
  obtain ⟨⟨t1, t2⟩, hS, -⟩ := id h
  rw [f_Md_setCell, r_isCell, bd_s, sp_setCell]
  by_cases c : isC x = true
  · rw [if_pos c, if_pos c, if_neg (by decide), in_ok, bd_s]
    by_cases c1 : v < -999
    · rw [if_pos c1, if_pos c1, if_pos rfl]; exact ⟨M, rfl, h, OffR.rf⟩
    rw [if_neg c1, if_neg c1]
    by_cases c2 : 999 < v
    · rw [if_pos c2, if_pos rfl, if_neg (Int32.not_le.mpr c2)]; exact ⟨M, rfl, h, OffR.rf⟩
    rw [if_neg c2, if_neg (by decide), if_pos (Int32.not_lt.mp c2)]
    obtain ⟨k, rfl, hk1, hk2⟩ := isC_k c
    obtain ⟨M1, e1, e2, e3, e4⟩ := acts_ok h hk
    have s9 : M1.1 209 = M.1 209 := e4.1 209 (by omega)
    have g : inb (nI (2 + k)) 376 = true := inbT (by omega) (by omega)
    rw [e1, bd_s, l2a, gd_of g, bi_e, gd_of g, bm_e, ixN (by omega), s9, hk2]
    have o1 : Off (fun a => a = 209) M1 (mset M1 209 (2 + k) v) := Off.set rfl
    obtain ⟨h1, h2, h3, h4⟩ := hS
    have e1p : M.1 209 (2 + k) = s.2.1.2.1 k := by have := h3 k hk1; rw [show 0 + 2 + k = 2 + k by omega] at this; exact this
    rw [e1p]
    refine ⟨_, rfl, ⟨⟨by rw [o1.1 208 (by omega), e3, upd_ne (by omega)]; exact t1, fun i hi => by rw [o1.1 211 (by omega), e4.1 211 (by omega)]; exact t2 i hi⟩, ?_, by rw [o1.1 208 (by omega)]; exact e2.1, e2.2.1, fun j hj => by rw [o1.1 210 (by omega)]; exact e2.2.2 j hj⟩, (OffR.of e4 (fun a ha q => by omega)).tr (OffR.of o1 (fun a ha q => by omega))⟩
    rw [mset_eq, s9]
    refine ⟨by rw [upd_ne (by omega)]; exact h1, by rw [upd_ne (by omega)]; exact h2, fun c hc => ?_, fun i hi => ⟨by rw [upd_ne (by omega)]; exact (h4 i hi).1, fun j hj => ⟨by rw [upd_ne (by omega)]; exact ((h4 i hi).2 j hj).1, fun ha => by rw [upd_ne (by omega)]; exact ((h4 i hi).2 j hj).2 ha⟩⟩⟩
    show upd (M.1 209) (2 + k) v (0 + 2 + c) = if c = k then v else s.2.1.2.1 c
    by_cases d : c = k
    · rw [if_pos d, d, show 0 + 2 + k = 2 + k by omega]
      simp [upd]
    · rw [if_neg d, upd_ne (by omega)]
      exact h3 c hc
  · rw [if_neg c, if_neg c, if_pos rfl]; exact ⟨M, rfl, h, OffR.rf⟩
theorem undo22 {P : Nat} (hP : P < 5) : ∀ (n k : Nat) (M : Mem), k ≤ 376 → 376 - k < n → M.1 208 2 = nI P →
    ∃ M', f_Md_undo_b22 n (nI k) M = some (nI P, M') ∧ (∀ j, M'.1 209 j = if k ≤ j ∧ j < 376 then M.1 210 (376 * P + j) else M.1 209 j) ∧ Off (fun a => a = 209) M M' := by
  intro n
  induction n with
  | zero => intro k M _ h; omega
  | succ n ih =>
    intro k M hk hn hp
    rw [f_Md_undo_b22, hp]
    by_cases c : k = 376
    · subst c
      rw [if_pos (by decide)]
      exact ⟨M, rfl, fun j => by rw [if_neg (by omega)], Off.rf⟩
    · rw [if_neg (by rw [l376]; exact nI_ge (by omega) (by omega)), l376, nI_mul, nI_add, gd_of (inbT (by omega) (by omega)), gd_of (inbT (by omega) (by omega)), bm_e, bi_e, nI_s, ixN (by omega), ixN (by omega)]
      have o1 : Off (fun a => a = 209) M (mset M 209 k (M.1 210 (376 * P + k))) := Off.set rfl
      obtain ⟨M1, e1, e3, e4⟩ := ih (k + 1) (mset M 209 k (M.1 210 (376 * P + k))) (by omega) (by omega) (by rw [mset_ne (by omega)]; exact hp)
      refine ⟨M1, e1, fun j => ?_, o1.tr e4⟩
      rw [e3 j, mset_ne (show (210 : Nat) ≠ 209 by omega)]
      by_cases d : k + 1 ≤ j ∧ j < 376
      · rw [if_pos d, if_pos (by omega)]
      · rw [if_neg d, ms1, if_pos rfl]
        by_cases d2 : j = k
        · subst d2; rw [if_pos rfl, if_pos (by omega)]
        · rw [if_neg d2, if_neg (by omega)]
theorem r_undo {M : Mem} {s : S3} (h : RepR M s) (hk : OKs s) : ∃ M', f_Md_undo M = some ((sp_undo s).1, M') ∧ RepR M' (sp_undo s).2 ∧ OffR M M' := by
  obtain ⟨⟨t1, t2⟩, hS, g1, g2, g3⟩ := id h
  rw [f_Md_undo, sp_undo, g1]
  by_cases c : s.2.2.length = 0
  · rw [if_pos c, c, if_pos nI_0]; exact ⟨M, rfl, h, OffR.rf⟩
  · obtain ⟨z, hz⟩ : ∃ z, s.2.2.length = z + 1 := ⟨s.2.2.length - 1, by omega⟩
    rw [if_neg c, hz, if_neg (nI_ne0 (by omega) (by omega)), bm_e, nI_m1, ← nI_0, Nat.add_sub_cancel]
    have o1 : Off (fun a => a = 208) M (mset M 208 2 (nI z)) := Off.set rfl
    obtain ⟨M1, e1, e3, e4⟩ := undo22 (P := z) (by omega) FU 0 (mset M 208 2 (nI z)) (by omega) (by rw [FU_e]; omega) (by simp [ms1])
    have hmem : s.2.2.getD z st0 ∈ s.2.2 := by
      rw [List.getD_eq_getElem?_getD, List.getElem?_eq_getElem (show z < s.2.2.length by omega)]
      exact List.getElem_mem _
    refine ⟨M1, e1, ⟨⟨by rw [e4.1 208 (by omega)]; simp [ms1]; exact t1, fun i hi => by rw [e4.1 211 (by omega), o1.1 211 (by omega)]; exact t2 i hi⟩, ?_, ?_, ?_, fun j hj => ?_⟩, (OffR.of o1 (fun a ha q => by omega)).tr (OffR.of e4 (fun a ha q => by omega))⟩
    · exact RowS.copy (hk.2.2.2.1 _ hmem) (g3 z (by omega)) (fun j hj => by rw [e3, if_pos (by omega), o1.1 210 (by omega), Nat.zero_add])
    · rw [e4.1 208 (by omega)]
      simp only [ms1, if_true, List.length_take]
      congr 1
      omega
    · rw [List.length_take]; omega
    · rw [List.length_take] at hj
      have e : (s.2.2.take z).getD j st0 = s.2.2.getD j st0 := by simp [List.getElem?_take, show j < z by omega]
      rw [e, e4.1 210 (by omega), o1.1 210 (by omega)]
      exact g3 j (by omega)
