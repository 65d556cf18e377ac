/-! plans, on the reference's side: does, the stack, the formulas -/
def PB (M : Mem) (t : List Ev) (w : Int32) : Prop := (M.1 208 25 = nI t.length ∧ M.1 208 26 = tC t ∧ M.1 208 27 = tS t ∧ M.1 208 28 = tF t ∧ M.1 208 29 = tO t ∧ M.1 208 30 = tH t ∧ M.1 208 31 = w) ∧ ∀ j, w = nI j → j < t.length → M.1 224 0 = (t.getD j ev0).1 ∧ M.1 224 1 = nI (t.getD j ev0).2.1 ∧ M.1 224 2 = nI (t.getD j ev0).2.2.1 ∧ M.1 224 3 = tH (t.take (j + 1))
/-- only the plan's rows have changed, and below the top of the stack nothing -/
def QF (tp : Nat) (M M' : Mem) : Prop := Off (fun a => a = 208 ∨ (224 ≤ a ∧ a ≤ 227)) M M' ∧ (∀ k, (k < 25 ∨ k = 31 ∨ k = 33) → M'.1 208 k = M.1 208 k) ∧ ∀ j, j < tp → M'.1 225 j = M.1 225 j ∧ M'.1 226 j = M.1 226 j ∧ M'.1 227 j = M.1 227 j
theorem QF.rf {tp : Nat} {M : Mem} : QF tp M M := ⟨Off.rf, fun _ _ => rfl, fun _ _ => ⟨rfl, rfl, rfl⟩⟩
theorem QF.tr {tp : Nat} {M M1 M2 : Mem} (h : QF tp M M1) (g : QF tp M1 M2) : QF tp M M2 := ⟨h.1.tr g.1, fun k hk => (g.2.1 k hk).trans (h.2.1 k hk), fun j hj => ⟨(g.2.2 j hj).1.trans (h.2.2 j hj).1, (g.2.2 j hj).2.1.trans (h.2.2 j hj).2.1, (g.2.2 j hj).2.2.trans (h.2.2 j hj).2.2⟩⟩
theorem QF.le {tp tq : Nat} {M M' : Mem} (h : QF tp M M') (hl : tq ≤ tp) : QF tq M M' := ⟨h.1, h.2.1, fun j hj => h.2.2 j (by omega)⟩
/-- what does changes in the rows -/
def doesM (M : Mem) (g : Bool) (i nn : Nat) (kd pr mo : Int32) : Mem :=
  let M1 := mset M 208 30 (M.1 208 30 + mo)
  let M5 := if g = true then mset (mset (mset (mset M1 224 0 kd) 224 1 (nI i)) 224 2 (nI nn)) 224 3 (M.1 208 30 + mo) else M1
  mset (mset (mset (mset (mset M5 208 25 (M.1 208 25 + 1)) 208 26 (M.1 208 26 + pr)) 208 27 (M.1 208 27 + (if kd = 2 then 1 else 0))) 208 28 (M.1 208 28 + (if kd = 5 then 1 else 0))) 208 29 (M.1 208 29 + (if kd = 1 then pr else 0))
theorem does56 {M0 : Mem} {kd pr : Int32} : f_Md_does_b56 kd pr M0 = some ((), mset (mset (mset (mset (mset M0 208 25 (M0.1 208 25 + 1)) 208 26 (M0.1 208 26 + pr)) 208 27 (M0.1 208 27 + (if kd = 2 then 1 else 0))) 208 28 (M0.1 208 28 + (if kd = 5 then 1 else 0))) 208 29 (M0.1 208 29 + (if kd = 1 then pr else 0))) := by
  rw [f_Md_does_b56, bm_e, bm_e]
  generalize hA : mset (mset M0 208 25 (M0.1 208 25 + 1)) 208 26 ((mset M0 208 25 (M0.1 208 25 + 1)).1 208 26 + pr) = A
  have e1 : (if kd = 2 then f_Md_does_b91 kd pr 1 (A.1 208 27) A else f_Md_does_b91 kd pr 0 (A.1 208 27) A) = f_Md_does_b91 kd pr (if kd = 2 then 1 else 0) (A.1 208 27) A := by split <;> rfl
  rw [e1, f_Md_does_b91, bm_e]
  generalize hB : mset A 208 27 (A.1 208 27 + (if kd = 2 then 1 else 0)) = B
  have e2 : (if kd = 5 then f_Md_does_b110 kd pr 1 (B.1 208 28) B else f_Md_does_b110 kd pr 0 (B.1 208 28) B) = f_Md_does_b110 kd pr (if kd = 5 then 1 else 0) (B.1 208 28) B := by split <;> rfl
  rw [e2, f_Md_does_b110, bm_e]
  generalize hC : mset B 208 28 (B.1 208 28 + (if kd = 5 then 1 else 0)) = C
  have e3 : (if kd = 1 then bm (mset C 208 29 ((C.1 208 29) + pr)) fun M3 => some ((), M3) else bm (mset C 208 29 ((C.1 208 29) + 0)) fun M2 => some ((), M2)) = some ((), mset C 208 29 (C.1 208 29 + (if kd = 1 then pr else 0))) := by split <;> rfl
  rw [e3]
  have a26 : A.1 208 27 = M0.1 208 27 ∧ A.1 208 28 = M0.1 208 28 ∧ A.1 208 29 = M0.1 208 29 := by subst hA; simp [ms1]
  have b28 : B.1 208 28 = M0.1 208 28 ∧ B.1 208 29 = M0.1 208 29 := by subst hB; simp [ms1, a26]
  have c29 : C.1 208 29 = M0.1 208 29 := by subst hC; simp [ms1, b28]
  rw [c29, ← hC, b28.1, ← hB, a26.1, ← hA]
  have e4 : (mset M0 208 25 (M0.1 208 25 + 1)).1 208 26 = M0.1 208 26 := by simp [ms1]
  rw [e4]
theorem does_e {M : Mem} {i nn : Nat} {kd pr mo : Int32} (h33 : M.1 208 33 = nI i) : f_Md_does kd (nI nn) pr mo M = some ((), doesM M (decide (M.1 208 25 = M.1 208 31)) i nn kd pr mo) := by
  rw [f_Md_does, bm_e]
  have e25 : (mset M 208 30 (M.1 208 30 + mo)).1 208 25 = M.1 208 25 := by simp [ms1]
  have e31 : (mset M 208 30 (M.1 208 30 + mo)).1 208 31 = M.1 208 31 := by simp [ms1]
  rw [e25, e31]
  by_cases c : M.1 208 25 = M.1 208 31
  · rw [if_pos c, gd_of (by decide), bm_e, gd_of (by decide), bm_e, gd_of (by decide), bm_e, gd_of (by decide), bm_e, does56, doesM]
    simp only [c, decide_true, if_true, show ix 0 = 0 from rfl, show ix 1 = 1 from rfl, show ix 2 = 2 from rfl, show ix 3 = 3 from rfl]
    have z : ∀ (A : Mem) k v j, (mset A 224 k v).1 208 j = A.1 208 j := fun A k v j => by rw [mset_ne (by omega)]
    simp only [z]
    simp [ms1, h33, c]
  · rw [if_neg c, does56, doesM]
    have d : decide (M.1 208 25 = M.1 208 31) = false := decide_eq_false c
    simp [ms1, d]
theorem tH_a (t : List Ev) (e : Ev) : tH (t ++ [e]) = tH t + e.2.2.2.2 := by simp [tH, List.foldl_append]
theorem does_ok {M : Mem} {t : List Ev} {w : Int32} {i nn : Nat} {kd pr mo : Int32} (h : PB M t w) (hl : t.length < 726) (h33 : M.1 208 33 = nI i) : ∃ M', f_Md_does kd (nI nn) pr mo M = some ((), M') ∧ PB M' (t ++ [(kd, i, nn, pr, mo)]) w ∧ Off (fun a => a = 208 ∨ a = 224) M M' ∧ ∀ k, (k < 25 ∨ k = 31 ∨ k = 33 ∨ k = 37) → M'.1 208 k = M.1 208 k := by
  obtain ⟨⟨h5, h6, h7, h8, h9, h0, h1⟩, hr⟩ := h
  rw [does_e h33]
  refine ⟨_, rfl, ⟨?_, fun j hj hj2 => ?_⟩, ?_, fun k hk => ?_⟩
  · have z : ∀ (A : Mem) k v j, (mset A 224 k v).1 208 j = A.1 208 j := fun A k v j => by rw [mset_ne (by omega)]
    cases hg : decide (M.1 208 25 = M.1 208 31) <;> simp [doesM, z, ms1, h5, h6, h7, h8, h9, h0, h1, nI_s, tC, tS, tF, tO, tH, List.foldl_append]
  · rw [List.length_append, List.length_cons, List.length_nil] at hj2
    by_cases c : j = t.length
    · subst c
      have hd : decide (M.1 208 25 = M.1 208 31) = true := decide_eq_true (by rw [h5, h1, hj])
      have eg : (t ++ [(kd, i, nn, pr, mo)]).getD t.length ev0 = (kd, i, nn, pr, mo) := by simp
      rw [hd, eg, List.take_of_length_le (by simp), tH_a]
      simp [doesM, ms1, h0]
    · have hd : decide (M.1 208 25 = M.1 208 31) = false := decide_eq_false (by rw [h5, h1, hj]; exact fun q => c ((nI_eq (by omega) (by omega)).mp q).symm)
      have eg : (t ++ [(kd, i, nn, pr, mo)]).getD j ev0 = t.getD j ev0 := by simp [List.getElem?_append_left (show j < t.length by omega)]
      rw [hd, eg, List.take_append_of_le_length (by omega)]
      have := hr j hj (by omega)
      simpa [doesM, ms1] using this
  · have s8 : ∀ {A : Mem} {k v}, Off (fun a => a = 208 ∨ a = 224) A (mset A 208 k v) := Off.set (Or.inl rfl)
    have s4 : ∀ {A : Mem} {k v}, Off (fun a => a = 208 ∨ a = 224) A (mset A 224 k v) := Off.set (Or.inr rfl)
    cases hg : decide (M.1 208 25 = M.1 208 31)
    · simp only [doesM]
      exact ((((s8.tr s8).tr s8).tr s8).tr s8).tr s8
    · simp only [doesM]
      exact ((((((((s8.tr s4).tr s4).tr s4).tr s4).tr s8).tr s8).tr s8).tr s8).tr s8
  · have z : ∀ (A : Mem) k v j, (mset A 224 k v).1 208 j = A.1 208 j := fun A k v j => by rw [mset_ne (by omega)]
    have e5 : k ≠ 25 := by omega
    have e6 : k ≠ 26 := by omega
    have e7 : k ≠ 27 := by omega
    have e8 : k ≠ 28 := by omega
    have e9 : k ≠ 29 := by omega
    have e0 : k ≠ 30 := by omega
    cases hg : decide (M.1 208 25 = M.1 208 31) <;> simp [doesM, z, ms1, e5, e6, e7, e8, e9, e0]
