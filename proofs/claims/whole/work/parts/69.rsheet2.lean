theorem QW.s {M : Mem} {k : Nat} {v : Int32} (h : 6 ≤ k) : QW M (mset M 208 k v) := ⟨Off.set (Or.inl rfl), fun j hj => by
  have : j ≠ k := by omega
  simp [ms1, this]⟩
theorem TX.w {M M' : Mem} {tx : List Int32} (h : TX M tx) (hq : QW M M') : TX M' tx := ⟨by rw [hq.2 4 (by omega)]; exact h.1, fun j hj => by rw [hq.1.1 211 (by omega)]; exact h.2 j hj⟩
theorem rend {tx : List Int32} {fs : List Fm} {i : Nat} {M : Mem} (hx : tx.length ≤ 100) (hch : ∀ c ∈ tx, (1 : Int32) ≤ c) (hl : fs.length ≤ 5) (hi : i ≤ tx.length) (ht : TX M tx) (h6 : M.1 208 6 = nI i) (h7 : M.1 208 7 = nI fs.length) (hF : FSR M fs) (hlen : ∀ j, j < fs.length → (gf fs j).length ≤ 30) : RSh tx M (f_Md_reads_b141 M) (pEnd tx i fs) := by
  have r := fread_ok hx hl hi ht h6 h7
  have g := top_gd (tx := tx) hl hi
  rw [f_Md_reads_b141, pEnd]
  have bad : ∀ M', M'.1 208 6 = nI (pTop tx fs.length i).2.1 → QW M M' → ¬ ((pTop tx fs.length i).1 = true ∧ sg tx (pTop tx fs.length i).2.1 = 0) → f_Md_formulaRead M = some (0, M') → RSh tx M (bd (f_Md_formulaRead M) fun r1 M1 => gd (inb 0 376) (bm (mset M1 212 (ix 0) ((M1.1 208 7) + 1)) fun M2 => (if r1 = 0 then gd (isB 0) (some (0, M2)) else (if (M2.1 208 6) = (M2.1 208 4) then gd (isB 1) (some (1, M2)) else gd (isB 0) (some (0, M2)))))) (if (pTop tx fs.length i).1 = true ∧ sg tx (pTop tx fs.length i).2.1 = 0 then (true, (pTop tx fs.length i).2.1, fs ++ [(pTop tx fs.length i).2.2]) else (false, (pTop tx fs.length i).2.1, fs)) := by
    intro M' a b c d
    rw [d, bd_s, gd_of (by decide), bm_e, if_pos rfl, isB0, gd_t, if_neg c]
    exact ⟨_, rfl, by rw [mset_ne (by omega)]; exact a, b.tr ⟨Off.set (Or.inr (Or.inl rfl)), fun k hk => by rw [mset_ne (by omega)]⟩, fun q => by cases q⟩
  rw [FmO] at r
  by_cases c : (pTop tx fs.length i).1 = true
  · rw [if_pos c] at r
    rcases r with ⟨M', a, b, d, e⟩ | ⟨q, M', a, b, d⟩
    · have e7 : (mset M' 212 (10 + fs.length) (nI (pTop tx fs.length i).2.2.length)).1 208 7 = nI fs.length := by rw [mset_ne (by omega), e.2.1 7 (by omega)]; exact h7
      have n4 : M'.1 208 4 = nI tx.length := by rw [e.2.1 4 (by omega)]; exact ht.1
      have hs0 : (pTop tx fs.length i).2.1 = tx.length ↔ sg tx (pTop tx fs.length i).2.1 = 0 := by
        refine ⟨fun z => by rw [z]; simp [sg], fun z => ?_⟩
        rcases Nat.lt_or_ge (pTop tx fs.length i).2.1 tx.length with w | w
        · have hm : sg tx (pTop tx fs.length i).2.1 ∈ tx := by
            rw [sg, List.getD_eq_getElem?_getD, List.getElem?_eq_getElem w]
            exact List.getElem_mem _
          have := hch _ hm
          rw [z] at this
          exact absurd this (by decide)
        · have := g.2.1
          omega
      have e6 : (mset (mset M' 212 (10 + fs.length) (nI (pTop tx fs.length i).2.2.length)) 212 (ix 0) (nI fs.length + 1)).1 208 6 = nI (pTop tx fs.length i).2.1 := by rw [mset_ne (by omega), mset_ne (by omega)]; exact b
      have e4 : (mset (mset M' 212 (10 + fs.length) (nI (pTop tx fs.length i).2.2.length)) 212 (ix 0) (nI fs.length + 1)).1 208 4 = nI tx.length := by rw [mset_ne (by omega), mset_ne (by omega)]; exact n4
      have qw : QW M (mset (mset M' 212 (10 + fs.length) (nI (pTop tx fs.length i).2.2.length)) 212 (ix 0) (nI fs.length + 1)) := e.w.tr ⟨(Off.set (Or.inr (Or.inl rfl))).tr (Off.set (Or.inr (Or.inl rfl))), fun k hk => by rw [mset_ne (by omega), mset_ne (by omega)]⟩
      rw [a, bd_s, gd_of (by decide), bm_e, if_neg (show ¬ (1 : Int32) = 0 by decide), e7, e6, e4]
      by_cases z : sg tx (pTop tx fs.length i).2.1 = 0
      · rw [if_pos (by rw [hs0.mpr z]), if_pos ⟨c, z⟩, isB1, gd_t]
        refine ⟨_, rfl, e6, qw, fun _ => ⟨?_, ?_, fun j h1 h2 => ?_⟩⟩
        · simp [ms1, show ix 0 = 0 from rfl, nI_s]
        · have := fsr_next (by omega) hlen hF e d g.2.2.1
          intro j hj
          obtain ⟨w1, w2⟩ := this j hj
          have z0 : ∀ (A : Mem) v q, q ≠ 0 → (mset A 212 (ix 0) v).1 212 q = A.1 212 q := fun A v q hq => by rw [ms1, if_pos rfl, if_neg (show ¬ q = ix 0 from hq)]
          refine ⟨by rw [z0 _ _ _ (by omega)]; exact w1, fun k hk => ?_⟩
          rw [z0 _ _ _ (by omega), z0 _ _ _ (by omega)]
          exact w2 k hk
        · rw [ms1, if_pos rfl, if_neg (show ¬ j = ix 0 from (by rw [show ix 0 = 0 from rfl]; omega)), ms1, if_pos rfl, if_neg (by omega), e.2.2 j (by omega)]
      · rw [if_neg (fun w => z (hs0.mp ((nI_eq (by have := g.2.1; omega) (by omega)).mp w))), if_neg (fun w => z w.2), isB0, gd_t]
        exact ⟨_, rfl, e6, qw, fun q => by cases q⟩
    · exact bad M' b d (fun z => by rw [z.2] at q; exact absurd q (by decide)) a
  · rw [if_neg c] at r
    obtain ⟨M', a, b, d⟩ := r
    exact bad M' b d (fun z => c z.1) a
