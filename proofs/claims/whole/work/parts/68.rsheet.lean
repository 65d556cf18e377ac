/-! all formulas read by the reference -/
def FSR (M : Mem) (fs : List Fm) : Prop := ∀ j, j < fs.length → M.1 212 (10 + j) = nI (gf fs j).length ∧ FR M j (gf fs j)
def RSh (tx : List Int32) (M : Mem) (o : Option (Int32 × Mem)) (r : PS) : Prop := ∃ M', o = some (if r.1 = true then 1 else 0, M') ∧ M'.1 208 6 = nI r.2.1 ∧ QW M M' ∧ (r.1 = true → M'.1 212 0 = nI r.2.2.length ∧ FSR M' r.2.2 ∧ ∀ j, 1 ≤ j → j < 10 → M'.1 212 j = M.1 212 j)
theorem fsr_next {M M' : Mem} {fs : List Fm} {l : Fm} (hl : fs.length < 6) (hlen : ∀ j, j < fs.length → (gf fs j).length ≤ 30) (h : FSR M fs) (hq : QP fs.length M M') (hF : FR M' fs.length l) (hll : l.length ≤ 30) : FSR (mset M' 212 (10 + fs.length) (nI l.length)) (fs ++ [l]) := by
  intro j hj
  rw [List.length_append, List.length_cons, List.length_nil] at hj
  rw [gf_app]
  by_cases c : j = fs.length
  · rw [if_pos c, c]
    refine ⟨by simp [ms1], fun k hk => ?_⟩
    have e1 : 16 + 60 * fs.length + 2 * k ≠ 10 + fs.length := by omega
    have e2 : 17 + 60 * fs.length + 2 * k ≠ 10 + fs.length := by omega
    rw [ms1, if_pos rfl, if_neg e1, ms1, if_pos rfl, if_neg e2]
    exact hF k hk
  · rw [if_neg c]
    obtain ⟨h1, h2⟩ := h j (by omega)
    have hlj := hlen j (by omega)
    refine ⟨?_, fun k hk => ?_⟩
    · rw [ms1, if_pos rfl, if_neg (by omega), hq.2.2 _ (by omega)]; exact h1
    · have e1 : 16 + 60 * j + 2 * k ≠ 10 + fs.length := by omega
      have e2 : 17 + 60 * j + 2 * k ≠ 10 + fs.length := by omega
      rw [ms1, if_pos rfl, if_neg e1, ms1, if_pos rfl, if_neg e2, hq.2.2 _ (by omega), hq.2.2 _ (by omega)]
      exact h2 k hk
