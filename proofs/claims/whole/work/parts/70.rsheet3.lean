theorem RSh.of {tx : List Int32} {M M1 : Mem} {o : Option (Int32 × Mem)} {r : PS} (hq : QW M M1) (hw : ∀ j, 1 ≤ j → j < 10 → M1.1 212 j = M.1 212 j) (h : RSh tx M1 o r) : RSh tx M o r := by
  obtain ⟨M', a, b, c, d⟩ := h
  exact ⟨M', a, b, hq.tr c, fun q => ⟨(d q).1, (d q).2.1, fun j h1 h2 => ((d q).2.2 j h1 h2).trans (hw j h1 h2)⟩⟩
theorem FSR.keep {M M' : Mem} {fs : List Fm} (h : FSR M fs) (e : M'.1 212 = M.1 212) : FSR M' fs := fun j hj => by
  obtain ⟨h1, h2⟩ := h j hj
  exact ⟨by rw [e]; exact h1, fun k hk => by rw [e]; exact h2 k hk⟩
