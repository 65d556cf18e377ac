/-! what keeps a state in order -/
theorem oks_rec {s : S3} (h : OKs s) : (∀ q ∈ recH s.2.2 s.2.1, OKS q.1) ∧ (recH s.2.2 s.2.1).length ≤ 5 := by
  obtain ⟨h1, h2, h3, h4, h5⟩ := h
  rw [recH]
  split
  · refine ⟨fun q hq => ?_, by simp; omega⟩
    rcases List.mem_append.mp hq with w | w
    · exact h4 q w
    · rw [List.mem_singleton] at w; rw [w]; exact h3
  · refine ⟨fun q hq => ?_, by simp; omega⟩
    rcases List.mem_append.mp hq with w | w
    · exact h4 q (List.mem_of_mem_drop w)
    · rw [List.mem_singleton] at w; rw [w]; exact h3
theorem oks_append {s : S3} (h : OKs s) (x : Int32) : OKs (sp_append x s).2 := by
  rw [sp_append]
  by_cases c1 : x < 1
  · rw [if_pos c1]; exact h
  rw [if_neg c1]
  by_cases c2 : x ≤ 255
  · rw [if_pos c2]
    by_cases c3 : s.1.length < 100
    · rw [if_pos c3]
      refine ⟨by simp; omega, fun c hc => ?_, h.2.2⟩
      rcases List.mem_append.mp hc with w | w
      · exact h.2.1 c w
      · rw [List.mem_singleton] at w; rw [w]; exact ⟨Int32.not_lt.mp c1, c2⟩
    · rw [if_neg c3]; exact h
  · rw [if_neg c2]; exact h
theorem oks_clear {s : S3} (h : OKs s) : OKs (sp_clear s).2 := ⟨by simp [sp_clear], fun c hc => (by cases hc), h.2.2⟩
theorem oks_setCell {s : S3} (h : OKs s) (x v : Int32) : OKs (sp_setCell x v s).2 := by
  rw [sp_setCell]
  split
  · split
    · exact h
    · split
      · exact ⟨h.1, h.2.1, h.2.2.1, (oks_rec h).1, (oks_rec h).2⟩
      · exact h
  · exact h
theorem oks_setPlaces {s : S3} (h : OKs s) (x : Int32) : OKs (sp_setPlaces x s).2 := by
  rw [sp_setPlaces]
  split
  · exact h
  · split
    · exact h
    · exact ⟨h.1, h.2.1, h.2.2.1, (oks_rec h).1, (oks_rec h).2⟩
theorem oks_undo {s : S3} (h : OKs s) : OKs (sp_undo s).2 := by
  rw [sp_undo]
  by_cases c : s.2.2.length = 0
  · rw [if_pos c]; exact h
  · rw [if_neg c]
    have hmem : s.2.2.getD (s.2.2.length - 1) st0 ∈ s.2.2 := by
      rw [List.getD_eq_getElem?_getD, List.getElem?_eq_getElem (show s.2.2.length - 1 < s.2.2.length by omega)]
      exact List.getElem_mem _
    exact ⟨h.1, h.2.1, h.2.2.2.1 _ hmem, fun q hq => h.2.2.2.1 q (List.mem_of_mem_take hq), by show (s.2.2.take (s.2.2.length - 1)).length ≤ 5; rw [List.length_take]; have := h.2.2.2.2; omega⟩
theorem oks_turn {s : S3} (h : OKs s) (x y : Int32) : OKs (sp_turn x y s).2 := by
  rw [sp_turn]
  by_cases c : isF s.2.1.1 x = true
  · rw [if_pos c]
    obtain ⟨f, rfl, hf1, hf2, hf3⟩ := isF_k c
    rw [hf3]
    by_cases c2 : (!decide (y < 0) && decide (ix y < (gf s.2.1.1 f).length)) = true
    · rw [if_pos c2]
      by_cases c3 : (nd (gf s.2.1.1 f) (ix y)).1 = 4 ∨ (nd (gf s.2.1.1 f) (ix y)).1 = 6
      · rw [if_pos c3]
        have hy : ix y < (gf s.2.1.1 f).length := by simp at c2; exact c2.2
        exact ⟨h.1, h.2.1, turnS_ok h.2.2.1 hf1 hy (ar_op c3), (oks_rec h).1, (oks_rec h).2⟩
      · rw [if_neg c3]; exact h
    · rw [if_neg c2]; exact h
  · rw [if_neg c]; exact h
