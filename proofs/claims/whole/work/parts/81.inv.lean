/-! class and reference side by side: the invariant of the law's loop -/
def InvL (M : Mem) (s : S3) : Prop := RepC M s ∧ RepR M s ∧ OKs s
theorem RepR.offC {M M' : Mem} {s : S3} (h : RepR M s) (ho : OffC M M') : RepR M' s := by
  obtain ⟨⟨h1, h2⟩, h3, h4, h5, h6⟩ := h
  have e8 := ho 208 (by omega)
  have e9 := ho 209 (by omega)
  have e10 := ho 210 (by omega)
  have e11 := ho 211 (by omega)
  exact ⟨⟨by rw [e8]; exact h1, fun i hi => by rw [e11]; exact h2 i hi⟩, by rw [e9]; exact h3, by rw [e8]; exact h4, h5, fun j hj => by rw [e10]; exact h6 j hj⟩
theorem RepC.offR {M M' : Mem} {s : S3} (h : RepC M s) (hk : OKs s) (ho : OffR M M') : RepC M' s := by
  obtain ⟨⟨h1, h2⟩, h3, ⟨h4, h5, h6, h7, h8⟩, h9, h10⟩ := h
  have oP : Off (fun a => 208 ≤ a) M M' := ⟨fun a ha => ho.1 a (by omega), ho.2⟩
  refine ⟨⟨by rw [ho.1 1 (by omega)]; exact h1, fun i hi => by rw [ho.1 2 (by omega)]; exact h2 i hi⟩, h3.off oP hk.2.2.1.1.2 (fun a ha => by have : _ ∧ _ := ha; omega), ⟨by rw [ho.1 0 (by omega)]; exact h4, h5, fun i hi => by rw [ho.2]; exact h6 i hi, fun i i' hi hi' hh => h7 i i' hi hi' (by rw [ho.2] at hh; exact hh), fun j hj => ?_⟩, h9.off oP hk.2.2.1.1.2 (fun a ha => by have : _ ∧ _ := ha; omega), h10.off oP (fun a ha => by have : _ ∧ _ := ha; omega)⟩
  rw [ho.2]
  obtain ⟨i, hi, hm⟩ := h6 j (by omega)
  refine (h8 j hj).off oP ?_ (fun a ha => by have : _ ∧ _ := ha; omega)
  have hmem : s.2.2.getD j st0 ∈ s.2.2 := by
    rw [List.getD_eq_getElem?_getD, List.getElem?_eq_getElem hj]
    exact List.getElem_mem _
  exact (hk.2.2.2.1 _ hmem).1.2
theorem st_act {M : Mem} {s s' : S3} {v : Int32} {fc fr : Mem → Option (Int32 × Mem)} (h : InvL M s) (hc : ∃ M', fc M = some (v, M') ∧ RepC M' s' ∧ OffC M M') (hr : ∀ M', RepR M' s → ∃ M2, fr M' = some (v, M2) ∧ RepR M2 s' ∧ OffR M' M2) (ho : OKs s') :
    ∃ r M1 M2 s', fc M = some (r, M1) ∧ fr M1 = some (r, M2) ∧ InvL M2 s' := by
  obtain ⟨M1, e1, a1, a2⟩ := hc
  obtain ⟨M2, e2, b1, b2⟩ := hr M1 (h.2.1.offC a2)
  exact ⟨v, M1, M2, s', e1, e2, a1.offR ho b2, b1, ho⟩
theorem OffC.rf {M : Mem} : OffC M M := fun _ _ => rfl
section ST
variable {M : Mem} {s : S3}
theorem st_append (h : InvL M s) (x : Int32) : ∃ r M1 M2 s', f_LP_append x M = some (r, M1) ∧ f_Md_append x M1 = some (r, M2) ∧ InvL M2 s' := st_act h (c_append h.1 h.2.2 x) (fun _ hr => r_append hr h.2.2 x) (oks_append h.2.2 x)
theorem st_clear (h : InvL M s) : ∃ r M1 M2 s', f_LP_clearText M = some (r, M1) ∧ f_Md_clearText M1 = some (r, M2) ∧ InvL M2 s' := st_act h (c_clear h.1 h.2.2) (fun _ hr => r_clear hr) (oks_clear h.2.2)
theorem st_read (h : InvL M s) : ∃ r M1 M2 s', f_LP_read M = some (r, M1) ∧ f_Md_read M1 = some (r, M2) ∧ InvL M2 s' := st_act h (c_read h.1 h.2.2) (fun _ hr => r_read hr h.2.2) (oks_read h.2.2)
theorem st_turn (h : InvL M s) (x y : Int32) : ∃ r M1 M2 s', f_LP_turn x y M = some (r, M1) ∧ f_Md_turn x y M1 = some (r, M2) ∧ InvL M2 s' := st_act h (c_turn h.1 h.2.2 x y) (fun _ hr => r_turn hr h.2.2 x y) (oks_turn h.2.2 x y)
theorem st_setCell (h : InvL M s) (x y : Int32) : ∃ r M1 M2 s', f_LP_setCell x y M = some (r, M1) ∧ f_Md_setCell x y M1 = some (r, M2) ∧ InvL M2 s' := st_act h (c_setCell h.1 h.2.2 x y) (fun _ hr => r_setCell hr h.2.2 x y) (oks_setCell h.2.2 x y)
theorem st_setPlaces (h : InvL M s) (x : Int32) : ∃ r M1 M2 s', f_LP_setPlaces x M = some (r, M1) ∧ f_Md_setPlaces x M1 = some (r, M2) ∧ InvL M2 s' := st_act h (c_setPlaces h.1 h.2.2 x) (fun _ hr => r_setPlaces hr h.2.2 x) (oks_setPlaces h.2.2 x)
theorem st_undo (h : InvL M s) : ∃ r M1 M2 s', f_LP_undo M = some (r, M1) ∧ f_Md_undo M1 = some (r, M2) ∧ InvL M2 s' := st_act h (c_undo h.1 h.2.2) (fun _ hr => r_undo hr h.2.2) (oks_undo h.2.2)
theorem st_count (h : InvL M s) (x : Int32) : ∃ r M1 M2 s', f_LP_count x M = some (r, M1) ∧ f_Md_count x M1 = some (r, M2) ∧ InvL M2 s' := st_act h ⟨M, c_count h.1 h.2.2 x, h.1, OffC.rf⟩ (fun _ hr => r_count hr h.2.2 x) h.2.2
theorem st_formula (h : InvL M s) (x y : Int32) : ∃ r M1 M2 s', f_LP_formula x y M = some (r, M1) ∧ f_Md_formula x y M1 = some (r, M2) ∧ InvL M2 s' := st_act h ⟨M, c_formula h.1 h.2.2 x y, h.1, OffC.rf⟩ (fun _ hr => r_formula hr h.2.2 x y) h.2.2
theorem st_node (h : InvL M s) (x y w : Int32) : ∃ r M1 M2 s', f_LP_node x y w M = some (r, M1) ∧ f_Md_node x y w M1 = some (r, M2) ∧ InvL M2 s' := st_act h ⟨M, c_node h.1 h.2.2 x y w, h.1, OffC.rf⟩ (fun _ hr => r_node hr h.2.2 x y w) h.2.2
theorem st_cell (h : InvL M s) (x : Int32) : ∃ r M1 M2 s', f_LP_cell x M = some (r, M1) ∧ f_Md_cell x M1 = some (r, M2) ∧ InvL M2 s' := st_act h ⟨M, c_cell h.1 x, h.1, OffC.rf⟩ (fun M' hr => ⟨M', r_cell hr x, hr, OffR.rf⟩) h.2.2
theorem st_plan (h : InvL M s) (x : Int32) : ∃ r M1 M2 s', f_LP_plan x M = some (r, M1) ∧ f_Md_plan x M1 = some (r, M2) ∧ InvL M2 s' := st_act h (c_plan h.1 h.2.2 x) (fun _ hr => r_plan hr h.2.2 x) h.2.2
theorem st_step (h : InvL M s) (x y : Int32) : ∃ r M1 M2 s', f_LP_step x y M = some (r, M1) ∧ f_Md_step x y M1 = some (r, M2) ∧ InvL M2 s' := st_act h (c_step h.1 h.2.2 x y) (fun _ hr => r_step hr h.2.2 x y) h.2.2
theorem st_cost (h : InvL M s) (x : Int32) : ∃ r M1 M2 s', f_LP_costWith x M = some (r, M1) ∧ f_Md_costWith x M1 = some (r, M2) ∧ InvL M2 s' := st_act h (c_cost h.1 h.2.2 x) (fun _ hr => r_cost hr h.2.2 x) h.2.2
theorem st_enough (h : InvL M s) : ∃ r M1 M2 s', f_LP_enough M = some (r, M1) ∧ f_Md_enough M1 = some (r, M2) ∧ InvL M2 s' := st_act h (c_enough h.1 h.2.2) (fun _ hr => r_enough hr h.2.2) h.2.2
theorem st_proved (h : InvL M s) (x : Int32) : ∃ r M1 M2 s', f_LP_proved x M = some (r, M1) ∧ f_Md_proved x M1 = some (r, M2) ∧ InvL M2 s' := st_act h (c_trial h.1 h.2.2 x).1 (fun _ hr => (r_trial hr h.2.2 x).1) h.2.2
theorem st_ways (h : InvL M s) (x : Int32) : ∃ r M1 M2 s', f_LP_ways x M = some (r, M1) ∧ f_Md_ways x M1 = some (r, M2) ∧ InvL M2 s' := st_act h (c_trial h.1 h.2.2 x).2 (fun _ hr => (r_trial hr h.2.2 x).2) h.2.2
end ST
/-- a new object's state -/
def s00 : S3 := ([], ([[(0, 0)]], fun _ => 0, 3), [])
theorem oks00 : OKs s00 := by
  refine ⟨Nat.zero_le _, fun c hc => (by cases hc), ⟨⟨by decide, by decide⟩, fun i hi => ?_⟩, fun q hq => (by cases hq), Nat.zero_le _⟩
  have h0 : i = 0 := by have : i < 1 := hi; omega
  subst h0
  refine ⟨rfl, by decide, fun k hk => ?_⟩
  have h0 : k = 0 := by have : k < 1 := hk; omega
  subst h0
  exact Or.inl ⟨rfl, by decide, by decide⟩
theorem repR00 : RepR M0 s00 := by
  refine ⟨⟨by decide +kernel, fun i hi => by cases hi⟩, ⟨by decide +kernel, by decide +kernel, fun c hc => ?_, fun i hi => ?_⟩, by decide +kernel, Nat.zero_le _, fun j hj => by cases hj⟩
  · revert c
    show ∀ c, c < 8 → M0n 209 (0 + 2 + c) = 0
    decide +kernel
  · have h0 : i = 0 := by have : i < 1 := hi; omega
    subst h0
    refine ⟨by decide +kernel, fun k hk => ?_⟩
    have h0 : k = 0 := by have : k < 1 := hk; omega
    subst h0
    exact ⟨by decide +kernel, fun _ => by decide +kernel⟩
theorem sa00 : SA M0 24 s00.2.1 := by
  refine ⟨by decide +kernel, fun i hi => ?_, fun c hc => ?_, by decide +kernel⟩
  · have h0 : i = 0 := by have : i < 1 := hi; omega
    subst h0
    refine ⟨by decide +kernel, by decide +kernel, fun k hk => ?_⟩
    have h0 : k = 0 := by have : k < 1 := hk; omega
    subst h0
    decide +kernel
  · revert c
    show ∀ c, c < 8 → M0n 26 c = 0
    decide +kernel
theorem exa00 : EXA M0 s00.2.1 := by
  intro i hi
  have h0 : i = 0 := by have : i < 1 := hi; omega
  subst h0
  have hX : (XX s00.2.1 0).1 = [(0, 0)] := rfl
  rw [EXi, hX]
  refine ⟨⟨by decide +kernel, by decide +kernel, fun k hk => ?_⟩, by decide +kernel, fun k h1 h2 => ?_⟩
  · have h0 : k = 0 := by have : k < 1 := hk; omega
    subst h0
    decide +kernel
  · have h0 : k = 0 := by have : k < 1 := h2; omega
    subst h0
    exact ⟨by decide +kernel, by decide +kernel, by decide +kernel, by decide +kernel⟩
theorem repC00 : RepC M0 s00 := by
  refine ⟨⟨by decide +kernel, fun i hi => by cases hi⟩, sa00, ⟨by decide +kernel, Nat.zero_le _, fun i hi => ⟨i, hi, rfl⟩, fun i i' _ _ h => ?_, fun j hj => by cases hj⟩, exa00, ?_⟩
  · have h : 55 + 21 * i = 55 + 21 * i' := h
    omega
  · show ∀ i, i < 6 → M0n (160 + 8 * i) 0 = nI i
    decide +kernel
theorem inv00 : InvL M0 s00 := ⟨repC00, repR00, oks00⟩
