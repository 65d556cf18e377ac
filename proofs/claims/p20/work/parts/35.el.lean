/-! what the rows of an expanded form tell; what tries leave as it is -/
def EL (M : Mem) (e i : Nat) (lv : Nd → Int32) (l : Fm) : Prop := (sh e).1 = 0 ∧ M.1 e 0 = nI i ∧ FA M (e + 1) l ∧ (∀ k, k < l.length → M.1 (e + 4) k = nI (tr lv l k).1 ∧ M.1 (e + 5) k = nI (tr lv l k).2.1) ∧ 160 ≤ e
theorem EL_of {M : Mem} {st : St} (hk : OKS st.1) (hE : EXA M st) (h0 : EX0 M) {i : Nat} (hi : i < st.1.length) : EL M (160 + 8 * i) i (lvS st i) (XX st i).1 := by
  have h6 := hk.1.2
  obtain ⟨e1, e2, e3⟩ := hE i hi
  exact ⟨sh_E8 (by omega), h0 i (by omega), e1, fun k hk2 => ⟨(e3 k (by omega) hk2).1, (e3 k (by omega) hk2).2.1⟩, by omega⟩
abbrev RPT : Nat → Prop := fun a => 47 ≤ a ∧ a ≤ 54
theorem RepC.off {M M' : Mem} {s : S3} (h : RepC M s) (hk : OKs s) (ho : Off RPT M M') : RepC M' s := by
  obtain ⟨⟨t1, t2⟩, hS, hH, hE, h0⟩ := h
  refine ⟨⟨by rw [ho.1 1 (fun q => by have : _ ∧ _ := q; omega)]; exact t1, fun i hi => by rw [ho.1 2 (fun q => by have : _ ∧ _ := q; omega)]; exact t2 i hi⟩, hS.off ho hk.2.2.1.1.2 (fun a ha q => by have : _ ∧ _ := ha; have : _ ∧ _ := q; omega), hH.off hk.2.2.2.1 ho (fun a ha q => by have : _ ∧ _ := q; omega), hE.off ho hk.2.2.1.1.2 (fun a ha q => by have : _ ∧ _ := ha; have : _ ∧ _ := q; omega), h0.off ho (fun a ha q => by have : _ ∧ _ := ha; have : _ ∧ _ := q; omega)⟩
theorem RPT_C {M M' : Mem} (h : Off RPT M M') : OffC M M' := OffC.of h (fun a ha q => by have : _ ∧ _ := q; omega)
