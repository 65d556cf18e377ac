/-- a new object's state -/
def s00 : S3 := ([], ([[(0, 0)]], fun _ => 0, 3), [])
theorem oks00 : OKs s00 := by
  refine ⟨Nat.zero_le _, fun c hc => (by cases hc), ⟨⟨by decide, by decide⟩, fun i hi => ?_⟩, fun q hq => (by cases hq), Nat.zero_le _⟩
  have h0 : i = 0 := by have : i < 1 := hi; omega
  subst h0
  refine ⟨rfl, by decide, fun k hk => ?_⟩
  have h0 : k = 0 := by have : k < 1 := hk; omega
  subst h0
  exact Or.inl ⟨rfl, by decide, by decide⟩
theorem sa00 : SA M0 24 s00.2.1 := by
  refine ⟨by decide +kernel, fun i hi => ?_, fun c hc => ?_, by decide +kernel⟩
  · have h0 : i = 0 := by have : i < 1 := hi; omega
    subst h0
    refine ⟨by decide +kernel, by decide +kernel, fun k hk => ?_⟩
    have h0 : k = 0 := by have : k < 1 := hk; omega
    subst h0
    decide +kernel
  · revert c
    show ∀ c, c < 8 → M0n 26 c = 0
    decide +kernel
theorem exa00 : EXA M0 s00.2.1 := by
  intro i hi
  have h0 : i = 0 := by have : i < 1 := hi; omega
  subst h0
  have hX : (XX s00.2.1 0).1 = [(0, 0)] := rfl
  rw [EXi, hX]
  refine ⟨⟨by decide +kernel, by decide +kernel, fun k hk => ?_⟩, by decide +kernel, fun k h1 h2 => ?_⟩
  · have h0 : k = 0 := by have : k < 1 := hk; omega
    subst h0
    decide +kernel
  · have h0 : k = 0 := by have : k < 1 := h2; omega
    subst h0
    exact ⟨by decide +kernel, by decide +kernel, by decide +kernel, by decide +kernel⟩
theorem repC00 : RepC M0 s00 := by
  refine ⟨⟨by decide +kernel, fun i hi => by cases hi⟩, sa00, ⟨by decide +kernel, Nat.zero_le _, fun i hi => ⟨i, hi, if_pos hi⟩, fun i i' hi hi' h => ?_, fun j hj => by cases hj⟩, exa00, ?_⟩
  · have h1 : M0.2 i = 55 + 21 * i := if_pos hi
    have h2 : M0.2 i' = 55 + 21 * i' := if_pos hi'
    rw [h1, h2] at h
    omega
  · show ∀ i, i < 6 → M0n (160 + 8 * i) 0 = nI i
    decide +kernel
