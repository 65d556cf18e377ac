/-! sheets: a state in the memory, its copies -/
/-- formulas, cells, places -/
abbrev St : Type := List Fm × (Nat → Int32) × Int32
def gf (fs : List Fm) (i : Nat) : Fm := fs.getD i []
def SA (M : Mem) (S : Nat) (st : St) : Prop := M.1 S 1 = nI st.1.length ∧ (∀ i, i < st.1.length → FA M (S + 3 + 3 * i) (gf st.1 i)) ∧ (∀ c, c < 8 → M.1 (S + 2) c = st.2.1 c) ∧ M.1 S 3 = st.2.2
/-- formulas as a reading can leave them -/
def OKS (fs : List Fm) : Prop := (1 ≤ fs.length ∧ fs.length ≤ 6) ∧ ∀ i, i < fs.length → wf (gf fs i) ∧ (gf fs i).length ≤ 30 ∧ ∀ k, k < (gf fs i).length → okN i (nd (gf fs i) k)
abbrev RS (S : Nat) : Nat → Prop := fun a => S ≤ a ∧ a ≤ S + 20
theorem tSFd : ∀ a, a < 208 → (sh a).1 = 4 → ∀ i, i < 6 → (sh (a + 3 + 3 * i)).1 = 1 ∧ ln (a + 3 + 3 * i + 1) = 30 := by decide +kernel
theorem tSF {S i : Nat} (h : (sh S).1 = 4) (hi : i < 6) : (sh (S + 3 + 3 * i)).1 = 1 ∧ ln (S + 3 + 3 * i + 1) = 30 := tSFd S (lt_of_sh h (by omega)) h i hi
theorem tSSd : ∀ a, a < 208 → (sh a).1 = 4 → a = 3 ∨ a = 24 ∨ ∃ j, j < 5 ∧ a = 55 + 21 * j := by decide +kernel
theorem tSS {S : Nat} (h : (sh S).1 = 4) : S = 3 ∨ S = 24 ∨ ∃ j, j < 5 ∧ S = 55 + 21 * j := tSSd S (lt_of_sh h (by omega)) h
theorem tSapart {S O : Nat} (h : (sh S).1 = 4) (h2 : (sh O).1 = 4) (hne : S ≠ O) : S + 21 ≤ O ∨ O + 21 ≤ S := by
  rcases tSS h with q | q | ⟨j, q1, q2⟩ <;> rcases tSS h2 with p | p | ⟨i, p1, p2⟩ <;> omega
theorem SA.off {P : Nat → Prop} {M M' : Mem} {S : Nat} {st : St} (h : SA M S st) (ho : Off P M M') (hl : st.1.length ≤ 6) (hP : ∀ a, RS S a → ¬ P a) : SA M' S st := by
  obtain ⟨h1, h2, h3, h4⟩ := h
  refine ⟨?_, fun i hi => ?_, fun c hc => ?_, ?_⟩
  · rw [ho.1 S (hP S (by show _ ∧ _; omega))]; exact h1
  · exact (h2 i hi).off ho (fun a ha => hP a (by rcases ha with q | q | q <;> show _ ∧ _ <;> omega))
  · rw [ho.1 (S + 2) (hP _ (by show _ ∧ _; omega))]; exact h3 c hc
  · rw [ho.1 S (hP S (by show _ ∧ _; omega))]; exact h4
theorem copyF_loop {S O : Nat} {fs : List Fm} (hS : (sh S).1 = 4) (hO : (sh O).1 = 4) (hne : S ≠ O) (hk : OKS fs) : ∀ (n j : Nat) (M : Mem), j ≤ fs.length → fs.length - j < n → M.1 S 1 = nI fs.length → (∀ i, i < fs.length → FA M (O + 3 + 3 * i) (gf fs i)) → (∀ i, i < j → FA M (S + 3 + 3 * i) (gf fs i)) →
    ∃ M', f_Sheet_copyFormulas_b10 n S O (nI j) M = some ((), M') ∧ (∀ i, i < fs.length → FA M' (S + 3 + 3 * i) (gf fs i)) ∧ Off (fun a => S + 3 ≤ a ∧ a ≤ S + 20) M M' := by
  have hap := tSapart hS hO hne
  have h6 := hk.1.2
  intro n
  induction n with
  | zero => intro j M _ h; omega
  | succ n ih =>
    intro j M hj hn h1 hO2 hS2
    rw [f_Sheet_copyFormulas_b10, h1]
    by_cases c : j = fs.length
    · subst c
      rw [if_pos (nI_le (Nat.le_refl _) (by omega))]
      exact ⟨M, rfl, hS2, Off.rf⟩
    · have hj6 : j < fs.length := by omega
      rw [if_neg (nI_ge hj6 (by omega)), if_neg (by rw [show (6 : Int32) = nI 6 from rfl]; exact nI_ge (by omega) (by omega)), gd_of (inbT (by omega) (by omega)), gd_of (inbT (by omega) (by omega)), ixN (by omega)]
      obtain ⟨f1, f2⟩ := tSF hS (i := j) (by omega)
      obtain ⟨g1, g2⟩ := tSF hO (i := j) (by omega)
      obtain ⟨M1, e1, r1, r2⟩ := copy_ok f1 g1 (fun a ha q => by rcases ha with w | w | w <;> rcases q with q | q | q <;> omega) (by rw [f2]; exact (hk.2 j hj6).2.1) (hO2 j hj6)
      rw [e1, bd_s, bi_e, nI_s]
      obtain ⟨M2, e2, p1, p2⟩ := ih (j + 1) M1 (by omega) (by omega) (by rw [r2.1 S (fun q => by rcases q with q | q | q <;> omega)]; exact h1) (fun i hi => (hO2 i hi).off r2 (fun a ha q => by rcases ha with w | w | w <;> rcases q with q | q | q <;> omega))
        (fun i hi => by
          by_cases d : i = j
          · subst d; exact r1
          · exact (hS2 i (by omega)).off r2 (fun a ha q => by rcases ha with w | w | w <;> rcases q with q | q | q <;> omega))
      exact ⟨M2, e2, p1, (r2.mono (fun a q => by rcases q with q | q | q <;> omega)).tr p2⟩
theorem copyF_ok {S O : Nat} {fs : List Fm} {M : Mem} (hS : (sh S).1 = 4) (hO : (sh O).1 = 4) (hne : S ≠ O) (hk : OKS fs) (h1 : M.1 O 1 = nI fs.length) (h2 : ∀ i, i < fs.length → FA M (O + 3 + 3 * i) (gf fs i)) :
    ∃ M', f_Sheet_copyFormulas S O M = some ((), M') ∧ M'.1 S 1 = nI fs.length ∧ (∀ i, i < fs.length → FA M' (S + 3 + 3 * i) (gf fs i)) ∧ M'.1 S 3 = M.1 S 3 ∧ Off (fun a => a = S ∨ (S + 3 ≤ a ∧ a ≤ S + 20)) M M' := by
  have hap := tSapart hS hO hne
  have h6 := hk.1.2
  rw [f_Sheet_copyFormulas, bm_e, h1, ← nI_0]
  have ho : Off (fun a => a = S) M (mset M S 1 (nI fs.length)) := Off.set rfl
  obtain ⟨M1, e1, r1, r2⟩ := copyF_loop hS hO hne hk FU 0 (mset M S 1 (nI fs.length)) (by omega) (by rw [FU_e]; omega) (by simp [ms1]) (fun i hi => (h2 i hi).off ho (fun a ha => by rcases ha with w | w | w <;> omega)) (fun i hi => by omega)
  refine ⟨M1, e1, ?_, r1, ?_, (ho.mono (fun a q => Or.inl q)).tr (r2.mono (fun a q => Or.inr q))⟩
  · rw [r2.1 S (by omega)]; simp [ms1]
  · rw [r2.1 S (by omega)]; simp [ms1]
theorem copyS_ok {S O : Nat} {st : St} {M : Mem} (hS : (sh S).1 = 4) (hO : (sh O).1 = 4) (hne : S ≠ O) (hk : OKS st.1) (h : SA M O st) :
    ∃ M', f_Sheet_copyState S O M = some ((), M') ∧ SA M' S st ∧ Off (RS S) M M' := by
  have hap := tSapart hS hO hne
  have h6 := hk.1.2
  obtain ⟨h1, h2, h3, h4⟩ := h
  obtain ⟨M1, e1, a1, a2, a3, a4⟩ := copyF_ok hS hO hne hk h1 h2
  rw [f_Sheet_copyState, e1, bd_s, gd_of (by decide), bm_e, bm_e]
  have hn8 : (8 : Int32) = nI 8 := rfl
  rw [show ix 0 = 0 from rfl, show ix 8 = 8 from rfl]
  have o1 : Off (fun a => a = S + 2) M1 (mcpy M1 (O + 2) 0 (S + 2) 0 8) := Off.cpy rfl
  generalize hM2 : mcpy M1 (O + 2) 0 (S + 2) 0 8 = M2 at o1
  have o2 : Off (fun a => a = S) M2 (mset M2 S 3 (M2.1 O 3)) := Off.set rfl
  refine ⟨_, rfl, ⟨?_, fun i hi => ?_, fun c hc => ?_, ?_⟩, ?_⟩
  · simp only [ms1, if_true, show ¬ (1 : Nat) = 3 by omega, if_false]
    rw [o1.1 S (by omega)]; exact a1
  · refine ((a2 i hi).off o1 (fun a ha => ?_)).off o2 (fun a ha => ?_) <;> (rcases ha with w | w | w <;> omega)
  · simp only [ms1, show S + 2 ≠ S by omega, if_false]
    rw [← hM2, mc1, if_pos rfl, if_pos (by omega), a4.1 (O + 2) (by omega)]
    simp only [Nat.sub_zero, Nat.zero_add]
    exact h3 c hc
  · simp only [ms1, if_true]
    rw [o1.1 O (by omega), a4.1 O (by omega)]; exact h4
  · exact ((a4.mono (fun a q => by show _ ∧ _; omega)).tr (o1.mono (fun a q => by show _ ∧ _; omega))).tr (o2.mono (fun a q => by show _ ∧ _; omega))
