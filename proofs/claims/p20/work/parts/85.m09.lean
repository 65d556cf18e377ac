/-! no order needs fewer places than the need, and one does with it -/
theorem WW_nd {lv : Nd → Int32} {l : Fm} (hw : wf l) : ∀ (n k p : Nat), l.length - k < n → k < l.length → 1 ≤ (tr lv l k).2.1 ∧ (WW lv l p k = 0 ↔ p < (tr lv l k).2.1) ∧ (tr lv l k).2.1 ≤ pc lv l k + 1 := by
  intro n
  induction n with
  | zero => intro k p h; omega
  | succ n ih =>
    intro k p hn hk
    rcases ar_cases (nd l k).1 with c | c | c
    · have ht := tr_a0 (lv := lv) hk c
      rw [ht, pc_a0 hk c]
      show 1 ≤ 1 ∧ (_ ↔ p < 1) ∧ 1 ≤ 0 + 1
      refine ⟨by omega, ?_, by omega⟩
      cases p with
      | zero => rw [WW_0]; exact ⟨fun _ => by omega, fun _ => rfl⟩
      | succ p => rw [WW_a0 hk c]; exact ⟨fun h => by omega, fun h => by omega⟩
    · have h1 := wf_1 hw hk c
      have ht := tr_a1 (lv := lv) hk c
      rw [ht, pc_a1 hk c, WW_a1 hw hk c]
      exact ih (k + 1) p (by omega) h1
    · obtain ⟨h1, h2⟩ := wf_2 (lv := lv) hw hk c
      have hsz := wf_size (lv := lv) hw h1
      have ht := tr_a2 (lv := lv) hk c
      obtain ⟨a1, -, a3⟩ := ih (k + 1) 0 (by omega) h1
      obtain ⟨b1, -, b3⟩ := ih (k + 1 + (tr lv l (k + 1)).1) 0 (by omega) h2
      have hA : ∀ q, (WW lv l q (k + 1) = 0 ↔ q < (tr lv l (k + 1)).2.1) := fun q => (ih (k + 1) q (by omega) h1).2.1
      have hB : ∀ q, (WW lv l q (k + 1 + (tr lv l (k + 1)).1) = 0 ↔ q < (tr lv l (k + 1 + (tr lv l (k + 1)).1)).2.1) := fun q => (ih (k + 1 + (tr lv l (k + 1)).1) q (by omega) h2).2.1
      rw [ht, pc_a2 hk c]
      show 1 ≤ npair (tr lv l (k + 1)).2.1 (tr lv l (k + 1 + (tr lv l (k + 1)).1)).2.1 ∧ _ ∧ npair (tr lv l (k + 1)).2.1 (tr lv l (k + 1 + (tr lv l (k + 1)).1)).2.1 ≤ _
      have hnp : npair (tr lv l (k + 1)).2.1 (tr lv l (k + 1 + (tr lv l (k + 1)).1)).2.1 = if (tr lv l (k + 1)).2.1 = (tr lv l (k + 1 + (tr lv l (k + 1)).1)).2.1 then (tr lv l (k + 1)).2.1 + 1 else max (tr lv l (k + 1)).2.1 (tr lv l (k + 1 + (tr lv l (k + 1)).1)).2.1 := rfl
      refine ⟨?_, ?_, ?_⟩
      · rw [hnp]; split <;> omega
      · cases p with
        | zero =>
          rw [WW_0]
          exact ⟨fun _ => by show 0 < npair _ _; rw [hnp]; split <;> omega, fun _ => rfl⟩
        | succ p =>
          rw [WW_a2 hw hk c, Nat.add_eq_zero_iff, Nat.mul_eq_zero, Nat.mul_eq_zero, hA, hA, hB, hB]
          show _ ↔ p + 1 < npair _ _
          rw [hnp]
          generalize (tr lv l (k + 1)).2.1 = u
          generalize (tr lv l (k + 1 + (tr lv l (k + 1)).1)).2.1 = v
          by_cases e : u = v
          · rw [if_pos e]; omega
          · rw [if_neg e]; omega
      · rw [hnp]; split <;> omega
theorem fwN_nd {lv : Nd → Int32} {l : Fm} (hw : wf l) (h11 : (tr lv l 0).2.1 ≤ 11) : ∀ (n p : Nat), p ≤ (tr lv l 0).2.1 → (tr lv l 0).2.1 - p ≤ n → fwN lv l n p = (tr lv l 0).2.1
  | 0, p, h1, h2 => by rw [fwN]; omega
  | n + 1, p, h1, h2 => by
    have h0 := (WW_nd (lv := lv) hw (l.length + 1) 0 p (by omega) (wf_len hw)).2.1
    rw [fwN]
    by_cases c : 10 < p
    · rw [if_pos c]; omega
    · rw [if_neg c]
      by_cases d : WW lv l p 0 = 0
      · rw [if_pos d]
        have := h0.mp d
        exact fwN_nd hw h11 n (p + 1) (by omega) (by omega)
      · rw [if_neg d]
        have : ¬ p < (tr lv l 0).2.1 := fun q => d (h0.mpr q)
        omega
theorem proved_nd {st : St} (hk : OKS st.1) {i : Nat} (hi : i < st.1.length) (hp : pairsS st i ≤ 10) : fwS st i = need0 st i := by
  obtain ⟨w1, w2, -⟩ := XX_ok hk hi
  have h := (WW_nd (lv := lvS st i) w1 ((XX st i).1.length + 1) 0 0 (by omega) (wf_len w1)).2.2
  rw [pc_0 w1] at h
  have hp' : (XX st i).1.countP (fun q => ar q.1 == 2) ≤ 10 := hp
  exact fwN_nd w1 (by omega) 11 0 (Nat.zero_le _) (by omega)
