/-! read, on the reference's side -/
theorem reads12 : ∀ (n k : Nat) (M : Mem), k ≤ 376 → 376 - k < n → ∃ M', f_Md_reads_b12 n (nI k) M = f_Md_reads_b47 FU M' ∧ (∀ j, M'.1 212 j = if k ≤ j ∧ j < 376 then (if j < 10 then M.1 209 j else 0) else M.1 212 j) ∧ Off (fun a => a = 212) M M' := by
  intro n
  induction n with
  | zero => intro k M _ h; omega
  | succ n ih =>
    intro k M hk hn
    rw [f_Md_reads_b12]
    by_cases c : k = 376
    · subst c
      rw [if_pos (by decide)]
      exact ⟨M, rfl, fun j => by rw [if_neg (by omega)], Off.rf⟩
    · have g : inb (nI k) 376 = true := inbT (by omega) (by omega)
      have fin : ∀ v : Int32, v = (if k < 10 then M.1 209 k else 0) → ∃ M', f_Md_reads_b12 n (nI (k + 1)) (mset M 212 k v) = f_Md_reads_b47 FU M' ∧ (∀ j, M'.1 212 j = if k ≤ j ∧ j < 376 then (if j < 10 then M.1 209 j else 0) else M.1 212 j) ∧ Off (fun a => a = 212) M M' := by
        intro v hv
        obtain ⟨M1, e1, e2, e3⟩ := ih (k + 1) (mset M 212 k v) (by omega) (by omega)
        refine ⟨M1, e1, fun j => ?_, (Off.set (S := fun a => a = 212) rfl).tr e3⟩
        rw [e2 j, mset_ne (show (209 : Nat) ≠ 212 by omega)]
        by_cases d : k + 1 ≤ j ∧ j < 376
        · rw [if_pos d, if_pos (show k ≤ j ∧ j < 376 by omega)]
        · rw [if_neg d, ms1, if_pos rfl]
          by_cases d2 : j = k
          · rw [if_pos d2, if_pos (show k ≤ j ∧ j < 376 by omega), hv, d2]
          · rw [if_neg d2, if_neg (show ¬ (k ≤ j ∧ j < 376) by omega)]
      rw [if_neg (show ¬ (376 : Int32) ≤ nI k by rw [l376]; exact nI_ge (by omega) (by omega))]
      by_cases d : k < 10
      · rw [if_pos (show nI k < 10 by rw [show (10 : Int32) = nI 10 from rfl]; exact nI_lt d (by omega)), gd_of g, gd_of g, bm_e, bi_e, nI_s, ixN (by omega)]
        exact fin _ (by rw [if_pos d])
      · rw [if_neg (show ¬ nI k < 10 by rw [show (10 : Int32) = nI 10 from rfl]; exact nI_nlt (by omega) (by omega)), gd_of g, bm_e, bi_e, nI_s, ixN (by omega)]
        exact fin _ (by rw [if_neg d])
