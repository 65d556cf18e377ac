/-! read, on the reference's side -/
theorem reads12 : ∀ (n k : Nat) (M : Mem), k ≤ 376 → 376 - k < n → ∃ M', f_Md_reads_b12 n (nI k) M = f_Md_reads_b47 FU M' ∧ (∀ j, M'.1 212 j = if k ≤ j ∧ j < 376 then (if j < 10 then M.1 209 j else 0) else M.1 212 j) ∧ Off (fun a => a = 212) M M' := by
  intro n
  induction n with
  | zero => intro k M _ h; omega
  | succ n ih =>
    intro k M hk hn
    rw [f_Md_reads_b12]
    by_cases c : k = 376
    · subst c
      rw [if_pos (by decide)]
      exact ⟨M, rfl, fun j => by rw [if_neg (by omega)], Off.rf⟩
    · have g : inb (nI k) 376 = true := inbT (by omega) (by omega)
      have fin : ∀ v : Int32, v = (if k < 10 then M.1 209 k else 0) → ∃ M', f_Md_reads_b12 n (nI (k + 1)) (mset M 212 k v) = f_Md_reads_b47 FU M' ∧ (∀ j, M'.1 212 j = if k ≤ j ∧ j < 376 then (if j < 10 then M.1 209 j else 0) else M.1 212 j) ∧ Off (fun a => a = 212) M M' := by
        intro v hv
        obtain ⟨M1, e1, e2, e3⟩ := ih (k + 1) (mset M 212 k v) (by omega) (by omega)
        refine ⟨M1, e1, fun j => ?_, (Off.set (S := fun a => a = 212) rfl).tr e3⟩
        rw [e2 j, mset_ne (show (209 : Nat) ≠ 212 by omega)]
        by_cases d : k + 1 ≤ j ∧ j < 376
        · rw [if_pos d, if_pos (show k ≤ j ∧ j < 376 by omega)]
        · rw [if_neg d, ms1, if_pos rfl]
          by_cases d2 : j = k
          · rw [if_pos d2, if_pos (show k ≤ j ∧ j < 376 by omega), hv, d2]
          · rw [if_neg d2, if_neg (show ¬ (k ≤ j ∧ j < 376) by omega)]
      rw [if_neg (show ¬ (376 : Int32) ≤ nI k by rw [l376]; exact nI_ge (by omega) (by omega))]
      by_cases d : k < 10
      · rw [if_pos (show nI k < 10 by rw [show (10 : Int32) = nI 10 from rfl]; exact nI_lt d (by omega)), gd_of g, gd_of g, bm_e, bi_e, nI_s, ixN (by omega)]
        exact fin _ (by rw [if_pos d])
      · rw [if_neg (show ¬ nI k < 10 by rw [show (10 : Int32) = nI 10 from rfl]; exact nI_nlt (by omega) (by omega)), gd_of g, bm_e, bi_e, nI_s, ixN (by omega)]
        exact fin _ (by rw [if_neg d])
theorem read22 : ∀ (n k : Nat) (M : Mem), k ≤ 376 → 376 - k < n → ∃ M', f_Md_read_b22 n (nI k) M = some (M'.1 209 0, M') ∧ (∀ j, M'.1 209 j = if k ≤ j ∧ j < 376 then M.1 212 j else M.1 209 j) ∧ Off (fun a => a = 209) M M' := by
  intro n
  induction n with
  | zero => intro k M _ h; omega
  | succ n ih =>
    intro k M hk hn
    rw [f_Md_read_b22]
    by_cases c : k = 376
    · subst c
      rw [if_pos (by decide), gd_of (by decide), show ix 0 = 0 from rfl]
      exact ⟨M, rfl, fun j => by rw [if_neg (by omega)], Off.rf⟩
    · have g : inb (nI k) 376 = true := inbT (by omega) (by omega)
      rw [if_neg (show ¬ (376 : Int32) ≤ nI k by rw [l376]; exact nI_ge (by omega) (by omega)), gd_of g, gd_of g, bm_e, bi_e, nI_s, ixN (by omega)]
      obtain ⟨M1, e1, e2, e3⟩ := ih (k + 1) (mset M 209 k (M.1 212 k)) (by omega) (by omega)
      refine ⟨M1, e1, fun j => ?_, (Off.set (S := fun a => a = 209) rfl).tr e3⟩
      rw [e2 j, mset_ne (show (212 : Nat) ≠ 209 by omega)]
      by_cases d : k + 1 ≤ j ∧ j < 376
      · rw [if_pos d, if_pos (show k ≤ j ∧ j < 376 by omega)]
      · rw [if_neg d, ms1, if_pos rfl]
        by_cases d2 : j = k
        · rw [if_pos d2, if_pos (show k ≤ j ∧ j < 376 by omega), d2]
        · rw [if_neg d2, if_neg (show ¬ (k ≤ j ∧ j < 376) by omega)]
theorem r_read {M : Mem} {s : S3} (h : RepR M s) (hk : OKs s) : ∃ M', f_Md_read M = some ((sp_read s).1, M') ∧ RepR M' (sp_read s).2 ∧ OffR M M' := by
  have hx := hk.1
  obtain ⟨ht, hS, hH⟩ := id h
  obtain ⟨p1, p2⟩ := sh_ok (tx := s.1) 5 0 [] rfl (Nat.zero_le _) (fun i hi => absurd hi (Nat.not_lt_zero _))
  have q0 : QW M (mset (mset M 208 6 0) 208 7 0) := (QW.s (by omega)).tr (QW.s (by omega))
  have w209 : (mset (mset M 208 6 0) 208 7 0).1 209 = M.1 209 := by rw [mset_ne (by omega), mset_ne (by omega)]
  have w6 : (mset (mset M 208 6 0) 208 7 0).1 208 6 = nI 0 := by simp [ms1, nI_0]
  have w7 : (mset (mset M 208 6 0) 208 7 0).1 208 7 = nI 0 := by simp [ms1, nI_0]
  obtain ⟨M1, e1, e2, e3⟩ := reads12 FU 0 (mset (mset M 208 6 0) 208 7 0) (by omega) (by rw [FU_e]; omega)
  have q1 : QW (mset (mset M 208 6 0) 208 7 0) M1 := ⟨e3.mono (fun a q => by omega), fun k hk2 => by rw [e3.1 208 (by omega)]⟩
  have q01 := q0.tr q1
  have ht1 : TX M1 s.1 := TX.w (show TX M s.1 from ht) q01
  obtain ⟨M2, a, b, c, d⟩ := rsh hx (fun z hz => (hk.2.1 z hz).1) 5 FU 0 [] M1 rfl (by rw [FU_e]; omega) (Nat.zero_le _) ht1 (by rw [e3.1 208 (by omega)]; exact w6) (by rw [e3.1 208 (by omega)]; exact w7) (fun j hj => absurd hj (Nat.not_lt_zero _)) (fun j hj => absurd hj (Nat.not_lt_zero _))
  have qq := q01.tr c
  have hR2 : RepR M2 s := h.keep (qq.2 2 (by omega)) (qq.2 4 (by omega)) (qq.1.1 209 (by omega)) (qq.1.1 210 (by omega)) (qq.1.1 211 (by omega))
  have hF2 : OffR M M2 := OffR.of qq.1 (fun a ha q => by omega)
  rw [f_Md_read, f_Md_reads, bm_e, bm_e]
  rw [show f_Md_reads_b12 FU 0 (mset (mset M 208 6 0) 208 7 0) = _ from e1, a, bd_s, sp_read]
  by_cases z : (pSh s.1 5 0 []).1 = true
  · rw [if_pos z, if_pos z, if_neg (show ¬ (1 : Int32) = 0 by decide)]
    obtain ⟨d1, d2, d3⟩ := d z
    have hfs := p2 z
    have h6 := hfs.1.2
    obtain ⟨M3, u1, u2, u3, u4⟩ := acts_ok hR2 hk
    obtain ⟨M4, v1, v2, v3⟩ := read22 FU 0 M3 (by omega) (by rw [FU_e]; omega)
    have s212 : M3.1 212 = M2.1 212 := u4.1 212 (by omega)
    have row : ∀ j, j < 376 → M4.1 209 j = M2.1 212 j := fun j hj => by rw [v2, if_pos ⟨Nat.zero_le _, hj⟩, s212]
    have row10 : ∀ j, 1 ≤ j → j < 10 → M4.1 209 j = M.1 209 j := fun j j1 j2 => by
      rw [row j (by omega), d3 j j1 j2, e2, if_pos (by omega), if_pos j2, w209]
    rw [u1, bd_s, show f_Md_read_b22 FU 0 M3 = _ from v1, row 0 (by omega), d1]
    refine ⟨M4, rfl, ⟨⟨by rw [v3.1 208 (by omega), u3, upd_ne (by omega), qq.2 4 (by omega)]; exact ht.1, fun i hi => by rw [v3.1 211 (by omega), u4.1 211 (by omega), qq.1.1 211 (by omega)]; exact ht.2 i hi⟩, ⟨by rw [row 0 (by omega)]; exact d1, by rw [row10 (0 + 1) (by omega) (by omega)]; exact hS.2.1, fun cc hcc => by rw [row10 _ (by omega) (by omega)]; exact hS.2.2.1 cc hcc, fun i hi => ?_⟩, by rw [v3.1 208 (by omega)]; exact u2.1, u2.2.1, fun j hj => by rw [v3.1 210 (by omega)]; exact u2.2.2 j hj⟩, (hF2.tr (OffR.of u4 (fun a ha q => by omega))).tr (OffR.of v3 (fun a ha q => by omega))⟩
    have hi' : i < (pSh s.1 5 0 []).2.2.length := hi
    obtain ⟨f1, f2⟩ := d2 i hi'
    have hl30 := (hfs.2 i hi').2.1
    rw [Nat.zero_add]
    refine ⟨by rw [row _ (by omega)]; exact f1, fun k hk2 => ?_⟩
    have hk3 : k < (gf (pSh s.1 5 0 []).2.2 i).length := hk2
    rw [Nat.zero_add, Nat.zero_add, row _ (by omega), row _ (by omega)]
    exact f2 k hk3
  · rw [if_neg z, if_neg z, if_pos rfl, b]
    exact ⟨M2, rfl, hR2, hF2⟩
