/-! the law: its start, its turns, its end -/
def N5 (M : Mem) : Mem := mnew (mnew (mnew (mnew (mnew M 2) 8) 8) 64) 64
theorem N5_ok {M : Mem} (h : M.2 5 = 208) : ((N5 M).2 5 = 213 ∧ (N5 M).2 6 = M.2 6 + 146) ∧ ((N5 M).1 209 = (fun _ => 0) ∧ (N5 M).1 211 = (fun _ => 0) ∧ (N5 M).1 212 = (fun _ => 0)) ∧ (LR (N5 M) 208 2 ∧ LR (N5 M) 209 8 ∧ LR (N5 M) 210 8 ∧ LR (N5 M) 211 64 ∧ LR (N5 M) 212 64) ∧ CK M (N5 M) := by
  have e1 : (mnew M 2).2 5 = 209 := by rw [mnew_5, h]
  have e2 : (mnew (mnew M 2) 8).2 5 = 210 := by rw [mnew_5, e1]
  have e3 : (mnew (mnew (mnew M 2) 8) 8).2 5 = 211 := by rw [mnew_5, e2]
  have e4 : (mnew (mnew (mnew (mnew M 2) 8) 8) 64).2 5 = 212 := by rw [mnew_5, e3]
  have e5 : (mnew (mnew (mnew (mnew (mnew M 2) 8) 8) 64) 64).2 5 = 213 := by rw [mnew_5, e4]
  have F4 : FrL (fun _ => False) (0 + 1) (0 + 64) (mnew (mnew (mnew (mnew M 2) 8) 8) 64) (mnew (mnew (mnew (mnew (mnew M 2) 8) 8) 64) 64) := FrL.rf.nw
  have F3 : FrL (fun _ => False) (0 + 1 + 1) (0 + 64 + 64) (mnew (mnew (mnew M 2) 8) 8) (mnew (mnew (mnew (mnew (mnew M 2) 8) 8) 64) 64) := FrL.rf.nw.nw
  have F2 : FrL (fun _ => False) (0 + 1 + 1 + 1) (0 + 8 + 64 + 64) (mnew (mnew M 2) 8) (mnew (mnew (mnew (mnew (mnew M 2) 8) 8) 64) 64) := FrL.rf.nw.nw.nw
  have F1 : FrL (fun _ => False) (0 + 1 + 1 + 1 + 1) (0 + 8 + 8 + 64 + 64) (mnew M 2) (mnew (mnew (mnew (mnew (mnew M 2) 8) 8) 64) 64) := FrL.rf.nw.nw.nw.nw
  have r0 : LR (mnew M 2) 208 2 := by have := LR.nw (M := M) (n := 2) (by omega); rw [h] at this; exact this
  have r1 : LR (mnew (mnew M 2) 8) 209 8 := by have := LR.nw (M := mnew M 2) (n := 8) (by omega); rw [e1] at this; exact this
  have r2 : LR (mnew (mnew (mnew M 2) 8) 8) 210 8 := by have := LR.nw (M := mnew (mnew M 2) 8) (n := 8) (by omega); rw [e2] at this; exact this
  have r3 : LR (mnew (mnew (mnew (mnew M 2) 8) 8) 64) 211 64 := by have := LR.nw (M := mnew (mnew (mnew M 2) 8) 8) (n := 64) (by omega); rw [e3] at this; exact this
  have r4 : LR (mnew (mnew (mnew (mnew (mnew M 2) 8) 8) 64) 64) 212 64 := by have := LR.nw (M := mnew (mnew (mnew (mnew M 2) 8) 8) 64) (n := 64) (by omega); rw [e4] at this; exact this
  have z1 : (mnew (mnew M 2) 8).1 209 = fun _ => 0 := by have := mnew_1 (M := mnew M 2) (n := 8); rw [e1] at this; exact this
  have z3 : (mnew (mnew (mnew (mnew M 2) 8) 8) 64).1 211 = fun _ => 0 := by have := mnew_1 (M := mnew (mnew (mnew M 2) 8) 8) (n := 64); rw [e3] at this; exact this
  have z4 : (mnew (mnew (mnew (mnew (mnew M 2) 8) 8) 64) 64).1 212 = fun _ => 0 := by have := mnew_1 (M := mnew (mnew (mnew (mnew M 2) 8) 8) 64) (n := 64); rw [e4] at this; exact this
  rw [N5]
  refine ⟨⟨e5, by rw [mnew_6, mnew_6, mnew_6, mnew_6, mnew_6]⟩, ⟨by rw [F2.row r1.lt id]; exact z1, by rw [F4.row r3.lt id]; exact z3, z4⟩, ⟨r0.fr F1, r1.fr F2, r2.fr F3, r3.fr F4, r4⟩, ((((CK.rf.nw (by omega)).nw (by omega)).nw (by omega)).nw (by omega)).nw (by omega)⟩
/-- the law's rows at its start -/
def N8 : Mem := mset (mset (mset (N5 M0) 208 0 1) 208 1 3) 210 0 1
theorem dg5 : DG 208 209 210 211 212 := ⟨by omega, by omega, by omega, by omega⟩
theorem okv00 : OKV s00.2.1 := by
  refine ⟨⟨⟨by decide, by decide⟩, fun i hi => ?_⟩, fun c _ => (show vb 0 from ⟨by decide +kernel, by decide +kernel⟩)⟩
  have h0 : i = 0 := by have : i < 1 := hi; omega
  subst h0
  refine ⟨rfl, by decide, fun k hk => ?_⟩
  have h0 : k = 0 := by have : k < 1 := hk; omega
  subst h0
  exact Or.inl ⟨rfl, by decide, by decide⟩
theorem start_law : LST N8 208 209 210 211 212 ∧ N8.2 5 = 213 ∧ N8.2 6 = 8297 := by
  obtain ⟨⟨a1, a2⟩, ⟨z1, z3, z4⟩, ⟨r0, r1, r2, r3, r4⟩, hck⟩ := N5_ok (M := M0) rfl
  refine ⟨⟨s00, ⟨⟨⟨⟨r0, r2, r3, r4⟩, ?_, ?_⟩, r1, ?_⟩, ?_⟩, repC00.ck oks00 (((hck.set (by omega)).set (by omega)).set (by omega)), oks00, okv00⟩, a1, a2⟩
  · rw [N8, ms_a (by omega), ms_k (by omega), ms_eq]
    rfl
  · intro f hf
    have h0 : f = 0 := by have : f < 1 := hf; omega
    subst h0
    refine ⟨by rw [N8, ms_eq]; rfl, fun k hk => ?_⟩
    have h0 : k = 0 := by have : k < 1 := hk; omega
    subst h0
    refine ⟨?_, ?_⟩
    · rw [N8, ms_a (by omega), ms_a (by omega), ms_a (by omega), z3]
      rfl
    · rw [N8, ms_a (by omega), ms_a (by omega), ms_a (by omega), z4]
      rfl
  · intro c _
    rw [N8, ms_a (by omega), ms_a (by omega), ms_a (by omega), z1]
    rfl
  · rw [N8, ms_a (by omega), ms_eq]
    rfl
section LL
variable {g x n a b L : Nat} {xs : Nat → Int32}
theorem isSo_lst {M : Mem} (h : LST M g x n a b) : ∃ M', f_L_isSo g x n a b M = some (1, M') ∧ LST M' g x n a b ∧ FrL (fun _ => False) 2300 23000 M M' := by
  obtain ⟨s, hL, hC, hO, hV⟩ := h
  obtain ⟨M', e1, e2, e3⟩ := isSo_law hV hO hC hL
  exact ⟨M', e1, ⟨s, hL.fr e3 id id id id id, e2, hO, hV⟩, e3⟩
theorem b210_ok {M : Mem} (h : LST M g x n a b) : f_L_law_b210 L xs 1 M = some (1, M) := by
  obtain ⟨s, hL, hC, hO, hV⟩ := h
  have a7 : a_count s 7 = -1000001 := by
    rw [a_count, if_neg (by decide), if_neg (by decide), if_neg (by decide), if_neg (by decide), if_neg (by decide), if_neg (by decide), if_neg (by decide)]
  have am : a_count s (-1) = -1000001 := by
    rw [a_count, if_neg (by decide), if_neg (by decide), if_neg (by decide), if_neg (by decide), if_neg (by decide), if_neg (by decide), if_neg (by decide)]
  have cm : a_cell s.2.1 (-1) = -1000001 := by rw [a_cell, if_neg (by decide)]
  rw [f_L_law_b210, if_neg (by decide), bk_ok (c_count hC hO _) OffC.rf, a7, if_pos rfl, bk_ok (c_count hC hO _) OffC.rf, am, if_pos rfl, bk_ok (c_cell hC _) OffC.rf, cm, if_pos rfl]
theorem b140_ok (hd : DG g x n a b) {T : Nat} (hT : T ≤ 30) : ∀ (fu k : Nat) (M : Mem), k ≤ T → T - k < fu → LST M g x n a b →
    ∃ M', f_L_law_b140 L xs fu g x n a b 1 (nI T) (nI k) M = some (1, M') ∧ M'.2 5 ≤ M.2 5 + 2500 * (T - k) ∧ M'.2 6 ≤ M.2 6 + 25000 * (T - k) := by
  intro fu
  induction fu with
  | zero => intro k M _ h; omega
  | succ fu ih =>
    intro k M hk hfu hS
    rw [f_L_law_b140]
    by_cases c : k = T
    · subst c
      rw [if_pos (nI_le (Nat.le_refl _) (by omega))]
      exact ⟨M, b210_ok hS, by omega, by omega⟩
    · have e3 : (3 : Int32) + nI k = nI (3 + k) := nI_add 3 k
      have gp : (!(decide (nI (3 + k) < 0))) = true := by
        rw [Bool.not_eq_true', decide_eq_false_iff_not]
        exact nI_pos (by omega)
      obtain ⟨M1, a1, a2, a3⟩ := acts_law hd hS ((scr L xs (nI (3 + k))) ^^^ (7919 * nI k))
      obtain ⟨M3, b1, b2, b3⟩ := isSo_lst a2
      obtain ⟨M4, d1, d2, d3⟩ := ih (k + 1) M3 (by omega) (by omega) b2
      have h1 := a3.2.2.1.2
      have h2 := a3.2.2.2
      have h3 := b3.2.2.1.2
      have h4 := b3.2.2.2
      refine ⟨M4, ?_, by omega, by omega⟩
      rw [if_neg (nI_ge (by omega) (by omega)), if_neg (by decide), e3, gd_of gp, a1, bd_s, if_neg (by decide), b1, bd_s, if_neg (by decide), bi_e, nI_s]
      exact d1
theorem b120_ok (hd : DG g x n a b) {M : Mem} (hS : LST M g x n a b) : ∃ M', f_L_law_b120 L xs g x n a b 1 M = some (1, M') ∧ M'.2 5 ≤ M.2 5 + 2500 * 30 ∧ M'.2 6 ≤ M.2 6 + 25000 * 30 := by
  obtain ⟨r, hr, er⟩ := low_ok (scr L xs 0) (n := 25) (by omega) (by omega) M
  have er' : f_L_low (scr L xs 0) 25 M = some (nI r, M) := er
  have e6 : (6 : Int32) + nI r = nI (6 + r) := nI_add 6 r
  obtain ⟨M', d1, d2, d3⟩ := b140_ok (L := L) (xs := xs) hd (T := 6 + r) (by omega) FU 0 M (Nat.zero_le _) (by rw [FU_e]; omega) hS
  refine ⟨M', ?_, by omega, by omega⟩
  rw [f_L_law_b120, gd_of (by decide), er', bd_s, bi_e, e6]
  exact d1
end LL
theorem law_ok : LawOK := by
  intro L xs
  obtain ⟨hS, z5, z6⟩ := start_law
  obtain ⟨-, -, ⟨r0, r1, r2, r3, r4⟩, -⟩ := N5_ok (M := M0) rfl
  obtain ⟨M9, a1, a2, a3⟩ := isSo_lst hS
  obtain ⟨p, hp, ep⟩ := low_ok (scr L xs 1) (n := 10000000) (by omega) (by omega) M9
  have ep' : f_L_low (scr L xs 1) 10000000 M9 = some (nI p, M9) := ep
  obtain ⟨M11, b1, b2, b3⟩ := reads_ok dg5 a2 (z := p) (by omega)
  obtain ⟨q, hq, eq⟩ := low_ok (scr L xs 2) (n := 10000000) (by omega) (by omega) M11
  have eq' : f_L_low (scr L xs 2) 10000000 M11 = some (nI q, M11) := eq
  obtain ⟨M13, c1, c2, c3⟩ := reads_ok dg5 b2 (z := q) (by omega)
  obtain ⟨M', d1, d2, d3⟩ := b120_ok (L := L) (xs := xs) dg5 c2
  have h1 := a3.2.2.1.2
  have h2 := a3.2.2.2
  have h3 := b3.2.2.1.2
  have h4 := b3.2.2.2
  have h5 := c3.2.2.1.2
  have h6 := c3.2.2.2
  refine ⟨M', ?_, by omega, by omega⟩
  have st : f_L_law L xs M0 = bd (f_L_isSo 208 209 210 211 212 N8) fun r9 M9 => (if r9 = 0 then f_L_law_b119 L xs 208 209 210 211 212 M9 else gd (!(decide ((1 : Int32) < 0))) (bd (f_L_low (scr L xs 1) 10000000 M9) fun r10 M10 => bd (f_L_reads 208 210 211 212 r10 M10) fun r11 M11 => (if r11 = 0 then f_L_law_b119 L xs 208 209 210 211 212 M11 else gd (!(decide ((2 : Int32) < 0))) (bd (f_L_low (scr L xs 2) 10000000 M11) fun r12 M12 => bd (f_L_reads 208 210 211 212 r12 M12) fun r13 M13 => (if r13 = 0 then f_L_law_b119 L xs 208 209 210 211 212 M13 else f_L_law_b120 L xs 208 209 210 211 212 1 M13))))) := by
    have g0 : lx (N5 M0) 208 0 = true := lx_0 r0 (by omega) (by omega)
    have g1 : lx (mset (N5 M0) 208 0 1) 208 1 = true := lx_1 r0.set (by omega) (by omega)
    have g2 : lx (mset (mset (N5 M0) 208 0 1) 208 1 3) 210 0 = true := lx_0 r2.set.set (by omega) (by omega)
    rw [f_L_law, bN_2, bN_8, bN_8, bN_64, bN_64]
    show gd (lx (N5 M0) 208 0) (bm (mset (N5 M0) 208 0 1) fun M6 => gd (lx M6 208 1) (bm (mset M6 208 1 3) fun M7 => gd (lx M7 210 0) (bm (mset M7 210 0 1) fun M8 => _))) = _
    rw [gd_of g0, bm_e, gd_of g1, bm_e, gd_of g2, bm_e]
    rfl
  rw [st, a1, bd_s, if_neg (by decide), gd_of (by decide), ep', bd_s, b1, bd_s, if_neg (by decide), gd_of (by decide), eq', bd_s, c1, bd_s, if_neg (by decide)]
  exact d1
