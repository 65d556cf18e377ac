/-! isFormula -/
section IFM
variable {s : S3} {g x n a b w f : Nat}
theorem if139 {M : Mem} {kd nb sz ne dp vl : Nat} (hC : RepC M s) (hO : OKs s) (hf : f < s.2.1.1.length) (hI : IFR M kd nb sz ne dp vl s.2.1 f) :
    ∃ M', f_L_isFormula_b139 (nI f) kd nb sz ne dp vl (nI (XX s.2.1 f).1.length) (bI (XX s.2.1 f).2.1) (a_formula s.2.1 (nI f) 3) M = some (1, M') ∧ RepC M' s ∧ FrL (fun _ => False) 0 0 M M' := by
  have hks := hO.2.2.1
  obtain ⟨w1, w2, w3, -⟩ := XX_ok hks hf
  obtain ⟨⟨r1, r2, r3, r4, r5, r6⟩, e1, e2⟩ := id hI
  obtain ⟨t1, t2, t3, t4⟩ := e2 0 (Nat.le_refl _) (wf_len w1)
  have h3 : a_formula s.2.1 (nI f) 3 = bI (XX s.2.1 f).2.1 := af3 hks hf
  rw [f_L_isFormula_b139, if_pos h3, bk_ok (c_formula hC hO _ _) OffC.rf, gd_of (lx_0 r6 (by omega) (by omega)), af4 hks hf, show M.1 vl (ix 0) = (XX s.2.1 f).2.2 from t4, if_pos rfl, bk_ok (c_formula hC hO _ _) OffC.rf, gd_of (lx_0 r5 (by omega) (by omega)), af5 hks hf, show M.1 dp (ix 0) = nI (tr (lvS s.2.1 f) (XX s.2.1 f).1 0).2.2.1 from t3, if_pos rfl, bk_ok (c_formula hC hO _ _) OffC.rf, af7 hks hf, if_pos rfl, f_L_isFormula_b188]
  exact if193 hC hO hf hI FU 0 (Nat.zero_le _) (by rw [FU_e]; omega)
theorem isFormula_law {M : Mem} (hk : OKV s.2.1) (hC : RepC M s) (hO : OKs s) (hf : f < s.2.1.1.length) (hL : LSX M g x n a b s.2.1) (hR : LR M w 8) (hW : WV M w s.2.1 s.2.1.1.length) :
    ∃ M', f_L_isFormula g x n a b w (nI f) M = some (1, M') ∧ RepC M' s ∧ FrL (fun _ => False) 190 1840 M M' := by
  have h4 := hk.1.1.2
  have hks := hO.2.2.1
  obtain ⟨⟨l1, l2, l3, l4, l5⟩, h5⟩ := hL.lt
  have lw := hR.lt
  have hF6 : FrL (fun _ => False) 6 384 M (mnw M 6) := mnw_fr 6
  have hL6 := hL.fr hF6 id id id id id
  obtain ⟨M7, e1, e2, e3, e4⟩ := expand_ok (kd := M.2 5) (nb := M.2 5 + 1) (M := mnw M 6) hk.1 hf ⟨by omega, ⟨by omega, by omega, by omega, by omega⟩, ⟨by omega, by omega, by omega, by omega⟩⟩ hL6.1 (mnw_lr h5 (i := 0) (by omega)) (mnw_lr h5 (i := 1) (by omega)) (by rw [mnw_5]; omega)
  have hL7 := hL6.fr e3 (fun h => by rcases h with h | h <;> omega) (fun h => by rcases h with h | h <;> omega) (fun h => by rcases h with h | h <;> omega) (fun h => by rcases h with h | h <;> omega) (fun h => by rcases h with h | h <;> omega)
  have hRw6 : LR (mnw M 6) w 8 := hR.fr hF6
  have hRw7 : LR M7 w 8 := hRw6.fr e3
  have hrow7 : M7.1 w = M.1 w := by rw [e3.row hRw6.lt (fun h => by rcases h with h | h <;> omega), hF6.row hR.lt id]
  have hW7 : WV M7 w s.2.1 f := fun c hc => by rw [hrow7]; exact hW c (by omega)
  have kr : ∀ i, i < 6 → LR M7 (M.2 5 + i) 64 := fun i hi => (mnw_lr h5 (k := 6) hi).fr e3
  obtain ⟨w1, w2, w3, w4⟩ := XX_ok hks hf
  obtain ⟨v1, v2⟩ := lvS_vb hk f hf
  obtain ⟨M8, t1, t2, t3, t4⟩ := tell_ok (sz := M.2 5 + 2) (ne := M.2 5 + 3) (dp := M.2 5 + 4) (vl := M.2 5 + 5) w1 w2 (by omega) w3 v1 ⟨⟨by omega, by omega, by omega⟩, ⟨by omega, by omega⟩, by omega⟩ (fun c h => by rcases h with h | h | h | h <;> exact ⟨by omega, by omega, by omega, by omega⟩) (tin_of hL7 hRw7 hW7 (kr 0 (by omega)) (kr 1 (by omega)) e2) ⟨kr 2 (by omega), kr 3 (by omega), kr 4 (by omega), kr 5 (by omega)⟩
  have hF7 : FrL (fun _ => False) (6 + 60 * f) (384 + 480 * f) M M7 := hF6.tr e3 (fun a h => Or.inr (by rcases h with h | h <;> omega))
  have hF8 : FrL (fun _ => False) (6 + 60 * f + 0) (384 + 480 * f + 0) M M8 := hF7.tr t3 (fun a h => Or.inr (by rcases h with h | h | h | h <;> omega))
  have hCK8 : CK M M8 := ((mnw_ck h5 6).tr e4).tr t4
  have hC8 := hC.ck hO hCK8
  have hL8 := hL.fr hF8 id id id id id
  have kr8 : ∀ i, i < 6 → LR M8 (M.2 5 + i) 64 := fun i hi => (kr i hi).fr t3
  have hI8 : IFR M8 (M.2 5) (M.2 5 + 1) (M.2 5 + 2) (M.2 5 + 3) (M.2 5 + 4) (M.2 5 + 5) s.2.1 f := ⟨⟨kr8 0 (by omega), kr8 1 (by omega), kr8 2 (by omega), kr8 3 (by omega), kr8 4 (by omega), kr8 5 (by omega)⟩, fun p hp => by
    rw [t3.row (show LR M7 (M.2 5) 64 from kr 0 (by omega)).lt (fun h => by rcases h with h | h | h | h <;> omega), t3.row (kr 1 (by omega)).lt (fun h => by rcases h with h | h | h | h <;> omega)]
    exact e2 p hp, t2⟩
  obtain ⟨M13, c1, c2, c3⟩ := isCheap_ok (d := f) (M := M8) hk.1 hf hL8.1 (Nat.le_trans h5 hF8.2.2.1.1)
  have hC13 := hC8.ck hO c3
  have hI13 : IFR M13 (M.2 5) (M.2 5 + 1) (M.2 5 + 2) (M.2 5 + 3) (M.2 5 + 4) (M.2 5 + 5) s.2.1 f := by
    obtain ⟨⟨r1, r2, r3, r4, r5, r6⟩, i1, i2⟩ := hI8
    exact ⟨⟨r1.fr c2, r2.fr c2, r3.fr c2, r4.fr c2, r5.fr c2, r6.fr c2⟩, fun p hp => by rw [c2.row r1.lt id, c2.row r2.lt id]; exact i1 p hp, fun p h1 h2 => by rw [c2.row r3.lt id, c2.row r4.lt id, c2.row r5.lt id, c2.row r6.lt id]; exact i2 p h1 h2⟩
  obtain ⟨M', j1, j2, j3⟩ := if139 hC13 hO hf hI13
  have hF13 : FrL (fun _ => False) (6 + 60 * f + 0 + 1) (384 + 480 * f + 0 + 8) M M13 := hF8.tr c2 (fun a h => Or.inl h)
  refine ⟨M', ?_, j2, (hF13.tr j3 (fun a h => Or.inl h)).mono (fun a h => Or.inl h) (by omega) (by omega)⟩
  rw [f_L_isFormula, bN_64, bN_64, bN_64, bN_64, bN_64, bN_64]
  have e1' : f_L_expand g n a b (nI f) (M.2 5) ((mnew M 64).2 5) (mnew (mnew (mnew (mnew (mnew (mnew M 64) 64) 64) 64) 64) 64) = some (nI (XX s.2.1 f).1.length, M7) := e1
  have t1' : f_L_tell x w (M.2 5) ((mnew M 64).2 5) (nI (XX s.2.1 f).1.length) ((mnew (mnew M 64) 64).2 5) ((mnew (mnew (mnew M 64) 64) 64).2 5) ((mnew (mnew (mnew (mnew M 64) 64) 64) 64).2 5) ((mnew (mnew (mnew (mnew (mnew M 64) 64) 64) 64) 64).2 5) M7 = some ((), M8) := t1
  have hn : M8.1 n (ix (nI f)) = nI (gf s.2.1.1 f).length := by rw [ixN (by omega)]; exact (hL8.1.2.2 f hf).1
  have g3 : lx M8 ((mnew (mnew (mnew M 64) 64) 64).2 5) 0 = true := lx_0 (kr8 3 (by omega)) (by omega) (by omega)
  have hneed : M8.1 ((mnew (mnew (mnew M 64) 64) 64).2 5) (ix 0) = nI (need0 s.2.1 f) := (t2 0 (Nat.le_refl _) (wf_len w1)).2.1
  have j1' : f_L_isFormula_b139 (nI f) (M.2 5) ((mnew M 64).2 5) ((mnew (mnew M 64) 64).2 5) ((mnew (mnew (mnew M 64) 64) 64).2 5) ((mnew (mnew (mnew (mnew M 64) 64) 64) 64).2 5) ((mnew (mnew (mnew (mnew (mnew M 64) 64) 64) 64) 64).2 5) (nI (XX s.2.1 f).1.length) (bI (XX s.2.1 f).2.1) (a_formula s.2.1 (nI f) 3) M13 = some (1, M') := j1
  rw [e1', bd_s, t1', bd_s, bk_ok (c_formula hC8 hO _ _) OffC.rf, gd_of (lx_ok hL8.1.1.2.1 (by omega) (by omega)), hn, af0 hks hf, if_pos rfl, bk_ok (c_formula hC8 hO _ _) OffC.rf, af1 hks hf, if_pos rfl, bk_ok (c_formula hC8 hO _ _) OffC.rf, gd_of g3, hneed, af2 hks hf, if_pos rfl, bk_ok (c_formula hC8 hO _ _) OffC.rf, c1, bd_s, lch_ok hks hf]
  cases hc : (XX s.2.1 f).2.1 with
  | false =>
    rw [hc] at j1'
    rw [bI_f, if_pos rfl]
    exact j1'
  | true =>
    rw [hc] at j1'
    rw [bI_t, if_neg (by decide)]
    exact j1'
end IFM
