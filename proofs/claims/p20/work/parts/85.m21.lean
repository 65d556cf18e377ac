/-! reads, setCell, setPlaces -/
abbrev S5 (g x n a b : Nat) : Nat → Prop := fun c => c = g ∨ c = x ∨ c = n ∨ c = a ∨ c = b
/-- the law's rows lie one behind the other -/
def DG (g x n a b : Nat) : Prop := g < x ∧ x < n ∧ n < a ∧ a < b
def LST (M : Mem) (g x n a b : Nat) : Prop := ∃ s : S3, LAW M g x n a b s ∧ RepC M s ∧ OKs s ∧ OKV s.2.1
section AC
variable {g x n a b : Nat} {M : Mem}
theorem reads_ok (hd : DG g x n a b) (h : LST M g x n a b) {z : Nat} (hz : z < 2 ^ 31) : ∃ M', f_L_reads g n a b (nI z) M = some (1, M') ∧ LST M' g x n a b ∧ FrL (S5 g x n a b) 10 400 M M' := by
  obtain ⟨s, hL, hC, hO, hV⟩ := h
  obtain ⟨d1, d2, d3, d4⟩ := hd
  obtain ⟨⟨l1, l2, l3, l4, l5⟩, h5⟩ := hL.1.lt
  have hm4 : nI z - nI z / 4 * 4 = nI (z % 4) := pk_rem (d := 4) hz (by omega) (by omega)
  have e5a : (mnew M 16).2 5 = M.2 5 + 1 := mnew_5
  have e5b : (mnew (mnew M 16) 16).2 5 = M.2 5 + 2 := mnew_5
  have hF1 : FrL (fun _ => False) (0 + 1) (0 + 16) M (mnew M 16) := FrL.rf.nw
  have hF2 : FrL (fun _ => False) (0 + 1 + 1) (0 + 16 + 16) M (mnew (mnew M 16) 16) := hF1.nw
  have hF3 : FrL (fun _ => False) (0 + 1 + 1 + 1) (0 + 16 + 16 + 1) M (mnew (mnew (mnew M 16) 16) 1) := hF2.nw
  have hCK3 : CK M (mnew (mnew (mnew M 16) 16) 1) := ((CK.rf.nw h5).nw (by omega)).nw (by omega)
  have r1 : LR (mnew M 16) (M.2 5) 16 := LR.nw h5
  have r2 : LR (mnew (mnew M 16) 16) (M.2 5 + 1) 16 := by have := LR.nw (M := mnew M 16) (n := 16) (by omega); rw [e5a] at this; exact this
  have r3 : LR (mnew (mnew (mnew M 16) 16) 1) (M.2 5 + 2) 1 := by have := LR.nw (M := mnew (mnew M 16) 16) (n := 1) (by omega); rw [e5b] at this; exact this
  have fz2 : FrL (fun _ => False) (0 + 1) (0 + 1) (mnew (mnew M 16) 16) (mnew (mnew (mnew M 16) 16) 1) := FrL.rf.nw
  have fz1 : FrL (fun _ => False) (0 + 1 + 1) (0 + 16 + 1) (mnew M 16) (mnew (mnew (mnew M 16) 16) 1) := (FrL.rf.nw (n := 16)).nw
  have hC3 := hC.ck hO hCK3
  obtain ⟨M5, c1, c2, c3⟩ := c_clear hC3 hO
  have hO5 := oks_clear hO
  have hF5 : FrL (fun _ => False) (0 + 1 + 1 + 1 + 0) (0 + 16 + 16 + 1 + 0) M M5 := hF3.tr (c3.fr (S := fun _ => False)) (fun a h => Or.inl h)
  have hL5 := hL.fr hF5 id id id id id
  have cz : FrL (fun _ => False) 0 0 (mnew (mnew (mnew M 16) 16) 1) M5 := c3.fr
  have hap : M5.1 (M.2 5 + 2) 0 = nI 0 := by
    rw [cz.row r3.lt id, ← e5b]
    exact congrFun mnew_1 0
  obtain ⟨⟨⟨q1, q2, q3, q4⟩, -⟩, q5, -⟩ := hL5.1
  obtain ⟨M6, fs', tx, j1, ⟨j2, j2'⟩, ⟨j3, j3', j3''⟩, j4, j5, j6⟩ := rd_loop (g := g) (n := n) (a := a) (b := b) (hr := M.2 5) (og := M.2 5 + 1) (ap := M.2 5 + 2) (many := z % 4) (q := s.2) (z := z) hz (by omega) ⟨by omega, d3, d4, l4⟩ ⟨rfl, rfl⟩ FU M5 [] [] (Nat.zero_le _) (by rw [FU_e]; show z % 4 + 1 - 0 < 4096; omega) ⟨⟨c2, hO5, hap⟩, ⟨⟨r3.fr cz, (r1.fr fz1).fr cz, (r2.fr fz2).fr cz⟩, q2, q3, q4, q1⟩, ⟨PD.nil, Nat.le_refl _⟩, fun f hf => absurd hf (Nat.not_lt_zero _), fun i hi => absurd hi (Nat.not_lt_zero _)⟩
  have hx6 : M6.1 x = M5.1 x := j6.row q5.lt (fun h => by rcases h with h | h | h | h | h | h | h <;> omega)
  refine ⟨M6, ?_, ⟨(tx, (fs', s.2.1.2), recH s.2.2 s.2.1), ⟨⟨⟨⟨q1.fr j6, q2.fr j6, q3.fr j6, q4.fr j6⟩, by rw [j4, j3''], j3'⟩, q5.fr j6, fun c hc => by rw [hx6]; exact hL5.1.2.2 c hc⟩, by rw [j5]; exact hL5.2⟩, j2, j2', j3, hV.2⟩, ?_⟩
  · rw [f_L_reads, bN_16, bN_16, bN_1, bi_e, hm4, bk_ok c1 c3]
    exact j1
  · refine (hF5.mono (S' := S5 g x n a b) (fun c h => absurd h id) (Nat.le_refl _) (Nat.le_refl _)).tr j6 (fun c h => ?_) |>.mono (fun c h => Or.inl h) (by show _ + (z % 4 + 1 - 0) ≤ 10; omega) (by show _ + 64 * (z % 4 + 1 - 0) ≤ 400; omega)
    rcases h with h | h | h | h | h | h | h
    · exact Or.inl (Or.inl h)
    · exact Or.inl (Or.inr (Or.inr (Or.inl h)))
    · exact Or.inl (Or.inr (Or.inr (Or.inr (Or.inl h))))
    · exact Or.inl (Or.inr (Or.inr (Or.inr (Or.inr h))))
    · exact Or.inr (by omega)
    · exact Or.inr (by omega)
    · exact Or.inr (by omega)
theorem v999 {m : Nat} (h : m < 1999) : (nI m - 999).toInt = (m : Int) - 999 := by
  rw [Int32.toInt_sub, nI_toInt (by omega), show (999 : Int32).toInt = 999 by decide +kernel, Int.bmod_def]
  split <;> omega
theorem setCell_law (hd : DG g x n a b) (h : LST M g x n a b) {c m : Nat} (hc : c < 8) (hm : m < 1999) : ∃ v M', f_LP_setCell (nI c) (nI m - 999) (mset M x c (nI m - 999)) = some (v, M') ∧ v = M.1 x c ∧ OffC (mset M x c (nI m - 999)) M' ∧ LST M' g x n a b ∧ FrL (S5 g x n a b) 0 0 M M' := by
  obtain ⟨s, hL, hC, hO, hV⟩ := h
  obtain ⟨d1, d2, d3, d4⟩ := hd
  have hvi := v999 hm
  have hF1 : FrL (S5 g x n a b) 0 0 M (mset M x c (nI m - 999)) := FrL.rf.set (Or.inl (Or.inr (Or.inl rfl)))
  have hC1 := hC.ck hO (CK.rf.set hL.1.2.1.1 (M1 := M) (k := c) (v := nI m - 999))
  obtain ⟨M2, e1, e2, e3⟩ := c_setCell hC1 hO (nI c) (nI m - 999)
  have hO2 := oks_setCell hO (nI c) (nI m - 999)
  have h1 : ¬ (nI m - 999) < -999 := by
    rw [Int32.lt_iff_toInt_lt, hvi, show (-999 : Int32).toInt = -999 by decide +kernel]
    omega
  have h2 : (nI m - 999) ≤ 999 := by
    rw [Int32.le_iff_toInt_le, hvi, show (999 : Int32).toInt = 999 by decide +kernel]
    omega
  have hic : isC (nI c) = true := by
    rw [isC, ixN (by omega), Bool.and_eq_true, Bool.not_eq_true', decide_eq_false_iff_not, decide_eq_true_eq]
    exact ⟨nI_pos (by omega), hc⟩
  have hsp : sp_setCell (nI c) (nI m - 999) s = (s.2.1.2.1 c, (s.1, (s.2.1.1, (fun z => if z = c then nI m - 999 else s.2.1.2.1 z), s.2.1.2.2), recH s.2.2 s.2.1)) := by
    rw [sp_setCell, if_pos hic, if_neg h1, if_pos h2, ixN (by omega)]
  rw [hsp] at e1 e2 hO2
  have hF2 : FrL (S5 g x n a b) 0 0 M M2 := hF1.tr (e3.fr (S := S5 g x n a b)) (fun a h => Or.inl h)
  have rw' : ∀ q m', LR M q m' → q ≠ x → M2.1 q = M.1 q := fun q m' hq hne => by rw [e3.1 q hq.1, mset_ne hne]
  obtain ⟨⟨⟨⟨q1, q2, q3, q4⟩, g0, lf⟩, q5, cx⟩, g1⟩ := hL
  refine ⟨_, M2, e1, (cx c hc).symm, e3, ⟨(s.1, (s.2.1.1, (fun z => if z = c then nI m - 999 else s.2.1.2.1 z), s.2.1.2.2), recH s.2.2 s.2.1), ⟨⟨⟨⟨q1.fr hF2, q2.fr hF2, q3.fr hF2, q4.fr hF2⟩, by rw [rw' g 2 q1 (by omega)]; exact g0, lf.rows (rw' n 8 q2 (by omega)) (rw' a 64 q3 (by omega)) (rw' b 64 q4 (by omega))⟩, q5.fr hF2, fun z hz => ?_⟩, by rw [rw' g 2 q1 (by omega)]; exact g1⟩, e2, hO2, hV.1, fun z hz => ?_⟩, hF2⟩
  · rw [e3.1 x q5.1, ms_k']
    show _ = if z = c then nI m - 999 else s.2.1.2.1 z
    by_cases q : z = c
    · rw [if_pos q, if_pos q]
    · rw [if_neg q, if_neg q]; exact cx z hz
  · show vb (if z = c then nI m - 999 else s.2.1.2.1 z)
    by_cases q : z = c
    · rw [if_pos q, vb, hvi]; omega
    · rw [if_neg q]; exact hV.2 z hz
theorem setPlaces_law (hd : DG g x n a b) (h : LST M g x n a b) {p : Nat} (hp2 : 2 ≤ p) (hp8 : p ≤ 8) : ∃ v M', f_LP_setPlaces (nI p) (mset M g 1 (nI p)) = some (v, M') ∧ v = M.1 g 1 ∧ OffC (mset M g 1 (nI p)) M' ∧ LST M' g x n a b ∧ FrL (S5 g x n a b) 0 0 M M' := by
  obtain ⟨s, hL, hC, hO, hV⟩ := h
  obtain ⟨d1, d2, d3, d4⟩ := hd
  have hF1 : FrL (S5 g x n a b) 0 0 M (mset M g 1 (nI p)) := FrL.rf.set (Or.inl (Or.inl rfl))
  have hC1 := hC.ck hO (CK.rf.set hL.1.1.1.1.1 (M1 := M) (k := 1) (v := nI p))
  obtain ⟨M2, e1, e2, e3⟩ := c_setPlaces hC1 hO (nI p)
  have hO2 := oks_setPlaces hO (nI p)
  have hsp : sp_setPlaces (nI p) s = (s.2.1.2.2, (s.1, (s.2.1.1, s.2.1.2.1, nI p), recH s.2.2 s.2.1)) := by
    rw [sp_setPlaces, if_neg (show ¬ nI p < 2 from nI_nlt (a := p) (b := 2) hp2 (by omega)), if_neg (show ¬ (8 : Int32) < nI p from nI_nlt (a := 8) (b := p) hp8 (by omega))]
  rw [hsp] at e1 e2 hO2
  have hF2 : FrL (S5 g x n a b) 0 0 M M2 := hF1.tr (e3.fr (S := S5 g x n a b)) (fun a h => Or.inl h)
  have rw' : ∀ q m', LR M q m' → q ≠ g → M2.1 q = M.1 q := fun q m' hq hne => by rw [e3.1 q hq.1, mset_ne hne]
  obtain ⟨⟨⟨⟨q1, q2, q3, q4⟩, g0, lf⟩, q5, cx⟩, g1⟩ := hL
  refine ⟨_, M2, e1, g1.symm, e3, ⟨(s.1, (s.2.1.1, s.2.1.2.1, nI p), recH s.2.2 s.2.1), ⟨⟨⟨⟨q1.fr hF2, q2.fr hF2, q3.fr hF2, q4.fr hF2⟩, by rw [e3.1 g q1.1, ms_k (by omega)]; exact g0, lf.rows (rw' n 8 q2 (by omega)) (rw' a 64 q3 (by omega)) (rw' b 64 q4 (by omega))⟩, q5.fr hF2, fun z hz => by rw [rw' x 8 q5 (by omega)]; exact cx z hz⟩, by rw [e3.1 g q1.1, ms_eq]⟩, e2, hO2, hV.1, hV.2⟩, hF2⟩
end AC
