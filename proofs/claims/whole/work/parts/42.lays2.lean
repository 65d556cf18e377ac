/-! expands, tells, lays -/
def npl (l : Fm) : Bool := !(l.any fun q => q.1 == 6) && !(l.any fun q => q.1 == 2)
theorem nar0 : vp_nar .boolean 0 = 0 := by decide +kernel
theorem nar1 : vp_nar .boolean 1 = 1 := by decide +kernel
theorem npl_drop {l : Fm} {j : Nat} (h : j < l.length) : npl (l.drop j) = ((!((nd l j).1 == 6) && !((nd l j).1 == 2)) && npl (l.drop (j + 1))) := by
  rw [npl, npl, any_drop h, any_drop h]
  cases ((nd l j).1 == 6) <;> cases ((nd l j).1 == 2) <;> cases ((l.drop (j + 1)).any fun q => q.1 == 6) <;> cases ((l.drop (j + 1)).any fun q => q.1 == 2) <;> rfl
theorem ex134 {M : Mem} {i N : Nat} {l : Fm} (hi : i < 6) (hN : N ≤ 6) (hN1 : 1 ≤ N) (hl : l.length ≤ 60) (h0 : M.1 209 0 = nI N) (hK : KA M i l) : ∀ (n z : Nat) (pl : Bool), z ≤ l.length → l.length - z < n →
    f_Md_expands_b134 n (nI i) (if pl = true then 1 else 0) (nI z) M = some ((), mset M 223 i (if (decide (i + 1 < N) && (decide (l.length ≤ 3) && (pl && npl (l.drop z)))) = true then 1 else 0)) := by
  have g6 : inb (nI i) 6 = true := inbT hi (by omega)
  intro n
  induction n with
  | zero => intro z pl _ h; omega
  | succ n ih =>
    intro z pl hz hn
    rw [f_Md_expands_b134]
    simp only [g6, gd_t, bm_e, nar0, nar1]
    rw [ixN (show i < 2 ^ 31 by omega), hK.1]
    by_cases c : z = l.length
    · subst c
      rw [if_pos (nI_le (Nat.le_refl _) (by omega)), gd_of (by decide), show ix 0 = 0 from rfl, h0, List.drop_length]
      obtain ⟨N', rfl⟩ : ∃ N', N = N' + 1 := ⟨N - 1, by omega⟩
      rw [nI_m1]
      by_cases d : i + 1 < N' + 1
      · rw [if_neg (nI_ge (by omega) (by omega))]
        by_cases d4 : l.length ≤ 3
        · rw [if_neg (by rw [show (4 : Int32) = nI 4 from rfl]; exact nI_ge (by omega) (by omega))]
          cases pl with
          | false =>
            rw [if_pos (by decide), if_neg (by simp)]
          | true =>
            rw [if_neg (by decide), if_pos (by simp [d, d4, npl])]
        · rw [if_pos (by rw [show (4 : Int32) = nI 4 from rfl]; exact nI_le (by omega) (by omega)), if_neg (by simp [d4])]
      · rw [if_pos (nI_le (by omega) (by omega)), if_neg (by simp; omega)]
    · have hz2 : z < l.length := by omega
      rw [if_neg (nI_ge hz2 (by omega))]
      have fin : ∀ pl', (pl' && npl (l.drop (z + 1))) = (pl && npl (l.drop z)) → f_Md_expands_b134 n (nI i) (if pl' = true then 1 else 0) (nI (z + 1)) M = some ((), mset M 223 i (if (decide (i + 1 < N) && (decide (l.length ≤ 3) && (pl && npl (l.drop z)))) = true then 1 else 0)) := by
        intro pl' hp
        rw [← hp]
        exact ih (z + 1) pl' (by omega) (by omega)
      have hd := npl_drop hz2
      cases pl with
      | false =>
        rw [if_pos (by decide), bi_e, nI_s]
        exact fin false (by simp)
      | true =>
        rw [if_neg (by decide), w90, gd_of (inbT (by omega) (by omega)), ixN (by omega), (hK.2 z hz2).1]
        by_cases d6 : (nd l z).1 = 6
        · rw [if_pos d6, bi_e, nI_s]
          exact fin false (by rw [hd, d6]; simp)
        · rw [if_neg d6, gd_of (inbT (by omega) (by omega))]
          by_cases d2 : (nd l z).1 = 2
          · rw [if_pos d2, bi_e, nI_s]
            exact fin false (by rw [hd, d2]; simp)
          · rw [if_neg d2, bi_e, nI_s]
            exact fin true (by rw [hd]; simp [d6, d2])
theorem ex63 {i j c : Nat} {k9 : Int32 → Int32 → Mem → Option (Unit × Mem)} {l x : Fm} (hi : i < 6) (hc : c < 6) (hne : c ≠ i) (hlx : l.length + x.length ≤ 60) : ∀ (n z : Nat) (M : Mem), z ≤ x.length → x.length - z < n → KA M c x → KA M i (l ++ x.take z) →
    ∃ M', f_Md_expands_b63 k9 n (nI i) (nI j) (nI c) (nI z) M = k9 (nI i) (nI (j + 1)) M' ∧ KA M' i (l ++ x) ∧ FrI i M M' ∧ M'.1 223 = M.1 223 := by
  have g6 : inb (nI c) 6 = true := inbT hc (by omega)
  intro n
  induction n with
  | zero => intro z M _ h; omega
  | succ n ih =>
    intro z M hz hn hC hK
    rw [f_Md_expands_b63, gd_of g6, ixN (by omega), hC.1]
    by_cases d : z = x.length
    · subst d
      rw [if_pos (nI_le (Nat.le_refl _) (by omega)), bi_e, nI_s]
      rw [List.take_length] at hK
      exact ⟨M, rfl, hK, FrI.rf, rfl⟩
    · have hz2 : z < x.length := by omega
      have g : inb (nI (90 * c + z)) 540 = true := inbT (by omega) (by omega)
      rw [if_neg (nI_ge hz2 (by omega)), w90, gd_of g, gd_of g, ixN (by omega)]
      obtain ⟨M1, e1, r1, r2, r3⟩ := copies_ok (q := nd x z) hi (by rw [List.length_append, List.length_take]; omega) hK (hC.2 z hz2).1 (hC.2 z hz2).2
      rw [e1, bd_s, bi_e, nI_s]
      obtain ⟨M2, e2, s1, s2, s3⟩ := ih (z + 1) M1 (by omega) (by omega) (hC.fr (by omega) hne r2) (by rw [tk_s hz2, ← List.append_assoc]; exact r1)
      exact ⟨M2, e2, s1, r2.tr s2, s3.trans r3⟩
theorem ex9 {st : St} (hk : OKS st.1) {i : Nat} (hi : i < st.1.length) : ∀ (n j : Nat) (M : Mem), j ≤ (gf st.1 i).length → (gf st.1 i).length - j < n → RowS (M.1 209) 0 st → (∀ c, c < i → XAi M st c) → KA M i (exl (XF st.1 st.2.1 i) ((gf st.1 i).take j)) →
    ∃ M', f_Md_expands_b9 n (nI i) (nI j) M = some ((), M') ∧ KA M' i (XX st i).1 ∧ M'.1 223 i = (if (XX st i).2.1 = true then 1 else 0) ∧ FrI i M M' := by
  have h6 := hk.1.2
  obtain ⟨w1, w2, w3⟩ := hk.2 i hi
  obtain ⟨k1, k2, k3, k4, k5⟩ := mkX_ok hk (cells := st.2.1) i hi
  have eX : (XX st i).1 = exl (XF st.1 st.2.1 i) (gf st.1 i) := rfl
  have eC : (XX st i).2.1 = isCheap (decide (i + 1 < st.1.length)) (exl (XF st.1 st.2.1 i) (gf st.1 i)) := rfl
  have hl60 : (exl (XF st.1 st.2.1 i) (gf st.1 i)).length ≤ 60 := k3
  intro n
  induction n with
  | zero => intro j M _ h; omega
  | succ n ih =>
    intro j M hj hn hS hC hK
    obtain ⟨r1, r2, r3, r4⟩ := id hS
    obtain ⟨q1, q2⟩ := r4 i hi
    rw [show 0 + 10 + i = 10 + i by omega] at q1
    rw [f_Md_expands_b9, w10, gd_of (inbT (by omega) (by omega)), ixN (by omega), q1]
    by_cases c : j = (gf st.1 i).length
    · subst c
      rw [List.take_length] at hK
      rw [if_pos (nI_le (Nat.le_refl _) (by omega))]
      have h := ex134 (by omega) h6 (by omega) hl60 r1 hK FU 0 true (by omega) (by rw [FU_e]; omega)
      rw [show f_Md_expands_b134 FU (nI i) 1 0 M = _ from h, List.drop_zero, Bool.true_and]
      refine ⟨_, rfl, ?_, ?_, FrI.set (by omega) (by omega) (fun z => by omega) (fun _ => rfl)⟩
      · rw [eX]
        exact ⟨by rw [mset_ne (by omega)]; exact hK.1, fun k hk2 => by rw [mset_ne (by omega), mset_ne (by omega)]; exact hK.2 k hk2⟩
      · rw [eC, isCheap]
        simp only [ms1, if_true, npl]
        rfl
    · have hj2 : j < (gf st.1 i).length := by omega
      obtain ⟨p1, p2⟩ := q2 j hj2
      rw [show 0 + 16 + 60 * i + 2 * j = 16 + 60 * i + 2 * j by omega] at p1
      rw [show 0 + 17 + 60 * i + 2 * j = 16 + 60 * i + 2 * j + 1 by omega] at p2
      have hlen := exl_le (T := XF st.1 st.2.1 i) (l := gf st.1 i) (j := j + 1)
      rw [exl_take hj2, List.length_append] at hlen
      rw [if_neg (nI_ge hj2 (by omega)), w60, nI_s, gd_of (inbT (by omega) (by omega)), bi_e, f_Md_kindAt, w60, gd_of (inbT (by omega) (by omega)), bd_s, ixN (by omega), ixN (by omega), p1]
      have hS2 : ∀ {M1 : Mem}, FrI i M M1 → RowS (M1.1 209) 0 st ∧ ∀ c, c < i → XAi M1 st c := fun ho => ⟨by rw [ho.1 209 (by omega)]; exact hS, fun c hc => (hC c hc).fr (XX_ok hk (by omega)).2.1 (by omega) ho⟩
      have copy : pce (XF st.1 st.2.1 i) (nd (gf st.1 i) j) = [nd (gf st.1 i) j] → ∃ M', f_Md_expands_b112 (f_Md_expands_b9 n) (nI i) (nI j) (M.1 209 (16 + 60 * i + 2 * j + 1)) M = some ((), M') ∧ KA M' i (XX st i).1 ∧ M'.1 223 i = (if (XX st i).2.1 = true then 1 else 0) ∧ FrI i M M' := by
        intro hp
        rw [hp] at hlen
        rw [f_Md_expands_b112, f_Md_kindAt, w60, gd_of (inbT (by omega) (by omega)), bd_s, ixN (by omega), p1]
        obtain ⟨M1, e1, s1, s2, s3⟩ := copies_ok (q := nd (gf st.1 i) j) (by omega) (by simp at hlen; omega) hK rfl p2
        rw [e1, bd_s, bi_e, nI_s]
        obtain ⟨M2, e2, t1, t2, t3⟩ := ih (j + 1) M1 (by omega) (by omega) (hS2 s2).1 (hS2 s2).2 (by rw [exl_take hj2, hp]; exact s1)
        exact ⟨M2, e2, t1, t2, s2.tr t3⟩
      by_cases d2 : (nd (gf st.1 i) j).1 = 2
      · rw [if_pos d2]
        rcases w3 j hj2 with ⟨z1, -⟩ | ⟨z1, -⟩ | ⟨-, c0, z2, z3⟩ | ⟨z1, -⟩
        · exact absurd (z1.symm.trans d2) (by decide)
        · exact absurd (z1.symm.trans d2) (by decide)
        · have pz := p2 (by rw [d2]; exact ar2)
          rw [pz, z3, gd_of (inbT (by omega) (by omega)), ixN (by omega), (hC c0 z2).2.1]
          by_cases hch : (XX st c0).2.1 = true
          · have eT : ((XF st.1 st.2.1 i).getD c0 x0) = XX st c0 := XF_lt i z2
            have hp : pce (XF st.1 st.2.1 i) (nd (gf st.1 i) j) = (XX st c0).1 := by rw [pce, z3, ixN (by omega), eT, if_pos ⟨d2, hch⟩]
            rw [hp] at hlen
            rw [if_pos hch, if_neg (by decide), ← nI_0]
            obtain ⟨M1, e1, s1, s2, s3⟩ := ex63 (i := i) (j := j) (c := c0) (k9 := f_Md_expands_b9 n) (x := (XX st c0).1) (l := exl (XF st.1 st.2.1 i) ((gf st.1 i).take j)) (by omega) (by omega) (by omega) (by omega) FU 0 M (by omega) (by rw [FU_e]; have := (XX_ok hk (i := c0) (by omega)).2.1; omega) (hC c0 z2).1 (by rw [List.take_zero, List.append_nil]; exact hK)
            rw [e1]
            obtain ⟨M2, e2, t1, t2, t3⟩ := ih (j + 1) M1 (by omega) (by omega) (hS2 s2).1 (hS2 s2).2 (by rw [exl_take hj2, hp]; exact s1)
            exact ⟨M2, e2, t1, t2, s2.tr t3⟩
          · have eT : ((XF st.1 st.2.1 i).getD c0 x0) = XX st c0 := XF_lt i z2
            rw [if_neg hch, if_pos rfl, ← z3, ← pz]
            exact copy (by rw [pce, if_neg]; rw [z3, ixN (by omega), eT]; exact fun z => hch z.2)
        · rcases z1 with z1 | z1 | z1 | z1 <;> exact absurd (z1.symm.trans d2) (by decide)
      · rw [if_neg d2]
        exact copy (by rw [pce, if_neg (fun z => d2 z.1)])
theorem expands_ok {st : St} (hk : OKS st.1) {i : Nat} (hi : i < st.1.length) (M : Mem) (hS : RowS (M.1 209) 0 st) (hC : ∀ c, c < i → XAi M st c) :
    ∃ M', f_Md_expands (nI i) M = some ((), M') ∧ KA M' i (XX st i).1 ∧ M'.1 223 i = (if (XX st i).2.1 = true then 1 else 0) ∧ FrI i M M' := by
  have h6 := hk.1.2
  have w2 := (hk.2 i hi).2.1
  have o1 : FrI i M (mset M 222 i 0) := FrI.set (by omega) (by omega) (fun z => by omega) (fun _ => rfl)
  rw [f_Md_expands, gd_of (inbT (by omega) (by omega)), bm_e, ixN (by omega), ← nI_0]
  obtain ⟨M1, e1, s1, s2, s3⟩ := ex9 hk hi FU 0 (mset M 222 i (nI 0)) (by omega) (by rw [FU_e]; omega) (by rw [mset_ne (by omega)]; exact hS) (fun c hc => (hC c hc).fr (j := i) (XX_ok hk (i := c) (by omega)).2.1 (by omega) (by rw [nI_0]; exact o1)) (by
    rw [List.take_zero]
    exact ⟨by simp [ms1, exl], fun k hk2 => absurd hk2 (Nat.not_lt_zero _)⟩)
  exact ⟨M1, e1, s1, s2, (by rw [nI_0] at s3; exact o1.tr s3)⟩
theorem cut_ok {M : Mem} {z : Int64} : f_Md_cut z M = some (Int64.toInt32 (mxL (-99999) (mnL 99999 z)), M) := by
  rw [f_Md_cut]
  have e0 : ∀ x y : Int64, lg_cmp x y ≤ 0 ↔ ¬ y < x := by
    intro x y
    rw [lg_cmp]
    by_cases h1 : x > y
    · rw [if_pos h1]
      simp only [show y < x from h1, not_true, iff_false]
      decide
    · rw [if_neg h1]
      have h1' : ¬ y < x := h1
      simp only [h1', not_false_iff, iff_true]
      split <;> decide
  by_cases c : 99999 < z
  · rw [if_neg (fun q => (e0 z 99999).mp q c)]
    have e1 : mnL 99999 z = 99999 := by
      rw [mnL, if_neg]
      intro q
      exact absurd (Int64.lt_trans q c) (Int64.lt_irrefl)
    rw [e1]
    rfl
  · rw [if_pos ((e0 z 99999).mpr c)]
    have e1 : mnL 99999 z = z := by
      rw [mnL]
      by_cases h2 : z < 99999
      · rw [if_pos h2]
      · rw [if_neg h2]
        exact Int64.le_antisymm (Int64.not_lt.mp h2) (Int64.not_lt.mp c)
    rw [e1]
    by_cases d : -99999 ≤ z
    · rw [if_pos ((lg_cmp_ge z (-99999)).mpr d)]
      have e2 : mxL (-99999) z = z := by
        rw [mxL]
        by_cases h3 : z < -99999
        · exact absurd d (Int64.not_le.mpr h3)
        · rw [if_neg h3]
      rw [e2]
    · rw [if_neg (fun q => d ((lg_cmp_ge z (-99999)).mp q))]
      have e2 : mxL (-99999) z = -99999 := by
        rw [mxL, if_pos (Int64.not_le.mp d)]
      rw [e2]
