/-! isSo: the whole sheet -/
/-- how often a capital stands in forms that are not cheap -/
def usF (st : St) (c i : Nat) : Nat := if (XX st i).2.1 = true then 0 else useN st (nI c) i
def ndF (st : St) (i : Nat) : Nat := if (XX st i).2.1 = true then 0 else need0 st i
theorem use_ch {st : St} (hk : OKS st.1) {c i : Nat} (hi : i < st.1.length) : usF st c i = useN st (nI c) i := by
  rw [usF]
  by_cases h : (XX st i).2.1 = true
  · rw [if_pos h, useN]
    refine (List.countP_eq_zero.mpr fun q hq => ?_).symm
    have := (((XX_ok hk hi).2.2.2 h).2 q hq).1
    simp [this]
  · rw [if_neg h]
theorem sumN_le {f : Nat → Nat} {b : Nat} : ∀ n, (∀ i, i < n → f i ≤ b) → sumN f n ≤ b * n
  | 0, _ => Nat.zero_le _
  | n + 1, h => by
    rw [sumN, Nat.mul_succ]
    have := sumN_le n (fun i hi => h i (by omega))
    have := h n (by omega)
    omega
/-- the row of uses -/
def UR (M : Mem) (u : Nat) (F : Nat → Nat) : Prop := ∀ c, c < 7 → M.1 u c = nI (F c)
section SO
variable {s : S3} {g x n a b w u f : Nat}
theorem so331 {M : Mem} (hk : OKL s.2.1.1) (hC : RepC M s) (hO : OKs s) (hg : LR M g 2) (h0 : M.1 g 0 = nI s.2.1.1.length) (h1 : M.1 g 1 = s.2.1.2.2) :
    f_L_isSo_b331 g (nI (sumN (chN s.2.1) s.2.1.1.length)) (nI (sumN (fun i => (gf s.2.1.1 i).length) s.2.1.1.length)) (nI (maxN (ndF s.2.1) s.2.1.1.length)) 1 M = some (1, M) := by
  have hks := hO.2.2.1
  have h4 := hk.1.2
  have g0 : lx M g 0 = true := lx_0 hg (by omega) (by omega)
  have g1 : lx M g 1 = true := lx_1 hg (by omega) (by omega)
  have z0 : M.1 g (ix 0) = nI s.2.1.1.length := h0
  have z1 : M.1 g (ix 1) = s.2.1.2.2 := h1
  have a0 : a_count s 0 = nI s.2.1.1.length := by rw [a_count, if_pos rfl]
  have a1 : a_count s 1 = nI (sumN (chN s.2.1) s.2.1.1.length) := by rw [a_count, if_neg (by decide), if_pos rfl]
  have a2 : a_count s 2 = nI (sumN (fun i => (gf s.2.1.1 i).length) s.2.1.1.length) := by rw [a_count, if_neg (by decide), if_neg (by decide), if_pos rfl]
  have a3 : a_count s 3 = s.2.1.2.2 := by rw [a_count, if_neg (by decide), if_neg (by decide), if_neg (by decide), if_pos rfl]
  have a4 : a_count s 4 = nI (maxN (ndF s.2.1) s.2.1.1.length) := by rw [a_count, if_neg (by decide), if_neg (by decide), if_neg (by decide), if_neg (by decide), if_pos rfl]; rfl
  have f0 : a_formula s.2.1 (nI s.2.1.1.length) 0 = -1000001 := by rw [a_formula, isF_out (by omega), if_neg (by decide)]
  have n0 : a_node s.2.1 (nI s.2.1.1.length) 0 0 = -1000001 := by rw [a_node, isF_out (by omega), if_neg (by decide)]
  have c0 : a_cell s.2.1 8 = -1000001 := by rw [a_cell, if_neg (by decide)]
  rw [f_L_isSo_b331, if_neg (by decide), bk_ok (c_count hC hO _) OffC.rf, gd_of g0, a0, z0, if_pos rfl, bk_ok (c_count hC hO _) OffC.rf, a1, if_pos rfl, bk_ok (c_count hC hO _) OffC.rf, a2, if_pos rfl, bk_ok (c_count hC hO _) OffC.rf, gd_of g1, a3, z1, if_pos rfl, bk_ok (c_count hC hO _) OffC.rf, a4, if_pos rfl, gd_of g0, z0, bk_ok (c_formula hC hO _ _) OffC.rf, f0, if_pos rfl, gd_of g0, z0, bk_ok (c_node hC hO _ _ _) OffC.rf, n0, if_pos rfl, bk_ok (c_cell hC _) OffC.rf, c0, if_pos rfl]
  rfl
theorem so293 {M : Mem} {x8 x9 x10 : Int32} (hC : RepC M s) (hx : LR M x 8) (hc : ∀ c, c < 8 → M.1 x c = s.2.1.2.1 c) (hfin : f_L_isSo_b331 g x8 x9 x10 1 M = some (1, M)) : ∀ (fu k : Nat), k ≤ 8 → 8 - k < fu → f_L_isSo_b293 fu g x x8 x9 x10 1 (nI k) M = some (1, M) := by
  intro fu
  induction fu with
  | zero => intro k _ h; omega
  | succ fu ih =>
    intro k hk hfu
    rw [f_L_isSo_b293]
    by_cases c : k = 8
    · subst c
      rw [if_pos (by decide +kernel)]
      exact hfin
    · have hcell : a_cell s.2.1 (nI k) = s.2.1.2.1 k := by
        rw [a_cell, if_pos (by rw [isC, ixN (by omega), Bool.and_eq_true, Bool.not_eq_true', decide_eq_false_iff_not, decide_eq_true_eq]; exact ⟨nI_pos (by omega), by omega⟩), ixN (by omega)]
      rw [if_neg (by rw [show (8 : Int32) = nI 8 from rfl]; exact nI_ge (by omega) (by omega)), if_neg (by decide), bk_ok (c_cell hC _) OffC.rf, gd_of (lx_ok hx (by omega) (by omega)), hcell, ixN (by omega), hc k (by omega), if_pos rfl, bi_e, nI_s]
      exact ih (k + 1) (by omega) (by omega)
theorem so248 {M : Mem} {x8 x9 x10 : Int32} (hk : OKL s.2.1.1) (hC : RepC M s) (hO : OKs s) (hg : LR M g 2) (h0 : M.1 g 0 = nI s.2.1.1.length) (hu : LR M u 8) (hU : UR M u (fun c => sumN (usF s.2.1 c) s.2.1.1.length)) (hfin : f_L_isSo_b293 FU g x x8 x9 x10 1 0 M = some (1, M)) : ∀ (fu k : Nat), k ≤ s.2.1.1.length → s.2.1.1.length - k < fu → f_L_isSo_b248 fu g x u x8 x9 x10 1 (nI k) M = some (1, M) := by
  have h4 := hk.1.2
  have hks := hO.2.2.1
  intro fu
  induction fu with
  | zero => intro k _ h; omega
  | succ fu ih =>
    intro k hkl hfu
    rw [f_L_isSo_b248, gd_of (lx_0 hg (by omega) (by omega)), show M.1 g (ix 0) = nI s.2.1.1.length from h0]
    by_cases c : k = s.2.1.1.length
    · subst c
      rw [if_pos (nI_le (Nat.le_refl _) (by omega)), f_L_isSo_b290]
      exact hfin
    · have hus : sumN (usF s.2.1 k) s.2.1.1.length = sumN (useN s.2.1 (nI k)) s.2.1.1.length := sumN_cg _ (fun i hi => use_ch hks hi)
      have hUk : M.1 u k = nI (sumN (usF s.2.1 k) s.2.1.1.length) := hU k (by omega)
      rw [if_neg (nI_ge (by omega) (by omega)), if_neg (by decide), bk_ok (c_formula hC hO _ _) OffC.rf, gd_of (lx_ok hu (by omega) (by omega)), af6 hks (by omega), ixN (by omega), hUk, hus, if_pos rfl, bi_e, nI_s]
      exact ih (k + 1) (by omega) (by omega)
/-- what is counted in one form -/
theorem so129 {k39 : Nat → Nat → Nat → Nat → Nat → Nat → Nat → Int32 → Int32 → Int32 → Int32 → Int32 → Mem → Option (Int32 × Mem)} {x8 x9 x10 : Int32} {kd nb sn f : Nat} {l : Fm} {F : Nat → Nat} (hl : l.length ≤ 60) (hf : f ≤ 4) (hok : ∀ q ∈ l, okN f q) (hne : u ≠ kd ∧ u ≠ nb) : ∀ (fu k : Nat) (M : Mem), k ≤ l.length → l.length - k < fu → LR M kd 64 → LR M nb 64 → KR M kd nb l → LR M u 8 → UR M u (fun c => F c + (l.take k).countP fun q => q.1 == 2 && q.2 == nI c) →
    ∃ M', f_L_isSo_b129 k39 fu g x n a b w u x8 x9 x10 (nI f) kd nb sn (nI l.length) 0 (nI k) M = f_L_isSo_b173 k39 g x n a b w u x8 x9 x10 (nI f) sn 0 M' ∧ UR M' u (fun c => F c + l.countP fun q => q.1 == 2 && q.2 == nI c) ∧ FrL (fun c => c = u) 0 0 M M' ∧ CK M M' := by
  intro fu
  induction fu with
  | zero => intro k M _ h; omega
  | succ fu ih =>
    intro k M hkl hfu r1 r2 hK hu hU
    rw [f_L_isSo_b129]
    by_cases c : k = l.length
    · subst c
      rw [List.take_length] at hU
      rw [if_pos (nI_le (Nat.le_refl _) (by omega))]
      exact ⟨M, rfl, hU, FrL.rf, CK.rf⟩
    · have hk2 : k < l.length := by omega
      obtain ⟨v1, v2⟩ := hK k hk2
      rw [if_neg (nI_ge hk2 (by omega)), if_pos rfl, gd_of (lx_ok r1 (by omega) (by omega)), ixN (by omega), v1]
      have step : ∀ i : Nat, i < 8 → (∀ c, c < 7 → ((l.take (k + 1)).countP fun q => q.1 == 2 && q.2 == nI c) = ((l.take k).countP fun q => q.1 == 2 && q.2 == nI c) + (if c = i then 1 else 0)) →
          ∃ M', f_L_isSo_b129 k39 fu g x n a b w u x8 x9 x10 (nI f) kd nb sn (nI l.length) 0 (nI (k + 1)) (mset M u i (M.1 u i + 1)) = f_L_isSo_b173 k39 g x n a b w u x8 x9 x10 (nI f) sn 0 M' ∧ UR M' u (fun c => F c + l.countP fun q => q.1 == 2 && q.2 == nI c) ∧ FrL (fun c => c = u) 0 0 M M' ∧ CK M M' := by
        intro i hi hcnt
        have hfr : FrL (fun c => c = u) 0 0 M (mset M u i (M.1 u i + 1)) := FrL.rf.set (Or.inl rfl)
        obtain ⟨M2, j1, j2, j3, j4⟩ := ih (k + 1) (mset M u i (M.1 u i + 1)) (by omega) (by omega) r1 r2 (fun p hp => by rw [ms_a (Ne.symm hne.1), ms_a (Ne.symm hne.2)]; exact hK p hp) hu (fun c hc => by
          rw [ms_k']
          show (if c = i then M.1 u i + 1 else M.1 u c) = nI (F c + (l.take (k + 1)).countP fun q => q.1 == 2 && q.2 == nI c)
          rw [hcnt c hc]
          by_cases e : c = i
          · rw [if_pos e, if_pos e, ← e, hU c hc, nI_s]
            rfl
          · rw [if_neg e, if_neg e, hU c hc]
            rfl)
        exact ⟨M2, j1, j2, hfr.tr j3 (fun a h => Or.inl h), (CK.rf.set hu.1).tr j4⟩
      by_cases d : (nd l k).1 = 2
      · obtain ⟨cc, hcc, hcv⟩ := okN_2 (hok _ (nd_in hk2)) d
        have hbc : bc (nd l k) = nI cc := by rw [bc, if_pos (by rw [d]; decide), hcv]
        have gu : lx M u (nI cc) = true := lx_ok hu (by omega) (by omega)
        rw [if_pos d, gd_of (lx_ok r2 (by omega) (by omega)), v2, hbc, gd_of gu, gd_of gu, bm_e, bi_e, nI_s, ixN (by omega)]
        refine step cc (by omega) (fun c hc => ?_)
        rw [tk_s hk2, List.countP_append, List.countP_singleton, d, hcv]
        congr 1
        by_cases e : c = cc
        · rw [if_pos e, e]; simp
        · rw [if_neg e, if_neg]
          simp only [Bool.and_eq_true, beq_iff_eq]
          intro q
          exact e ((nI_eq (by omega) (by omega)).mp q.2).symm
      · have gu : lx M u 7 = true := lx_ok (k := 7) hu (by omega) (by omega)
        rw [if_neg d, gd_of gu, gd_of gu, bm_e, bi_e, nI_s]
        refine step 7 (by omega) (fun c hc => ?_)
        rw [tk_s hk2, List.countP_append, List.countP_singleton, if_neg (show ¬ c = 7 by omega), if_neg]
        simp [d]
end SO
