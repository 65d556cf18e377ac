/-! tell: sizes, needs, depths, values of the law are the document's -/
def vb (v : Int32) : Prop := -99999 ≤ v.toInt ∧ v.toInt ≤ 99999
def clp (t : Int64) : Int32 := Int64.toInt32 (mxL (-99999) (mnL 99999 t))
theorem c99 : (99999 : Int64).toInt = 99999 := by decide +kernel
theorem c99m : (-99999 : Int64).toInt = -99999 := by decide +kernel
theorem mid_toInt (t : Int64) : (mxL (-99999) (mnL 99999 t)).toInt = if t.toInt < 99999 then (if t.toInt < -99999 then -99999 else t.toInt) else 99999 := by
  rw [mxL, mnL]
  simp only [Int64.lt_iff_toInt_lt, c99, c99m]
  by_cases h : t.toInt < 99999
  · rw [if_pos h, if_pos h]
    by_cases h2 : t.toInt < -99999
    · rw [if_pos h2, if_pos h2, c99m]
    · rw [if_neg h2, if_neg h2]
  · rw [if_neg h, if_neg h, c99, if_neg (by omega), c99]
theorem clp_toInt (t : Int64) : (clp t).toInt = if t.toInt < 99999 then (if t.toInt < -99999 then -99999 else t.toInt) else 99999 := by
  rw [clp, Int64.toInt_toInt32, mid_toInt, Int.bmod_def]
  split
  · split <;> omega
  · omega
theorem clp_vb (t : Int64) : vb (clp t) := by
  rw [vb, clp_toInt]
  split
  · split <;> omega
  · omega
theorem clp_id {v : Int32} (h : vb v) : clp v.toInt64 = v := by
  apply Int32.toInt_inj.mp
  rw [clp_toInt, Int32.toInt_toInt64]
  obtain ⟨h1, h2⟩ := h
  split
  · rw [if_neg (by omega)]
  · omega
theorem vb_neg {v : Int32} (h : vb v) : vb (-v) := by
  obtain ⟨h1, h2⟩ := h
  rw [vb, Int32.toInt_neg, Int.bmod_def]
  split <;> omega
theorem add_64 {x y : Int32} (hx : vb x) (hy : vb y) : (x + y).toInt64 = x.toInt64 + y.toInt64 := by
  obtain ⟨h1, h2⟩ := hx
  obtain ⟨h3, h4⟩ := hy
  apply Int64.toInt_inj.mp
  rw [Int32.toInt_toInt64, Int64.toInt_add, Int32.toInt_add, Int32.toInt_toInt64, Int32.toInt_toInt64, Int.bmod_def, Int.bmod_def]
  split <;> split <;> omega
theorem sub_64 {x y : Int32} (hx : vb x) (hy : vb y) : (x - y).toInt64 = x.toInt64 - y.toInt64 := by
  obtain ⟨h1, h2⟩ := hx
  obtain ⟨h3, h4⟩ := hy
  apply Int64.toInt_inj.mp
  rw [Int32.toInt_toInt64, Int64.toInt_sub, Int32.toInt_sub, Int32.toInt_toInt64, Int32.toInt_toInt64, Int.bmod_def, Int.bmod_def]
  split <;> split <;> omega
def vop (K x y : Int32) : Int32 := if K = 3 then clp (Int32.toInt64 (-x)) else if K = 4 then clp (Int32.toInt64 (x + y)) else if K = 5 then clp (Int32.toInt64 (x - y)) else clp (Int32.toInt64 x * Int32.toInt64 y)
theorem vop_3 {x y : Int32} (h : vb x) : vop 3 x y = -x := by rw [vop, if_pos rfl, clp_id (vb_neg h)]
theorem vop_2 {K x y : Int32} (h : K = 4 ∨ K = 5 ∨ K = 6) (hx : vb x) (hy : vb y) : vop K x y = opv K x y := by
  rcases h with h | h | h <;> subst h
  · rw [vop, if_neg (by decide), if_pos rfl, opv, if_pos rfl, add_64 hx hy, clp]
  · rw [vop, if_neg (by decide), if_neg (by decide), if_pos rfl, opv, if_neg (by decide), if_pos rfl, sub_64 hx hy, clp]
  · rw [vop, if_neg (by decide), if_neg (by decide), if_neg (by decide), opv, if_neg (by decide), if_neg (by decide), clp]
theorem opv_vb (K x y : Int32) : vb (opv K x y) := clp_vb _
theorem tr_vb {lv : Nd → Int32} {l : Fm} (hw : wf l) (hv : ∀ k, k < l.length → ar (nd l k).1 = 0 → vb (lv (nd l k))) : ∀ (n k : Nat), l.length - k < n → k < l.length → vb (tr lv l k).2.2.2 := by
  intro n
  induction n with
  | zero => intro k h; omega
  | succ n ih =>
    intro k hn hk
    rcases ar_cases (nd l k).1 with c | c | c
    · rw [tr_a0 hk c]; exact hv k hk c
    · rw [tr_a1 hk c]
      exact vb_neg (ih (k + 1) (by omega) (wf_1 hw hk c))
    · rw [tr_a2 hk c]
      exact opv_vb _ _ _
abbrev K4 (sz ne dp vl : Nat) : Nat → Prop := fun c => c = sz ∨ c = ne ∨ c = dp ∨ c = vl
/-- what is told of the nodes from i on -/
def TB (M : Mem) (sz ne dp vl : Nat) (lv : Nd → Int32) (l : Fm) (i : Nat) : Prop := ∀ k, i ≤ k → k < l.length → M.1 sz k = nI (tr lv l k).1 ∧ M.1 ne k = nI (tr lv l k).2.1 ∧ M.1 dp k = nI (tr lv l k).2.2.1 ∧ M.1 vl k = (tr lv l k).2.2.2
section TL
variable {k6 : Nat → Nat → Nat → Nat → Nat → Nat → Nat → Nat → Int32 → Mem → Option (Unit × Mem)} {x w kd nb sz ne dp vl j l r : Nat}
theorem b311_ok {t0 : Int64} {M : Mem} (h : lx M vl (nI j) = true) (hj : j < 64) : f_L_tell_b311 k6 x w kd nb sz ne dp vl (nI j) t0 M = k6 x w kd nb sz ne dp vl (nI j + (-1)) (mset M vl j (clp t0)) := by
  have hc := clp_toInt t0
  rw [f_L_tell_b311]
  by_cases h1 : t0 ≤ 99999
  · rw [if_pos ((lg_cmp_le _ _).mpr h1)]
    have h1' : t0.toInt ≤ 99999 := by
      have := Int64.le_iff_toInt_le.mp h1
      rwa [c99] at this
    by_cases h2 : -99999 ≤ t0
    · rw [if_pos ((lg_cmp_ge _ _).mpr h2), gd_of h, bm_e, bi_e, ixN (by omega)]
      have h2' : -99999 ≤ t0.toInt := by
        have := Int64.le_iff_toInt_le.mp h2
        rwa [c99m] at this
      have e : clp t0 = Int64.toInt32 t0 := by
        apply Int32.toInt_inj.mp
        rw [hc, Int64.toInt_toInt32, Int.bmod_def]
        split
        · rw [if_neg (by omega)]
          split <;> omega
        · split <;> omega
      rw [e]
    · rw [if_neg (fun q => h2 ((lg_cmp_ge _ _).mp q)), gd_of h, bm_e, bi_e, ixN (by omega)]
      have h2' : ¬ -99999 ≤ t0.toInt := by
        intro q
        exact h2 (Int64.le_iff_toInt_le.mpr (by rw [c99m]; exact q))
      have e : clp t0 = -99999 := by
        apply Int32.toInt_inj.mp
        rw [hc, if_pos (by omega), if_pos (by omega)]
        decide +kernel
      rw [e]
  · rw [if_neg (fun q => h1 ((lg_cmp_le _ _).mp q)), gd_of h, bm_e, bi_e, ixN (by omega)]
    have h1' : ¬ t0.toInt ≤ 99999 := by
      intro q
      exact h1 (Int64.le_iff_toInt_le.mpr (by rw [c99]; exact q))
    have e : clp t0 = 99999 := by
      apply Int32.toInt_inj.mp
      rw [hc, if_neg (by omega)]
      decide +kernel
    rw [e]
theorem st232 {t0 : Int32} {M : Mem} (hkd : LR M kd 64) (hdp : LR M dp 64) (hvl : LR M vl 64) (hj : j < 64) (hl : l < 64) (hr : r < 64) (h1 : kd ≠ dp) (h2 : vl ≠ dp) : f_L_tell_b232 k6 x w kd nb sz ne dp vl (nI j) (nI l) (nI r) t0 1 (nI j) dp M = k6 x w kd nb sz ne dp vl (nI j + (-1)) (mset (mset M dp j (1 + t0)) vl j (vop (M.1 kd j) (M.1 vl l) (M.1 vl r))) := by
  have gk : lx (mset M dp j (1 + t0)) kd (nI j) = true := lx_ok hkd.set hj (by omega)
  have gj : lx (mset M dp j (1 + t0)) vl (nI j) = true := lx_ok hvl.set hj (by omega)
  have gl : lx (mset M dp j (1 + t0)) vl (nI l) = true := lx_ok hvl.set hl (by omega)
  have gr : lx (mset M dp j (1 + t0)) vl (nI r) = true := lx_ok hvl.set hr (by omega)
  have ij : ix (nI j) = j := ixN (by omega)
  have il : ix (nI l) = l := ixN (by omega)
  have ir : ix (nI r) = r := ixN (by omega)
  rw [f_L_tell_b232, gd_of (lx_ok hdp hj (by omega)), bm_e, ij, gd_of gk, gd_of gk, gd_of gk, gd_of gl, gd_of gl, gd_of gl, gd_of gl, gd_of gr, gd_of gr, gd_of gr, ms_a h1, il, ir, ms_a h2, ms_a h2, b311_ok gj hj, b311_ok gj hj, b311_ok gj hj, b311_ok gj hj, vop]
  by_cases c3 : M.1 kd j = 3
  · rw [if_pos c3, if_pos c3]
  · rw [if_neg c3, if_neg c3]
    by_cases c4 : M.1 kd j = 4
    · rw [if_pos c4, if_pos c4]
    · rw [if_neg c4, if_neg c4]
      by_cases c5 : M.1 kd j = 5
      · rw [if_pos c5, if_pos c5]
      · rw [if_neg c5, if_neg c5]
theorem st200 {t0 : Int32} {M : Mem} (hkd : LR M kd 64) (hne : LR M ne 64) (hdp : LR M dp 64) (hvl : LR M vl 64) (hj : j < 64) (hl : l < 64) (hr : r < 64) (h1 : kd ≠ dp) (h2 : vl ≠ dp) (h3 : kd ≠ ne) (h4 : vl ≠ ne) (h5 : dp ≠ ne) : f_L_tell_b200 k6 x w kd nb sz ne dp vl (nI j) (nI l) (nI r) t0 (nI j) ne M = k6 x w kd nb sz ne dp vl (nI j + (-1)) (mset (mset (mset M ne j t0) dp j (1 + (if M.1 dp l ≤ M.1 dp r then M.1 dp r else M.1 dp l))) vl j (vop (M.1 kd j) (M.1 vl l) (M.1 vl r))) := by
  have gl : lx (mset M ne j t0) dp (nI l) = true := lx_ok hdp.set hl (by omega)
  have gr : lx (mset M ne j t0) dp (nI r) = true := lx_ok hdp.set hr (by omega)
  have ij : ix (nI j) = j := ixN (by omega)
  have il : ix (nI l) = l := ixN (by omega)
  have ir : ix (nI r) = r := ixN (by omega)
  rw [f_L_tell_b200, gd_of (lx_ok hne hj (by omega)), bm_e, ij, gd_of gl, gd_of gr, gd_of gr, gd_of gl, il, ir, ms_a h5, ms_a h5, st232 hkd.set hdp.set hvl.set hj hl hr h1 h2, st232 hkd.set hdp.set hvl.set hj hl hr h1 h2, ms_a h3, ms_a h4, ms_a h4]
  by_cases c : M.1 dp l ≤ M.1 dp r
  · rw [if_pos c, if_pos c]
  · rw [if_neg c, if_neg c]
def nop (a b : Int32) (same : Bool) : Int32 := if a ≤ b then (if a < b then b else if same = true then b else a + 1) else a
theorem st138 {t0 t1 : Int32} {M : Mem} (hkd : LR M kd 64) (hsz : LR M sz 64) (hne : LR M ne 64) (hdp : LR M dp 64) (hvl : LR M vl 64) (hj : j < 64) (hl : l < 64) (hr : r < 64) (h1 : kd ≠ dp) (h2 : vl ≠ dp) (h3 : kd ≠ ne) (h4 : vl ≠ ne) (h5 : dp ≠ ne) (h6 : kd ≠ sz) (h7 : vl ≠ sz) (h8 : dp ≠ sz) (h9 : ne ≠ sz) : f_L_tell_b138 k6 x w kd nb sz ne dp vl (nI j) (nI l) (nI r) t0 t1 (nI j) sz M = k6 x w kd nb sz ne dp vl (nI j + (-1)) (mset (mset (mset (mset M sz j (t1 + t0)) ne j (nop (M.1 ne l) (M.1 ne r) (decide (r = l)))) dp j (1 + (if M.1 dp l ≤ M.1 dp r then M.1 dp r else M.1 dp l))) vl j (vop (M.1 kd j) (M.1 vl l) (M.1 vl r))) := by
  have gl : lx (mset M sz j (t1 + t0)) ne (nI l) = true := lx_ok hne.set hl (by omega)
  have gr : lx (mset M sz j (t1 + t0)) ne (nI r) = true := lx_ok hne.set hr (by omega)
  have ij : ix (nI j) = j := ixN (by omega)
  have il : ix (nI l) = l := ixN (by omega)
  have ir : ix (nI r) = r := ixN (by omega)
  have g200 : ∀ t : Int32, f_L_tell_b200 k6 x w kd nb sz ne dp vl (nI j) (nI l) (nI r) t (nI j) ne (mset M sz j (t1 + t0)) = k6 x w kd nb sz ne dp vl (nI j + (-1)) (mset (mset (mset (mset M sz j (t1 + t0)) ne j t) dp j (1 + (if M.1 dp l ≤ M.1 dp r then M.1 dp r else M.1 dp l))) vl j (vop (M.1 kd j) (M.1 vl l) (M.1 vl r))) := fun t => by
    rw [st200 hkd.set hne.set hdp.set hvl.set hj hl hr h1 h2 h3 h4 h5, ms_a h6, ms_a h7, ms_a h7, ms_a h8, ms_a h8]
  have g185 : f_L_tell_b185 k6 x w kd nb sz ne dp vl (nI j) (nI l) (nI r) (nI j) ne (mset M sz j (t1 + t0)) = k6 x w kd nb sz ne dp vl (nI j + (-1)) (mset (mset (mset (mset M sz j (t1 + t0)) ne j (M.1 ne r)) dp j (1 + (if M.1 dp l ≤ M.1 dp r then M.1 dp r else M.1 dp l))) vl j (vop (M.1 kd j) (M.1 vl l) (M.1 vl r))) := by
    rw [f_L_tell_b185, gd_of gr, g200, ir, ms_a h9]
  rw [f_L_tell_b138, gd_of (lx_ok hsz hj (by omega)), bm_e, ij, gd_of gl, gd_of gr, gd_of gr, gd_of gl, gd_of gl, gd_of gl, g185, g200, g200, il, ir, ms_a h9, ms_a h9, nop]
  by_cases c1 : M.1 ne l ≤ M.1 ne r
  · rw [if_pos c1, if_pos c1]
    by_cases c2 : M.1 ne l < M.1 ne r
    · rw [if_pos c2, if_pos c2]
    · rw [if_neg c2, if_neg c2]
      by_cases c3 : r = l
      · rw [if_pos (by rw [c3]), if_pos (show decide (r = l) = true from by simpa using c3)]
      · rw [if_neg (fun q => c3 ((nI_eq (by omega) (by omega)).mp q)), if_neg (show ¬ decide (r = l) = true from by simpa using c3)]
  · rw [if_neg c1, if_neg c1]
end TL
