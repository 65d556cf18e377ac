/-! tries, fewest, proved and ways, on the reference's side -/
def OA (M : Mem) (lv : Nd → Int32) (l : Fm) (j : Nat) : Prop := ∀ k, j ≤ k → k < l.length → ∀ p, p < 13 → M.1 228 (13 * k + p) = nI (od lv l p k)
abbrev R8 : Nat → Prop := fun a => a = 228
theorem w13 (k p : Nat) : (13 : Int32) * nI k + nI p = nI (13 * k + p) := by rw [show (13 : Int32) = nI 13 from rfl, nI_mul, nI_add]
theorem dv13 : ∀ t : Fin 169, nI t.val / 13 = nI (t.val / 13) ∧ nI t.val - nI t.val / 13 * 13 = nI (t.val % 13) := by decide +kernel
theorem od_a0 {lv : Nd → Int32} {l : Fm} {k p : Nat} (hk : k < l.length) (c : ar (nd l k).1 = 0) : od lv l p k = if p = 1 then 1 else 0 := by
  rw [od]
  match p with
  | 0 => rw [WW_0, if_neg (by omega)]
  | 1 => rw [WW_a0 hk c, if_pos rfl, Nat.sub_self, WW_0]
  | p + 2 => rw [show p + 2 - 1 = p + 1 by omega, WW_a0 hk c, WW_a0 hk c, if_neg (by omega)]
theorem od_a1 {lv : Nd → Int32} {l : Fm} (hw : wf l) {k p : Nat} (hk : k < l.length) (c : ar (nd l k).1 = 1) : od lv l p k = od lv l p (k + 1) := by rw [od, od, WW_a1 hw hk c, WW_a1 hw hk c]
theorem pc_le {lv : Nd → Int32} {l : Fm} (hw : wf l) {k : Nat} : pc lv l k ≤ pc lv l 0 := by
  rw [pc_0 hw, pc]
  exact List.Sublist.countP_le ((List.take_sublist _ _).trans (List.drop_sublist _ _))
theorem tfill {lv : Nd → Int32} {l : Fm} (hw : wf l) (hl : l.length ≤ 60) {k52 : Int32 → Int32 → Int32 → Mem → Option (Int32 × Mem)} {x1 x2 x6 : Int32} {j : Nat} (hj : j < l.length) : ∀ (n q : Nat) (M : Mem), q ≤ 13 → 13 - q < n → OA M lv l (j + 1) → (∀ p, p < q → M.1 228 (13 * j + p) = if ar (nd l j).1 = 2 then 0 else nI (od lv l p j)) →
    ∃ M', f_Md_tries_b110 k52 n x1 x2 (nI j) (nd l j).1 (nI (j + 1)) x6 (nI q) M = f_Md_tries_b181 k52 FU x1 x2 (nI j) (nd l j).1 (nI (j + 1)) x6 0 M' ∧ (∀ p, p < 13 → M'.1 228 (13 * j + p) = if ar (nd l j).1 = 2 then 0 else nI (od lv l p j)) ∧ OA M' lv l (j + 1) ∧ Off R8 M M' := by
  intro n
  induction n with
  | zero => intro q M _ h; omega
  | succ n ih =>
    intro q M hq hn hO hv
    rw [f_Md_tries_b110]
    by_cases c : q = 13
    · subst c
      rw [if_pos (by decide)]
      exact ⟨M, rfl, hv, hO, Off.rf⟩
    · rw [if_neg (show ¬ (13 : Int32) ≤ nI q by rw [show (13 : Int32) = nI 13 from rfl]; exact nI_ge (by omega) (by omega)), w13, w13]
      have g : inb (nI (13 * j + q)) 1170 = true := inbT (by omega) (by omega)
      have fin : ∀ v : Int32, v = (if ar (nd l j).1 = 2 then 0 else nI (od lv l q j)) → ∃ M', f_Md_tries_b110 k52 n x1 x2 (nI j) (nd l j).1 (nI (j + 1)) x6 (nI (q + 1)) (mset M 228 (13 * j + q) v) = f_Md_tries_b181 k52 FU x1 x2 (nI j) (nd l j).1 (nI (j + 1)) x6 0 M' ∧ (∀ p, p < 13 → M'.1 228 (13 * j + p) = if ar (nd l j).1 = 2 then 0 else nI (od lv l p j)) ∧ OA M' lv l (j + 1) ∧ Off R8 M M' := by
        intro v hv2
        obtain ⟨M1, r1, r2, r3, r4⟩ := ih (q + 1) (mset M 228 (13 * j + q) v) (by omega) (by omega)
          (fun k h1 h2 p hp => by
            have : 13 * k + p ≠ 13 * j + q := by omega
            rw [ms1, if_pos rfl, if_neg this]
            exact hO k h1 h2 p hp)
          (fun p hp => by
            rw [ms1, if_pos rfl]
            by_cases d : p = q
            · subst d; rw [if_pos rfl]; exact hv2
            · rw [if_neg (by omega)]; exact hv p (by omega))
        exact ⟨M1, r1, r2, r3, (Off.set (S := R8) rfl).tr r4⟩
      by_cases c3 : 3 ≤ (nd l j).1
      · rw [if_pos c3]
        have a0 := ar_3.mp c3
        by_cases d3 : (nd l j).1 = 3
        · have a1 : ar (nd l j).1 = 1 := by rw [d3]; rfl
          have h1 := wf_1 hw hj a1
          have g1 : inb (nI (13 * (j + 1) + q)) 1170 = true := inbT (by omega) (by omega)
          rw [if_pos d3, gd_of g1, gd_of g, bm_e, bi_e, nI_s, ixN (show 13 * j + q < 2 ^ 31 by omega), ixN (show 13 * (j + 1) + q < 2 ^ 31 by omega), hO (j + 1) (Nat.le_refl _) h1 q (by omega), ← od_a1 hw hj a1]
          exact fin _ (by rw [if_neg (by omega)])
        · have a2 : ar (nd l j).1 = 2 := by rw [ar, if_pos c3, if_neg d3]
          rw [if_neg d3, gd_of g, bm_e, bi_e, nI_s, ixN (show 13 * j + q < 2 ^ 31 by omega)]
          exact fin _ (by rw [if_pos a2])
      · have a0 : ar (nd l j).1 = 0 := by rw [ar, if_neg c3]
        rw [if_neg c3]
        by_cases d1 : q = 1
        · rw [if_pos (by rw [d1]; rfl), gd_of g, bm_e, bi_e, nI_s, ixN (show 13 * j + q < 2 ^ 31 by omega)]
          exact fin _ (by rw [if_neg (by omega), od_a0 hj a0, if_pos d1]; rfl)
        · rw [if_neg (by
            intro w
            exact d1 ((nI_eq (by omega) (by omega)).mp (w.trans (show (1 : Int32) = nI 1 from rfl)))), gd_of g, bm_e, bi_e, nI_s, ixN (show 13 * j + q < 2 ^ 31 by omega)]
          exact fin _ (by rw [if_neg (by omega), od_a0 hj a0, if_neg d1]; rfl)
theorem b269_e {k52 : Int32 → Int32 → Int32 → Mem → Option (Int32 × Mem)} {k181 : Int32 → Int32 → Int32 → Int32 → Int32 → Int32 → Int32 → Mem → Option (Int32 × Mem)} {x1 x2 x4 x5 x6 : Int32} {j t a b e1 y : Nat} {M : Mem} (hj : 13 * j + e1 < 1170) (hj2 : 13 * j + max (a + 1) b < 1170) (hb : a < 1000) (hb2 : b < 1000) : f_Md_tries_b269 k52 k181 x1 x2 (nI j) x4 x5 x6 (nI t) (nI a) (nI b) (nI y) (nI e1) (13 * nI j) M = k181 x1 x2 (nI j) x4 x5 x6 (nI (t + 1)) (mset (mset M 228 (13 * j + e1) (M.1 228 (13 * j + e1) + nI y)) 228 (13 * j + max (a + 1) b) ((mset M 228 (13 * j + e1) (M.1 228 (13 * j + e1) + nI y)).1 228 (13 * j + max (a + 1) b) + nI y)) := by
  have g : inb (nI (13 * j + e1)) 1170 = true := inbT hj (by omega)
  have g2 : inb (nI (13 * j + max (a + 1) b)) 1170 = true := inbT hj2 (by omega)
  rw [f_Md_tries_b269, w13, gd_of g, gd_of g, bm_e, ixN (show 13 * j + e1 < 2 ^ 31 by omega), nI_s, w13, w13]
  by_cases c : b ≤ a + 1
  · rw [Nat.max_eq_left c] at g2 ⊢
    rw [if_pos (nI_le c (by omega)), gd_of g2, gd_of g2, bm_e, bi_e, nI_s, ixN (by omega)]
  · rw [Nat.max_eq_right (by omega)] at g2 ⊢
    rw [if_neg (nI_ge (by omega) (by omega)), gd_of g2, gd_of g2, bm_e, bi_e, nI_s, ixN (by omega)]
theorem tpair {lv : Nd → Int32} {l : Fm} (hw : wf l) (hl : l.length ≤ 60) {k52 : Int32 → Int32 → Int32 → Mem → Option (Int32 × Mem)} {x1 x2 : Int32} {j : Nat} (hj : j < l.length) (ha : ar (nd l j).1 = 2) (hpc : pc lv l j ≤ 10) : ∀ (n t : Nat) (M : Mem), t ≤ 169 → 169 - t < n → OA M lv l (j + 1) → (∀ p, p < 13 → M.1 228 (13 * j + p) = nI (sumN (pw (fun a => od lv l a (j + 1)) (fun b => od lv l b (j + 1 + (tr lv l (j + 1)).1)) p) t)) →
    ∃ M', f_Md_tries_b181 k52 n x1 x2 (nI j) (nd l j).1 (nI (j + 1)) (nI (j + 1 + (tr lv l (j + 1)).1)) (nI t) M = k52 x1 x2 (nI j + (-1)) M' ∧ OA M' lv l j ∧ Off R8 M M' := by
  obtain ⟨h1, h2⟩ := wf_2 (lv := lv) hw hj ha
  have c3 : ¬ (nd l j).1 ≤ 3 := by
    have := ar_4.mpr (show ¬ ar (nd l j).1 ≤ 1 by omega)
    exact Int32.not_le.mpr this
  have hpe := pc_a2 (lv := lv) hj ha
  intro n
  induction n with
  | zero => intro t M _ h; omega
  | succ n ih =>
    intro t M ht hn hO hv
    rw [f_Md_tries_b181]
    by_cases c : t = 169
    · subst c
      rw [if_pos (by decide), bi_e]
      refine ⟨M, rfl, fun k k1 k2 p hp => ?_, Off.rf⟩
      by_cases d : k = j
      · rw [d, hv p hp, od_a2 hw hj ha hp]
      · exact hO k (by omega) k2 p hp
    · have ht2 : t < 169 := by omega
      obtain ⟨d1, d2⟩ := dv13 ⟨t, ht2⟩
      simp only at d1 d2
      rw [if_neg (show ¬ (169 : Int32) ≤ nI t by rw [show (169 : Int32) = nI 169 from rfl]; exact nI_ge ht2 (by omega)), if_neg c3, bi_e, bi_e, d2, d1]
      have oaA := hO (j + 1) (Nat.le_refl _) h1 (t / 13) (by omega)
      have oaB := hO (j + 1 + (tr lv l (j + 1)).1) (by omega) h2 (t % 13) (by omega)
      have la := od_le (lv := lv) hw (p := t / 13) h1
      have lb := od_le (lv := lv) hw (p := t % 13) h2
      have ba := od_big (lv := lv) hw (p := t / 13) h1
      have bb := od_big (lv := lv) hw (p := t % 13) h2
      rw [w13, w13, gd_of (inbT (by omega) (by omega)), gd_of (inbT (by omega) (by omega)), bi_e, ixN (show 13 * (j + 1) + t / 13 < 2 ^ 31 by omega), ixN (show 13 * (j + 1 + (tr lv l (j + 1)).1) + t % 13 < 2 ^ 31 by omega), oaA, oaB, nI_mul]
      have hprod : od lv l (t / 13) (j + 1) * od lv l (t % 13) (j + 1 + (tr lv l (j + 1)).1) ≤ 2 ^ 10 := by
        have z1 := Nat.mul_le_mul la lb
        rw [← Nat.pow_add] at z1
        exact Nat.le_trans z1 (Nat.pow_le_pow_right (by omega) (by omega))
      have hpw : ∀ p, pw (fun a => od lv l a (j + 1)) (fun b => od lv l b (j + 1 + (tr lv l (j + 1)).1)) p t = od lv l (t / 13) (j + 1) * od lv l (t % 13) (j + 1 + (tr lv l (j + 1)).1) * (if max (t / 13) (t % 13 + 1) = p then 1 else 0) + od lv l (t / 13) (j + 1) * od lv l (t % 13) (j + 1 + (tr lv l (j + 1)).1) * (if max (t / 13 + 1) (t % 13) = p then 1 else 0) := fun p => rfl
      generalize hy : od lv l (t / 13) (j + 1) * od lv l (t % 13) (j + 1 + (tr lv l (j + 1)).1) = y at *
      by_cases d : y = 0
      · rw [if_pos (by rw [d]; decide), bi_e, nI_s]
        exact ih (t + 1) M (by omega) (by omega) hO (fun p hp => by rw [hv p hp, sumN, hpw p, d, Nat.zero_mul, Nat.zero_mul]; rfl)
      · rw [if_neg (show ¬ nI y ≤ 0 by rw [← nI_0]; exact nI_ge (by omega) (by omega)), nI_s]
        have na : t / 13 ≤ pc lv l (j + 1) + 1 := by
          rcases Nat.lt_or_ge (pc lv l (j + 1) + 1) (t / 13) with q | q
          · rw [ba q, Nat.zero_mul] at hy; exact absurd hy.symm d
          · exact q
        have nb : t % 13 ≤ pc lv l (j + 1 + (tr lv l (j + 1)).1) + 1 := by
          rcases Nat.lt_or_ge (pc lv l (j + 1 + (tr lv l (j + 1)).1) + 1) (t % 13) with q | q
          · rw [bb q, Nat.mul_zero] at hy; exact absurd hy.symm d
          · exact q
        have b1 : max (t / 13) (t % 13 + 1) < 13 := by omega
        have b2 : max (t / 13 + 1) (t % 13) < 13 := by omega
        have fin : ∀ e1, e1 = max (t / 13) (t % 13 + 1) → ∃ M', f_Md_tries_b269 k52 (f_Md_tries_b181 k52 n) x1 x2 (nI j) (nd l j).1 (nI (j + 1)) (nI (j + 1 + (tr lv l (j + 1)).1)) (nI t) (nI (t / 13)) (nI (t % 13)) (nI y) (nI e1) (13 * nI j) M = k52 x1 x2 (nI j + (-1)) M' ∧ OA M' lv l j ∧ Off R8 M M' := by
          intro e1 he1
          rw [b269_e (by omega) (by omega) (by omega) (by omega)]
          have o1 : Off R8 M (mset (mset M 228 (13 * j + e1) (M.1 228 (13 * j + e1) + nI y)) 228 (13 * j + max (t / 13 + 1) (t % 13)) ((mset M 228 (13 * j + e1) (M.1 228 (13 * j + e1) + nI y)).1 228 (13 * j + max (t / 13 + 1) (t % 13)) + nI y)) := (Off.set (S := R8) rfl).tr (Off.set (S := R8) rfl)
          obtain ⟨M1, r1, r2, r3⟩ := ih (t + 1) (mset (mset M 228 (13 * j + e1) (M.1 228 (13 * j + e1) + nI y)) 228 (13 * j + max (t / 13 + 1) (t % 13)) ((mset M 228 (13 * j + e1) (M.1 228 (13 * j + e1) + nI y)).1 228 (13 * j + max (t / 13 + 1) (t % 13)) + nI y)) (by omega) (by omega)
            (fun k k1 k2 p hp => by
              have n1 : 13 * k + p ≠ 13 * j + e1 := by omega
              have n2 : 13 * k + p ≠ 13 * j + max (t / 13 + 1) (t % 13) := by omega
              rw [ms1, if_pos rfl, if_neg n2, ms1, if_pos rfl, if_neg n1]
              exact hO k k1 k2 p hp)
            (fun p hp => by
              have hv1 : (mset M 228 (13 * j + e1) (M.1 228 (13 * j + e1) + nI y)).1 228 (13 * j + p) = nI (sumN (pw (fun a => od lv l a (j + 1)) (fun b => od lv l b (j + 1 + (tr lv l (j + 1)).1)) p) t + y * (if max (t / 13) (t % 13 + 1) = p then 1 else 0)) := by
                rw [ms1, if_pos rfl]
                by_cases z : p = e1
                · rw [if_pos (by omega), ← z, hv p hp, if_pos (by omega), Nat.mul_one, nI_add]
                · rw [if_neg (by omega), hv p hp, if_neg (by omega), Nat.mul_zero]; rfl
              rw [sumN, hpw p, ← Nat.add_assoc, ms1, if_pos rfl]
              by_cases z : p = max (t / 13 + 1) (t % 13)
              · rw [if_pos (by omega), ← z, hv1, if_pos (show p = p from rfl), Nat.mul_one, nI_add]
              · rw [if_neg (by omega), hv1, if_neg (show ¬ max (t / 13 + 1) (t % 13) = p by omega), Nat.mul_zero]; rfl)
          exact ⟨M1, r1, r2, o1.tr r3⟩
        by_cases e : t / 13 ≤ t % 13 + 1
        · rw [if_pos (nI_le e (by omega))]
          exact fin _ (Nat.max_eq_right e).symm
        · rw [if_neg (nI_ge (by omega) (by omega))]
          exact fin _ (Nat.max_eq_left (by omega)).symm

theorem tloop {lv : Nd → Int32} {l : Fm} (hw : wf l) (hl : l.length ≤ 60) (hpc : pc lv l 0 ≤ 10) {i np : Nat} (hi : i < 6) (hnp : np ≤ 10) : ∀ (n j : Nat) (M : Mem), j ≤ l.length → j < n → (∀ k, k < l.length → M.1 216 (90 * i + k) = (nd l k).1 ∧ M.1 218 (90 * i + k) = nI (tr lv l k).1) → OA M lv l j →
    ∃ M', f_Md_tries_b52 n (nI i) (nI np) (nI j - 1) M = some (nI np, M') ∧ OA M' lv l 0 ∧ Off R8 M M' := by
  intro n
  induction n with
  | zero => intro j M _ h; omega
  | succ n ih =>
    intro j M hj hn hT hO
    rw [f_Md_tries_b52]
    cases j with
    | zero =>
      rw [if_pos (by decide)]
      exact ⟨M, rfl, hO, Off.rf⟩
    | succ j =>
      have hj2 : j < l.length := by omega
      obtain ⟨t1, t2⟩ := hT j hj2
      rw [nI_m1, if_neg (nI_pos (by omega)), if_neg (show ¬ (10 : Int32) < nI np by rw [show (10 : Int32) = nI 10 from rfl]; exact nI_nlt hnp (by omega)), w90, gd_of (inbT (by omega) (by omega)), bi_e, ixN (show 90 * i + j < 2 ^ 31 by omega), t1, bi_e, nI_s]
      have hpj := pc_le (lv := lv) hw (k := j)
      have e1 : nI j + (-1) = nI j - 1 := by grind
      by_cases c : ar (nd l j).1 = 2
      · obtain ⟨h1, h2⟩ := wf_2 (lv := lv) hw hj2 c
        have c4 : ¬ (nd l j).1 ≤ 3 := Int32.not_le.mpr (ar_4.mpr (by omega))
        rw [if_neg c4, w90, gd_of (inbT (by omega) (by omega)), ixN (show 90 * i + (j + 1) < 2 ^ 31 by omega), (hT (j + 1) h1).2, nI_add, f_Md_tries_b105]
        obtain ⟨M1, r1, r2, r3, r4⟩ := tfill hw hl (k52 := f_Md_tries_b52 n) (x1 := nI i) (x2 := nI np) (x6 := nI (j + 1 + (tr lv l (j + 1)).1)) hj2 FU 0 M (by omega) (by rw [FU_e]; omega) hO (fun p hp => by omega)
        rw [show f_Md_tries_b110 (f_Md_tries_b52 n) FU (nI i) (nI np) (nI j) (nd l j).1 (nI (j + 1)) (nI (j + 1 + (tr lv l (j + 1)).1)) 0 M = _ from r1]
        obtain ⟨M2, s1, s2, s3⟩ := tpair hw hl (k52 := f_Md_tries_b52 n) (x1 := nI i) (x2 := nI np) hj2 c (by omega) FU 0 M1 (by omega) (by rw [FU_e]; omega) r3 (fun p hp => by rw [r2 p hp, if_pos c]; rfl)
        rw [show f_Md_tries_b181 (f_Md_tries_b52 n) FU (nI i) (nI np) (nI j) (nd l j).1 (nI (j + 1)) (nI (j + 1 + (tr lv l (j + 1)).1)) 0 M1 = _ from s1, e1]
        have o := r4.tr s3
        obtain ⟨M3, u1, u2, u3⟩ := ih j M2 (by omega) (by omega) (fun k hk => by rw [o.1 216 (by omega), o.1 218 (by omega)]; exact hT k hk) s2
        exact ⟨M3, u1, u2, o.tr u3⟩
      · have c4 : (nd l j).1 ≤ 3 := by
          have hal := ar_le (nd l j).1
          exact Int32.not_lt.mp (fun q => absurd (ar_4.mp q) (by omega))
        rw [if_pos c4, f_Md_tries_b105]
        obtain ⟨M1, r1, r2, r3, r4⟩ := tfill hw hl (k52 := f_Md_tries_b52 n) (x1 := nI i) (x2 := nI np) (x6 := 0) hj2 FU 0 M (by omega) (by rw [FU_e]; omega) hO (fun p hp => by omega)
        rw [show f_Md_tries_b110 (f_Md_tries_b52 n) FU (nI i) (nI np) (nI j) (nd l j).1 (nI (j + 1)) 0 0 M = _ from r1, show FU = 4095 + 1 from rfl, f_Md_tries_b181, if_neg (by decide), if_pos c4, bi_e, e1]
        obtain ⟨M3, u1, u2, u3⟩ := ih j M1 (by omega) (by omega) (fun k hk => by rw [r4.1 216 (by omega), r4.1 218 (by omega)]; exact hT k hk) (fun k k1 k2 p hp => by
          by_cases d : k = j
          · rw [d, r2 p hp, if_neg c]
          · exact r3 k (by omega) k2 p hp)
        exact ⟨M3, u1, u2, r4.tr u3⟩
theorem tcount {lv : Nd → Int32} {l : Fm} (hl : l.length ≤ 60) {i : Nat} (hi : i < 6) {M : Mem} (h222 : M.1 222 i = nI l.length) (hT : ∀ k, k < l.length → M.1 216 (90 * i + k) = (nd l k).1 ∧ M.1 218 (90 * i + k) = nI (tr lv l k).1) : ∀ (n j : Nat), j ≤ l.length → l.length - j < n →
    f_Md_tries_b4 n (nI i) (nI ((l.take j).countP fun q => ar q.1 == 2)) (nI j) M = f_Md_tries_b52 FU (nI i) (nI (l.countP fun q => ar q.1 == 2)) (nI l.length - 1) M := by
  have g6 : inb (nI i) 6 = true := inbT hi (by omega)
  intro n
  induction n with
  | zero => intro j _ h; omega
  | succ n ih =>
    intro j hj hn
    rw [f_Md_tries_b4, gd_of g6, gd_of g6, ixN (show i < 2 ^ 31 by omega), h222]
    by_cases c : j = l.length
    · subst c
      rw [if_pos (nI_le (Nat.le_refl _) (by omega)), bi_e, List.take_length]
    · have hj2 : j < l.length := by omega
      rw [if_neg (nI_ge hj2 (by omega)), w90, gd_of (inbT (by omega) (by omega)), ixN (by omega), (hT j hj2).1]
      have ihj := ih (j + 1) (by omega) (by omega)
      rw [tk_s hj2, List.countP_append, List.countP_singleton] at ihj
      have hal := ar_le (nd l j).1
      by_cases d : ar (nd l j).1 = 2
      · rw [if_pos (by simp [d])] at ihj
        rw [if_neg (Int32.not_le.mpr (ar_4.mpr (by omega))), bi_e, bi_e, nI_s, nI_s]
        exact ihj
      · rw [if_neg (by simp [d]), Nat.add_zero] at ihj
        rw [if_pos (Int32.not_lt.mp (fun q => absurd (ar_4.mp q) (by omega))), bi_e, bi_e, nI_z, nI_s]
        exact ihj
theorem tries_ok {M : Mem} {st : St} (hk : OKS st.1) (hE : XAA M st) {i : Nat} (hi : i < st.1.length) : ∃ M', f_Md_tries (nI i) M = some (nI (pairsS st i), M') ∧ (pairsS st i ≤ 10 → OA M' (lvS st i) (XX st i).1 0) ∧ Off R8 M M' := by
  have h6 := hk.1.2
  obtain ⟨w1, w2, -⟩ := XX_ok hk hi
  obtain ⟨hK, -, hT⟩ := hE i hi
  have hT2 : ∀ k, k < (XX st i).1.length → M.1 216 (90 * i + k) = (nd (XX st i).1 k).1 ∧ M.1 218 (90 * i + k) = nI (tr (lvS st i) (XX st i).1 k).1 := fun k hk2 => ⟨(hK.2 k hk2).1, (hT k (by omega) hk2).1⟩
  have h := tcount (lv := lvS st i) w2 (i := i) (by omega) hK.1 hT2 FU 0 (by omega) (by rw [FU_e]; omega)
  rw [f_Md_tries]
  rw [show f_Md_tries_b4 FU (nI i) 0 0 M = _ from h]
  have hpe : pairsS st i = (XX st i).1.countP fun q => ar q.1 == 2 := rfl
  have hple : pairsS st i ≤ 60 := Nat.le_trans List.countP_le_length w2
  rw [← hpe]
  by_cases c : pairsS st i ≤ 10
  · obtain ⟨M1, r1, r2, r3⟩ := tloop (lv := lvS st i) w1 w2 (by rw [pc_0 w1]; exact c) (i := i) (by omega) c FU (XX st i).1.length M (Nat.le_refl _) (by rw [FU_e]; omega) hT2 (fun k h1 h2 => by omega)
    exact ⟨M1, r1, fun _ => r2, r3⟩
  · have hpos := wf_len w1
    obtain ⟨z, hz⟩ : ∃ z, (XX st i).1.length = z + 1 := ⟨(XX st i).1.length - 1, by omega⟩
    rw [hz, nI_m1, show FU = 4095 + 1 from rfl, f_Md_tries_b52, if_neg (nI_pos (by omega)), if_pos (show (10 : Int32) < nI (pairsS st i) by rw [show (10 : Int32) = nI 10 from rfl]; exact nI_lt (by omega) (by omega))]
    exact ⟨M, rfl, fun q => absurd q c, Off.rf⟩
theorem few_loop {M : Mem} {lv : Nd → Int32} {l : Fm} (hw : wf l) (hO : OA M lv l 0) {r : Nat} (hr : r ≤ 11) (h1 : WW lv l r 0 ≠ 0) (h2 : ∀ q, q < r → WW lv l q 0 = 0) (hb : WW lv l r 0 < 2 ^ 31) : ∀ (n q : Nat), 1 ≤ q → q ≤ r → r - q < n → f_Md_fewest_b2 n (nI q) M = some (nI r, M) ∧ M.1 228 r = nI (WW lv l r 0) := by
  have h0 := wf_len hw
  have hv : ∀ q, 1 ≤ q → q ≤ r → M.1 228 q = nI (WW lv l q 0) := fun q q1 q2 => by
    have := hO 0 (Nat.le_refl _) h0 q (by omega)
    rw [Nat.mul_zero, Nat.zero_add] at this
    rw [this, od, h2 (q - 1) (by omega), Nat.sub_zero]
  intro n
  induction n with
  | zero => intro q _ _ h; omega
  | succ n ih =>
    intro q q1 q2 hn
    rw [f_Md_fewest_b2, gd_of (inbT (by omega) (by omega)), ixN (by omega), hv q q1 q2]
    by_cases c : q = r
    · subst c
      rw [if_neg (fun z => h1 ((nI_eq hb (by omega)).mp (z.trans nI_0.symm)))]
      exact ⟨rfl, hv q q1 q2⟩
    · rw [if_pos (by rw [h2 q (by omega)]; rfl), bi_e, nI_s]
      exact ih (q + 1) (by omega) (by omega) (by omega)
theorem r_trial {M : Mem} {s : S3} (h : RepR M s) (hk : OKs s) (x : Int32) : (∃ M', f_Md_proved x M = some (a_proved s.2.1 x, M') ∧ RepR M' s ∧ OffR M M') ∧ (∃ M', f_Md_ways x M = some (a_ways s.2.1 x, M') ∧ RepR M' s ∧ OffR M M') := by
  have hks := hk.2.2.1
  have h6 := hks.1.2
  rw [f_Md_proved, f_Md_ways, rIsF h.2.1 hks, bd_s, bd_s, a_proved, a_ways]
  by_cases c : isF s.2.1.1 x = true
  · obtain ⟨k, rfl, hk1, hk2, hk3⟩ := isF_k c
    obtain ⟨M1, e1, hE, ho⟩ := lays_ok hks M h.2.1
    obtain ⟨hR, hF⟩ := h.lays ho
    obtain ⟨M2, e2, hO, o2⟩ := tries_ok hks hE hk1
    obtain ⟨w1, w2, -⟩ := XX_ok hks hk1
    have hR2 : RepR M2 s := hR.keep (by rw [o2.1 208 (by omega)]) (by rw [o2.1 208 (by omega)]) (o2.1 _ (by omega)) (o2.1 _ (by omega)) (o2.1 _ (by omega))
    have hF2 := hF.tr (OffR.of o2 (fun a ha q => by omega))
    have hple : pairsS s.2.1 k ≤ 60 := Nat.le_trans List.countP_le_length w2
    rw [if_pos c, if_pos c, if_pos c, if_neg (show ¬ (1 : Int32) = 0 by decide), if_neg (show ¬ (1 : Int32) = 0 by decide), e1, bd_s, bd_s, e2, bd_s, bd_s, hk3]
    by_cases d : pairsS s.2.1 k ≤ 10
    · have c10 : nI (pairsS s.2.1 k) ≤ 10 := by rw [show (10 : Int32) = nI 10 from rfl]; exact nI_le d (by omega)
      rw [if_pos c10, if_pos c10, if_pos d, if_pos d]
      have hp : pc (lvS s.2.1 k) (XX s.2.1 k).1 0 ≤ 10 := by rw [pc_0 w1]; exact d
      have h11 : WW (lvS s.2.1 k) (XX s.2.1 k).1 11 0 ≠ 0 := by
        rw [WW_full w1 ((XX s.2.1 k).1.length + 1) 0 10 (by omega) (wf_len w1) hp]
        exact Nat.pos_iff_ne_zero.mp (Nat.two_pow_pos _)
      obtain ⟨f1, f2, f3⟩ := fwN_ok h11 11 0 (by omega) (fun q hq => by omega)
      have hb : WW (lvS s.2.1 k) (XX s.2.1 k).1 (fwN (lvS s.2.1 k) (XX s.2.1 k).1 11 0) 0 < 2 ^ 31 := by
        have z1 := WW_le (lv := lvS s.2.1 k) w1 ((XX s.2.1 k).1.length + 1) 0 (fwN (lvS s.2.1 k) (XX s.2.1 k).1 11 0) (by omega) (wf_len w1)
        have z2 : 2 ^ pc (lvS s.2.1 k) (XX s.2.1 k).1 0 ≤ 2 ^ 10 := Nat.pow_le_pow_right (by omega) hp
        omega
      have hr1 : 1 ≤ fwN (lvS s.2.1 k) (XX s.2.1 k).1 11 0 := by
        rcases Nat.eq_zero_or_pos (fwN (lvS s.2.1 k) (XX s.2.1 k).1 11 0) with z | z
        · rw [z, WW_0] at f2; exact absurd rfl f2
        · exact z
      obtain ⟨u1, u2⟩ := few_loop w1 (hO d) f1 f2 f3 hb FU 1 (Nat.le_refl _) hr1 (by rw [FU_e]; omega)
      rw [f_Md_fewest, show f_Md_fewest_b2 FU 1 M2 = _ from u1, bd_s, bd_s, gd_of (inbT (by omega) (by omega)), ixN (by omega), u2]
      exact ⟨⟨M2, rfl, hR2, hF2⟩, ⟨M2, rfl, hR2, hF2⟩⟩
    · have c10 : ¬ nI (pairsS s.2.1 k) ≤ 10 := by rw [show (10 : Int32) = nI 10 from rfl]; exact nI_ge (by omega) (by omega)
      rw [if_neg c10, if_neg c10, if_neg d, if_neg d]
      exact ⟨⟨M2, rfl, hR2, hF2⟩, ⟨M2, rfl, hR2, hF2⟩⟩
  · rw [if_neg c, if_neg c, if_neg c, if_pos rfl, if_pos rfl]
    exact ⟨⟨M, rfl, h, OffR.rf⟩, ⟨M, rfl, h, OffR.rf⟩⟩
