/-! low, put, grow -/
theorem low_ok (v : Int32) {n : Nat} (h0 : 0 < n) (hn : n < 2 ^ 31) (M : Mem) : ∃ r, r < n ∧ f_L_low v (nI n) M = some (nI r, M) := by
  obtain ⟨j, h1, h2⟩ := pk_andE v (m := 2147483647) 31 (by decide +kernel)
  refine ⟨j % n, Nat.mod_lt _ h0, ?_⟩
  have hz : nz (nI n) = true := by
    rw [nz, Bool.not_eq_true', decide_eq_false_iff_not]
    exact nI_ne0 h0 hn
  rw [f_L_low, gd_of hz, h2, pk_rem h1 h0 hn]
theorem lput_ok {s : S3} {at1 : Nat} {c : Int32} {M : Mem} (hC : RepC M s) (hO : OKs s) (hr : LR M at1 1) (hv : M.1 at1 0 = nI s.1.length) (h1 : ¬ c < 1) (h2 : c ≤ 255) (hl : s.1.length < 100) :
    ∃ M', f_L_put at1 c M = some (1, M') ∧ RepC M' (s.1 ++ [c], s.2) ∧ OKs (s.1 ++ [c], s.2) ∧ M'.1 at1 0 = nI (s.1.length + 1) ∧ FrL (fun a => a = at1) 0 0 M M' := by
  have g0 : lx M at1 0 = true := lx_0 hr (by omega) (by omega)
  have hF1 : FrL (fun a => a = at1) 0 0 M (mset M at1 0 (nI (s.1.length + 1))) := FrL.rf.set (Or.inl rfl)
  have hC1 : RepC (mset M at1 0 (nI (s.1.length + 1))) s := hC.ck hO (CK.rf.set hr.1)
  obtain ⟨M2, e1, e2, e3⟩ := c_append hC1 hO c
  have hsp : sp_append c s = (nI (s.1.length + 1), (s.1 ++ [c], s.2)) := by rw [sp_append, if_neg h1, if_pos h2, if_pos hl]
  have hO2 := oks_append hO c
  rw [hsp] at e1 e2 hO2
  have hr2 : LR M2 at1 1 := hr.set.fr e3.fr (S := fun _ => False)
  have hv2 : M2.1 at1 0 = nI (s.1.length + 1) := by
    rw [e3.1 at1 hr.1, ms_eq]
  refine ⟨M2, ?_, e2, hO2, hv2, hF1.tr (e3.fr (S := fun a => a = at1)) (fun a h => Or.inl h)⟩
  rw [f_L_put, gd_of g0, gd_of g0, bm_e, show ix 0 = 0 from rfl, hv, nI_s, bk_ok e1 e3, gd_of (lx_0 hr2 (by omega) (by omega)), hv2, if_pos rfl]
  rfl
/-- a node of the heap -/
def HN (lv D kn : Nat) (kd ho : Int32) : Prop := ((kd = 3 ∨ kd = 4 ∨ kd = 5 ∨ kd = 6) ∧ lv < D ∧ ho = -1000009) ∨ (kd = 0 ∧ ∃ h, h < 40 ∧ ho = nI h) ∨ (kd = 1 ∧ ∃ c, c < 8 ∧ ho = nI c) ∨ (kd = 2 ∧ ∃ c, c < kn ∧ ho = nI c)
def lev (p : Nat) : Nat := if p = 0 then 0 else if p < 3 then 1 else if p < 7 then 2 else 3
def KO (lv D kn : Nat) (kd : Int32) : Prop := ((kd = 3 ∨ kd = 4 ∨ kd = 5 ∨ kd = 6) ∧ lv < D) ∨ kd = 0 ∨ kd = 1 ∨ (kd = 2 ∧ 0 < kn)
section GR
variable {k3 : Nat → Nat → Int32 → Int32 → Int32 → Int32 → Mem → Option (Unit × Mem)} {a0 a1 D kn r lv : Nat} {x2 : Int32}
theorem b166_ok {x5 : Int32} {M : Mem} (hr : r < 100000) : ∃ kd, KO lv D kn kd ∧ f_L_grow_b166 k3 a0 a1 x2 (nI D) (nI kn) x5 (nI r) x5 a0 M = f_L_grow_b170 k3 a0 a1 x2 (nI D) (nI kn) x5 (nI r) kd x5 a0 M := by
  have e : nI r - nI r / 2 * 2 = nI (r % 2) := pk_rem (d := 2) (by omega) (by omega) (by omega)
  rw [f_L_grow_b166, e]
  refine ⟨nI (r % 2), ?_, rfl⟩
  rcases (show r % 2 = 0 ∨ r % 2 = 1 by omega) with q | q
  · rw [q]; exact Or.inr (Or.inl rfl)
  · rw [q]; exact Or.inr (Or.inr (Or.inl rfl))
theorem b61_ok {x5 : Int32} {M : Mem} (hr : r < 100000) (hD : D ≤ 3) (hlv : lv ≤ 3) (hkn : kn ≤ 5) : ∃ kd, KO lv D kn kd ∧ f_L_grow_b61 k3 a0 a1 x2 (nI D) (nI kn) x5 (nI r) (nI lv) M = f_L_grow_b170 k3 a0 a1 x2 (nI D) (nI kn) x5 (nI r) kd x5 a0 M := by
  have e4 : nI r - nI r / 4 * 4 = nI (r % 4) := pk_rem (d := 4) (by omega) (by omega) (by omega)
  have h103 : ∀ y, ∃ kd, KO lv D kn kd ∧ f_L_grow_b103 k3 a0 a1 x2 (nI D) (nI kn) x5 (nI r) y M = f_L_grow_b170 k3 a0 a1 x2 (nI D) (nI kn) x5 (nI r) kd x5 a0 M := by
    intro y
    rw [f_L_grow_b103, f_L_grow_b104, if_pos rfl]
    by_cases c : kn = 0
    · subst c
      rw [if_pos (by decide +kernel)]
      exact b166_ok hr
    · rw [if_neg (nI_nle (by omega) (by omega)), e4]
      by_cases d : r % 4 = 1
      · rw [d, if_pos (show nI 1 = 1 from rfl)]
        exact ⟨2, Or.inr (Or.inr (Or.inr ⟨rfl, by omega⟩)), rfl⟩
      · rw [if_neg (show ¬ nI (r % 4) = 1 from fun q => d ((nI_eq (b := 1) (by omega) (by omega)).mp q))]
        exact b166_ok hr
  have h99 : lv < D → ∀ y, ∃ kd, KO lv D kn kd ∧ f_L_grow_b99 k3 a0 a1 x2 (nI D) (nI kn) x5 (nI r) y M = f_L_grow_b170 k3 a0 a1 x2 (nI D) (nI kn) x5 (nI r) kd x5 a0 M := by
    intro hl y
    rw [f_L_grow_b99, f_L_grow_b104, if_neg (by decide)]
    by_cases c1 : 1 ≤ y
    · rw [if_pos c1]
      by_cases c3 : 3 ≤ y
      · rw [if_pos c3]
        by_cases c5 : 5 ≤ y
        · rw [if_pos c5]
          exact ⟨6, Or.inl ⟨Or.inr (Or.inr (Or.inr rfl)), hl⟩, rfl⟩
        · rw [if_neg c5]
          exact ⟨5, Or.inl ⟨Or.inr (Or.inr (Or.inl rfl)), hl⟩, rfl⟩
      · rw [if_neg c3]
        exact ⟨4, Or.inl ⟨Or.inr (Or.inl rfl), hl⟩, rfl⟩
    · rw [if_neg c1]
      exact ⟨3, Or.inl ⟨Or.inl rfl, hl⟩, rfl⟩
  rw [f_L_grow_b61, bi_e]
  by_cases c : D ≤ lv
  · rw [if_pos (nI_le c (by omega))]
    exact h103 _
  · rw [if_neg (nI_ge (by omega) (by omega))]
    split
    · split
      · exact h103 _
      · exact h99 (by omega) _
    · split
      · exact h103 _
      · exact h99 (by omega) _
theorem b170_ok {k : Nat} {kd : Int32} {M : Mem} (hk : k < 15) (hr : r < 100000) (hkn : kn ≤ 5) (hK : KO lv D kn kd) (r0 : LR M a0 16) (r1 : LR M a1 16) (hne : a0 ≠ a1) :
    ∃ M' ho, f_L_grow_b170 k3 a0 a1 x2 (nI D) (nI kn) (nI k) (nI r) kd (nI k) a0 M = k3 a0 a1 x2 (nI D) (nI kn) (nI (k + 1)) M' ∧ HN lv D kn kd ho ∧ (∀ p, M'.1 a0 p = if p = k then kd else M.1 a0 p) ∧ (∀ p, M'.1 a1 p = if p = k then ho else M.1 a1 p) ∧ FrL (K2 a0 a1) 0 0 M M' ∧ CK M M' := by
  have g0 : lx M a0 (nI k) = true := lx_ok r0 (by omega) (by omega)
  have g01 : lx (mset M a0 k kd) a0 (nI k) = true := lx_ok r0.set (by omega) (by omega)
  have g11 : lx (mset M a0 k kd) a1 (nI k) = true := lx_ok r1.set (by omega) (by omega)
  have ik : ix (nI k) = k := ixN (by omega)
  have fin : ∀ hz : Int32, HN lv D kn kd hz → ∃ M' ho, k3 a0 a1 x2 (nI D) (nI kn) (nI (k + 1)) (mset (mset M a0 k kd) a1 k hz) = k3 a0 a1 x2 (nI D) (nI kn) (nI (k + 1)) M' ∧ HN lv D kn kd ho ∧ (∀ p, M'.1 a0 p = if p = k then kd else M.1 a0 p) ∧ (∀ p, M'.1 a1 p = if p = k then ho else M.1 a1 p) ∧ FrL (K2 a0 a1) 0 0 M M' ∧ CK M M' := by
    intro hz hH
    refine ⟨_, hz, rfl, hH, fun p => by rw [ms_a hne, ms_k'], fun p => by rw [ms_k', ms_a (Ne.symm hne)], (FrL.rf.set (Or.inl (Or.inl rfl))).set (Or.inl (Or.inr rfl)), (CK.rf.set r0.1).set r1.1⟩
  have e10 : nI r / 10 = nI (r / 10) := pk_div (d := 10) (by omega) (by omega) (by omega)
  have hr10 : r / 10 < 2 ^ 31 := by omega
  rw [f_L_grow_b170, gd_of g0, bm_e, ik, gd_of g01, ms_eq, gd_of g11, gd_of g01, gd_of g11, gd_of g01, gd_of g11, gd_of g11, bm_e, bm_e, bm_e, bm_e, bi_e, bi_e, bi_e, bi_e, nI_s, e10]
  rcases hK with ⟨q, hl⟩ | q | q | ⟨q, hq⟩
  · have n0 : ¬ kd = 0 := by rcases q with q | q | q | q <;> rw [q] <;> decide
    have n1 : ¬ kd = 1 := by rcases q with q | q | q | q <;> rw [q] <;> decide
    have n2 : ¬ kd = 2 := by rcases q with q | q | q | q <;> rw [q] <;> decide
    rw [if_neg n0, if_neg n1, if_neg n2]
    exact fin _ (Or.inl ⟨q, hl, rfl⟩)
  · have e : nI (r / 10) - nI (r / 10) / 40 * 40 = nI (r / 10 % 40) := pk_rem (d := 40) hr10 (by omega) (by omega)
    rw [if_pos q, e]
    exact fin _ (Or.inr (Or.inl ⟨q, _, Nat.mod_lt _ (by omega), rfl⟩))
  · have e : nI (r / 10) - nI (r / 10) / 8 * 8 = nI (r / 10 % 8) := pk_rem (d := 8) hr10 (by omega) (by omega)
    rw [if_neg (by rw [q]; decide), if_pos q, e]
    exact fin _ (Or.inr (Or.inr (Or.inl ⟨q, _, Nat.mod_lt _ (by omega), rfl⟩)))
  · have e : nI (r / 10) - nI (r / 10) / nI kn * nI kn = nI (r / 10 % kn) := pk_rem hr10 hq (by omega)
    have hz : nz (nI kn) = true := by
      rw [nz, Bool.not_eq_true', decide_eq_false_iff_not]
      exact nI_ne0 hq (by omega)
    rw [if_neg (by rw [q]; decide), if_neg (by rw [q]; decide), if_pos q, gd_of hz, e]
    exact fin _ (Or.inr (Or.inr (Or.inr ⟨q, _, Nat.mod_lt _ hq, rfl⟩)))
/-- the heap's rows -/
def HP (M : Mem) (a0 a1 D kn k : Nat) : Prop := ∀ p, p < k → HN (lev p) D kn (M.1 a0 p) (M.1 a1 p)
theorem grow_loop (hD : D ≤ 3) (hkn : kn ≤ 5) (hne : a0 ≠ a1) : ∀ (fu k : Nat) (M : Mem), k ≤ 15 → 15 - k < fu → LR M a0 16 → LR M a1 16 → HP M a0 a1 D kn k →
    ∃ M', f_L_grow_b3 fu a0 a1 x2 (nI D) (nI kn) (nI k) M = some ((), M') ∧ HP M' a0 a1 D kn 15 ∧ FrL (K2 a0 a1) 0 0 M M' ∧ CK M M' := by
  intro fu
  induction fu with
  | zero => intro k M _ h; omega
  | succ fu ih =>
    intro k M hk hfu r0 r1 hH
    rw [f_L_grow_b3]
    by_cases c : k = 15
    · subst c
      rw [if_pos (by decide +kernel)]
      exact ⟨M, rfl, hH, FrL.rf, CK.rf⟩
    · have hz : nz (nI k + 3) = true := by
        rw [nz, Bool.not_eq_true', decide_eq_false_iff_not, show (3 : Int32) = nI 3 from rfl, nI_add]
        exact nI_ne0 (by omega) (by omega)
      obtain ⟨r, hr, er⟩ := low_ok ((x2 / (nI k + 3)) + (7919 * nI k)) (n := 100000) (by omega) (by omega) M
      have er' : f_L_low ((x2 / (nI k + 3)) + (7919 * nI k)) 100000 M = some (nI r, M) := er
      rw [if_neg (by rw [show (15 : Int32) = nI 15 from rfl]; exact nI_ge (by omega) (by omega)), gd_of hz, er', bd_s]
      have go : ∃ M', f_L_grow_b61 (f_L_grow_b3 fu) a0 a1 x2 (nI D) (nI kn) (nI k) (nI r) (nI (lev k)) M = some ((), M') ∧ HP M' a0 a1 D kn 15 ∧ FrL (K2 a0 a1) 0 0 M M' ∧ CK M M' := by
        obtain ⟨kd, hK, e1⟩ := b61_ok (k3 := f_L_grow_b3 fu) (a0 := a0) (a1 := a1) (D := D) (kn := kn) (r := r) (lv := lev k) (x2 := x2) (x5 := nI k) (M := M) hr hD (by rw [lev]; split; omega; split; omega; split <;> omega) hkn
        obtain ⟨M1, ho, j1, j2, j3, j4, j5, j6⟩ := b170_ok (k3 := f_L_grow_b3 fu) (x2 := x2) (lv := lev k) (D := D) (show k < 15 by omega) hr hkn hK r0 r1 hne
        obtain ⟨M2, i1, i2, i3, i4⟩ := ih (k + 1) M1 (by omega) (by omega) (r0.fr j5) (r1.fr j5) (fun p hp => by
          rw [j3 p, j4 p]
          by_cases q : p = k
          · rw [if_pos q, if_pos q, q]; exact j2
          · rw [if_neg q, if_neg q]; exact hH p (by omega))
        exact ⟨M2, by rw [e1, j1]; exact i1, i2, j5.tr i3 (fun a h => Or.inl h), j6.tr i4⟩
      by_cases c0 : k = 0
      · subst c0
        rw [if_pos (by decide +kernel)]
        exact go
      · rw [if_neg (nI_ne0 (by omega) (by omega)), show (3 : Int32) = nI 3 from rfl, show (7 : Int32) = nI 7 from rfl]
        by_cases c3 : 3 ≤ k
        · rw [if_pos (nI_le c3 (by omega))]
          by_cases c7 : 7 ≤ k
          · have e : lev k = 3 := by rw [lev, if_neg c0, if_neg (by omega), if_neg (by omega)]
            rw [if_pos (nI_le c7 (by omega))]
            rw [e] at go
            exact go
          · have e : lev k = 2 := by rw [lev, if_neg c0, if_neg (by omega), if_pos (by omega)]
            rw [if_neg (nI_ge (by omega) (by omega))]
            rw [e] at go
            exact go
        · have e : lev k = 1 := by rw [lev, if_neg c0, if_pos (by omega)]
          rw [if_neg (nI_ge (by omega) (by omega))]
          rw [e] at go
          exact go
theorem grow_ok {M : Mem} (hD : D ≤ 3) (hkn : kn ≤ 5) (hne : a0 ≠ a1) (r0 : LR M a0 16) (r1 : LR M a1 16) :
    ∃ M', f_L_grow a0 a1 x2 (nI D) (nI kn) M = some ((), M') ∧ HP M' a0 a1 D kn 15 ∧ FrL (K2 a0 a1) 0 0 M M' ∧ CK M M' :=
  grow_loop hD hkn hne FU 0 M (Nat.zero_le _) (by rw [FU_e]; omega) r0 r1 (fun p hp => absurd hp (Nat.not_lt_zero _))
end GR
