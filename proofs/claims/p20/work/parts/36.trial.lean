/-! proved and ways, on the class's side -/
/-- how many orders of the node k do with p places -/
def wy (lv : Nd → Int32) (l : Fm) : Nat → Nat → Nat → Nat
  | 0, _, _ => 0
  | n + 1, p, k =>
    if p = 0 then 0
    else if ar (nd l k).1 = 0 then 1
    else if ar (nd l k).1 = 1 then wy lv l n p (k + 1)
    else wy lv l n p (k + 1) * wy lv l n (p - 1) (k + 1 + (tr lv l (k + 1)).1) + wy lv l n p (k + 1 + (tr lv l (k + 1)).1) * wy lv l n (p - 1) (k + 1)
theorem wy_fuel {lv : Nd → Int32} {l : Fm} (hw : wf l) : ∀ (n m k p : Nat), l.length - k ≤ n → l.length - k ≤ m → k < l.length → wy lv l n p k = wy lv l m p k := by
  intro n
  induction n with
  | zero => intro m k p h; omega
  | succ n ih =>
    intro m k p hn hm hk
    obtain ⟨m', rfl⟩ : ∃ m', m = m' + 1 := ⟨m - 1, by omega⟩
    rw [wy, wy]
    by_cases h0 : p = 0
    · rw [if_pos h0, if_pos h0]
    rw [if_neg h0, if_neg h0]
    rcases ar_cases (nd l k).1 with c | c | c
    · rw [if_pos c, if_pos c]
    · have c0 : ¬ ar (nd l k).1 = 0 := by omega
      rw [if_neg c0, if_neg c0, if_pos c, if_pos c]
      exact ih m' (k + 1) p (by omega) (by omega) (wf_1 hw hk c)
    · obtain ⟨h1, h2⟩ := wf_2 (lv := lv) hw hk c
      have c0 : ¬ ar (nd l k).1 = 0 := by omega
      have c1 : ¬ ar (nd l k).1 = 1 := by omega
      rw [if_neg c0, if_neg c0, if_neg c1, if_neg c1, ih m' (k + 1) p (by omega) (by omega) h1, ih m' (k + 1) (p - 1) (by omega) (by omega) h1, ih m' _ p (by omega) (by omega) h2, ih m' _ (p - 1) (by omega) (by omega) h2]
def WW (lv : Nd → Int32) (l : Fm) (p k : Nat) : Nat := wy lv l l.length p k
theorem WW_0 {lv : Nd → Int32} {l : Fm} {k : Nat} : WW lv l 0 k = 0 := by
  rw [WW]
  cases l.length with
  | zero => rfl
  | succ n => rw [wy, if_pos rfl]
theorem WW_f {lv : Nd → Int32} {l : Fm} (hw : wf l) {n p k : Nat} (hk : k < l.length) (hn : l.length - k ≤ n) : wy lv l n p k = WW lv l p k := wy_fuel hw _ _ _ _ hn (by omega) hk
theorem WW_a0 {lv : Nd → Int32} {l : Fm} {p k : Nat} (hk : k < l.length) (c : ar (nd l k).1 = 0) : WW lv l (p + 1) k = 1 := by
  rw [WW]
  obtain ⟨n, hn⟩ : ∃ n, l.length = n + 1 := ⟨l.length - 1, by omega⟩
  rw [hn, wy, if_neg (by omega), if_pos c]
theorem WW_a1 {lv : Nd → Int32} {l : Fm} (hw : wf l) {p k : Nat} (hk : k < l.length) (c : ar (nd l k).1 = 1) : WW lv l p k = WW lv l p (k + 1) := by
  cases p with
  | zero => rw [WW_0, WW_0]
  | succ p =>
    have h1 := wf_1 hw hk c
    rw [← WW_f hw hk (n := (l.length - 1) + 1) (by omega), wy, if_neg (by omega), if_neg (by omega), if_pos c]
    exact WW_f hw h1 (by omega)
theorem WW_a2 {lv : Nd → Int32} {l : Fm} (hw : wf l) {p k : Nat} (hk : k < l.length) (c : ar (nd l k).1 = 2) : WW lv l (p + 1) k = WW lv l (p + 1) (k + 1) * WW lv l p (k + 1 + (tr lv l (k + 1)).1) + WW lv l (p + 1) (k + 1 + (tr lv l (k + 1)).1) * WW lv l p (k + 1) := by
  obtain ⟨h1, h2⟩ := wf_2 (lv := lv) hw hk c
  rw [← WW_f hw hk (n := (l.length - 1) + 1) (by omega), wy, if_neg (by omega), if_neg (by omega), if_neg (by omega), WW_f hw h1 (by omega), WW_f hw h2 (by omega), WW_f hw h2 (by omega), WW_f hw h1 (by omega)]
  rfl
/-- nodes with two parts in a tree -/
def pc (lv : Nd → Int32) (l : Fm) (k : Nat) : Nat := ((l.drop k).take (tr lv l k).1).countP fun q => ar q.1 == 2
theorem drop_nd {l : Fm} {k : Nat} (h : k < l.length) : l.drop k = nd l k :: l.drop (k + 1) := by
  rw [List.drop_eq_getElem_cons h]
  simp [nd, h]
theorem pc_a0 {lv : Nd → Int32} {l : Fm} {k : Nat} (hk : k < l.length) (c : ar (nd l k).1 = 0) : pc lv l k = 0 := by
  rw [pc, tr_a0 hk c, drop_nd hk]
  simp [c]
theorem pc_a1 {lv : Nd → Int32} {l : Fm} {k : Nat} (hk : k < l.length) (c : ar (nd l k).1 = 1) : pc lv l k = pc lv l (k + 1) := by
  rw [pc, pc, tr_a1 hk c, drop_nd hk, List.take_succ_cons, List.countP_cons]
  simp [c]
theorem pc_a2 {lv : Nd → Int32} {l : Fm} {k : Nat} (hk : k < l.length) (c : ar (nd l k).1 = 2) : pc lv l k = pc lv l (k + 1) + pc lv l (k + 1 + (tr lv l (k + 1)).1) + 1 := by
  rw [pc, pc, pc, tr_a2 hk c, drop_nd hk, List.take_succ_cons, List.countP_cons, List.take_add, List.countP_append, List.drop_drop]
  simp [c]
theorem pc_0 {lv : Nd → Int32} {l : Fm} (hw : wf l) : pc lv l 0 = l.countP fun q => ar q.1 == 2 := by
  have h := tr_size (lv := lv) (l.length - 0 + 1) 0 [] (by omega) (wf_len hw) (by rw [List.drop_zero]; exact hw)
  rw [pc, List.drop_zero, List.take_of_length_le (by simp at h; omega)]
theorem WW_le {lv : Nd → Int32} {l : Fm} (hw : wf l) : ∀ (n k p : Nat), l.length - k < n → k < l.length → WW lv l p k ≤ 2 ^ pc lv l k := by
  intro n
  induction n with
  | zero => intro k p h; omega
  | succ n ih =>
    intro k p hn hk
    cases p with
    | zero => rw [WW_0]; exact Nat.zero_le _
    | succ p =>
      rcases ar_cases (nd l k).1 with c | c | c
      · rw [WW_a0 hk c]; exact Nat.one_le_two_pow
      · have h1 := wf_1 hw hk c
        rw [WW_a1 hw hk c, pc_a1 hk c]
        exact ih (k + 1) (p + 1) (by omega) h1
      · obtain ⟨h1, h2⟩ := wf_2 (lv := lv) hw hk c
        rw [WW_a2 hw hk c, pc_a2 hk c, Nat.pow_succ, Nat.pow_add, Nat.mul_two]
        have i1 := Nat.mul_le_mul (ih (k + 1) (p + 1) (by omega) h1) (ih (k + 1 + (tr lv l (k + 1)).1) p (by omega) h2)
        have i2 := Nat.mul_le_mul (ih (k + 1 + (tr lv l (k + 1)).1) (p + 1) (by omega) h2) (ih (k + 1) p (by omega) h1)
        rw [Nat.mul_comm (2 ^ pc lv l (k + 1 + (tr lv l (k + 1)).1))] at i2
        omega
theorem nI_mul (a b : Nat) : nI a * nI b = nI (a * b) := by
  simp only [nI]
  rw [← Int32.ofNat_mul]
theorem mcpy_ne {M : Mem} {a0 sp a1 dp n c : Nat} (h : c ≠ a1) : (mcpy M a0 sp a1 dp n).1 c = M.1 c := if_neg h
abbrev RT : Nat → Prop := fun a => 52 ≤ a ∧ a ≤ 54
/-- the rows for the ways -/
def WA (M : Mem) (a : Nat) (lv : Nd → Int32) (l : Fm) (p i : Nat) : Prop := ∀ k, i ≤ k → k < l.length → M.1 a k = nI (WW lv l p k)
theorem EL.offT {M M' : Mem} {e i : Nat} {lv : Nd → Int32} {l : Fm} (h : EL M e i lv l) (ho : Off RT M M') : EL M' e i lv l := by
  obtain ⟨h1, h2, h3, h4, h5⟩ := h
  refine ⟨h1, by rw [ho.1 e (fun q => by have : _ ∧ _ := q; omega)]; exact h2, h3.off ho (fun a ha q => by have : _ ∧ _ := q; rcases ha with w | w | w <;> omega), fun k hk => ?_, h5⟩
  rw [ho.1 (e + 4) (fun q => by have : _ ∧ _ := q; omega), ho.1 (e + 5) (fun q => by have : _ ∧ _ := q; omega)]
  exact h4 k hk
theorem waysFor_ok {M : Mem} {e i k p : Nat} {lv : Nd → Int32} {l : Fm} (hw : wf l) (hl : l.length ≤ 60) (hE : EL M e i lv l) (hk : k < l.length) (h3 : WA M 53 lv l (p + 1) (k + 1)) (h4 : WA M 54 lv l p 0) : f_Trial_waysFor e (nI k) M = some (nI (WW lv l (p + 1) k), M) := by
  obtain ⟨he, hi, hF, hT, -⟩ := hE
  have hf := tE1 he
  rw [f_Trial_waysFor, bi_e, nI_s, kindOf_ok hf hF (by omega), bd_s, partsOf_ok, bd_s]
  rcases ar_cases (nd l k).1 with c | c | c
  · rw [c, if_pos nI_0, WW_a0 hk c]; rfl
  · have h1 := wf_1 hw hk c
    rw [c, if_neg (by decide), if_pos (show nI 1 = 1 from rfl), entry_ok n53 (by omega) (by omega), bd_s, h3 (k + 1) (Nat.le_refl _) h1, WW_a1 hw hk c]
  · obtain ⟨h1, h2⟩ := wf_2 (lv := lv) hw hk c
    rw [c, if_neg (by decide), if_neg (by decide), rightOf_ok he (by omega) (hT (k + 1) h1).1, bd_s, entry_ok n53 (by omega) (by omega), bd_s, entry_ok n54 (by omega) (by omega), bd_s, bi_e, entry_ok n53 (by omega) (by omega), bd_s, entry_ok n54 (by omega) (by omega), bd_s, bi_e,
      h3 (k + 1) (Nat.le_refl _) h1, h4 _ (Nat.zero_le _) h2, h3 _ (by omega) h2, h4 (k + 1) (Nat.zero_le _) h1, nI_mul, nI_mul, nI_add, WW_a2 hw hk c]
theorem try84 {e i p : Nat} {lv : Nd → Int32} {l : Fm} {k26 : Nat → Mem → Option (Unit × Mem)} (hw : wf l) (hl : l.length ≤ 60) : ∀ (n j : Nat) (M : Mem), j ≤ l.length → j < n → EL M e i lv l → WA M 53 lv l (p + 1) j → WA M 54 lv l p 0 →
    ∃ M', f_Trial_tryOrders_b84 k26 n e (nI j - 1) M = k26 e M' ∧ WA M' 53 lv l (p + 1) 0 ∧ Off (fun a => a = 53) M M' := by
  intro n
  induction n with
  | zero => intro j M _ h; omega
  | succ n ih =>
    intro j M hj hn hE h3 h4
    rw [f_Trial_tryOrders_b84]
    cases j with
    | zero =>
      rw [if_pos (by decide)]
      exact ⟨M, rfl, h3, Off.rf⟩
    | succ j =>
      rw [nI_m1, if_neg (nI_pos (by omega)), waysFor_ok hw hl hE (by omega) h3 h4, bd_s, gd_of (inbT (by omega) (by omega)), bm_e, bi_e, ixN (by omega)]
      have e1 : nI j + (-1) = nI j - 1 := by grind
      have o1 : Off (fun a => a = 53) M (mset M 53 j (nI (WW lv l (p + 1) j))) := Off.set rfl
      obtain ⟨M1, r1, r2, r3⟩ := ih j (mset M 53 j (nI (WW lv l (p + 1) j))) (by omega) (by omega) (hE.offT (o1.mono (fun a q => by show _ ∧ _; omega)))
        (fun k hk1 hk2 => by
          by_cases c : k = j
          · subst c; simp [ms1]
          · simp only [ms1, if_true, if_neg c]; exact h3 k (by omega) hk2)
        (fun k hk1 hk2 => by rw [o1.1 54 (by omega)]; exact h4 k hk1 hk2)
      rw [e1]
      exact ⟨M1, r1, r2, o1.tr r3⟩
def fwN (lv : Nd → Int32) (l : Fm) : Nat → Nat → Nat
  | 0, p => p
  | n + 1, p => if 10 < p then p else if WW lv l p 0 = 0 then fwN lv l n (p + 1) else p
theorem try26 {e i : Nat} {lv : Nd → Int32} {l : Fm} (hw : wf l) (hl : l.length ≤ 60) (hp : pc lv l 0 ≤ 10) : ∀ (n m p : Nat) (M : Mem), p ≤ 11 → 11 - p < n → 11 - p ≤ m → EL M e i lv l → M.1 52 2 = nI p → WA M 53 lv l p 0 →
    ∃ M', f_Trial_tryOrders_b26 n e M = some ((), M') ∧ M'.1 52 2 = nI (fwN lv l m p) ∧ M'.1 53 0 = nI (WW lv l (fwN lv l m p) 0) ∧ Off RT M M' := by
  have h0 := wf_len hw
  intro n
  induction n with
  | zero => intro m p M _ h; omega
  | succ n ih =>
    intro m p M hp11 hn hm hE hpl h3
    rw [f_Trial_tryOrders_b26, hpl]
    by_cases c : 10 < p
    · have ef : fwN lv l m p = p := by
        cases m with
        | zero => rfl
        | succ m => rw [fwN, if_pos c]
      rw [if_pos (by rw [show (10 : Int32) = nI 10 from rfl]; exact nI_lt c (by omega)), ef]
      exact ⟨M, rfl, hpl, h3 0 (Nat.le_refl _) h0, Off.rf⟩
    · obtain ⟨m', rfl⟩ : ∃ m', m = m' + 1 := ⟨m - 1, by omega⟩
      have hW : WW lv l p 0 < 2 ^ 31 := by
        have h1 := WW_le (lv := lv) hw (l.length - 0 + 1) 0 p (by omega) h0
        have h2 : 2 ^ pc lv l 0 ≤ 2 ^ 10 := Nat.pow_le_pow_right (by omega) hp
        omega
      rw [if_neg (by rw [show (10 : Int32) = nI 10 from rfl]; exact nI_nlt (by omega) (by omega)), gd_of (by decide), show ix 0 = 0 from rfl, h3 0 (Nat.le_refl _) h0, fwN, if_neg c]
      by_cases d : WW lv l p 0 = 0
      · rw [if_pos (by rw [d]; rfl), if_pos d, bm_e, nI_s, gd_of (by decide), bm_e, show ix 60 = 60 from rfl]
        have o1 : Off RT M (mset M 52 2 (nI (p + 1))) := Off.set (by show _ ∧ _; omega)
        have o2 : Off RT (mset M 52 2 (nI (p + 1))) (mcpy (mset M 52 2 (nI (p + 1))) 53 0 54 0 60) := Off.cpy (by show _ ∧ _; omega)
        generalize hM2 : mcpy (mset M 52 2 (nI (p + 1))) 53 0 54 0 60 = M2 at o2
        have hE2 := (hE.offT o1).offT o2
        have x3 : M2.1 53 = M.1 53 := by subst hM2; rw [mcpy_ne (by omega)]; exact mset_ne (by omega)
        have x4 : ∀ k, k < 60 → M2.1 54 k = M.1 53 k := by
          intro k hk
          subst hM2
          rw [mc1, if_pos rfl, if_pos (by omega), mset_ne (by omega), Nat.sub_zero, Nat.zero_add]
        have x5 : M2.1 52 2 = nI (p + 1) := by
          subst hM2
          rw [mcpy_ne (by omega)]
          simp [ms1]
        have e1 : mnI (nI l.length) 60 = nI l.length := by
          rw [mnI, if_neg (by rw [show (60 : Int32) = nI 60 from rfl]; exact nI_nlt hl (by omega))]
        rw [hE2.2.2.1.1, e1, bi_e]
        obtain ⟨M3, r1, r2, r3⟩ := try84 (p := p) (k26 := f_Trial_tryOrders_b26 n) hw hl FU l.length M2 (Nat.le_refl _) (by rw [FU_e]; omega) hE2 (fun k h1 h2 => by omega) (fun k h1 h2 => by rw [x4 k (by omega)]; exact h3 k h1 h2)
        have o3 : Off RT M2 M3 := r3.mono (fun a q => by show _ ∧ _; omega)
        obtain ⟨M4, s1, s2, s3, s4⟩ := ih m' (p + 1) M3 (by omega) (by omega) (by omega) (hE2.offT o3) (by rw [r3.1 52 (by omega)]; exact x5) r2
        rw [r1]
        exact ⟨M4, s1, s2, s3, ((o1.tr o2).tr o3).tr s4⟩
      · rw [if_neg (by
          intro q
          exact d ((nI_eq hW (by omega)).mp (q.trans nI_0.symm))), if_neg d]
        exact ⟨M, rfl, hpl, h3 0 (Nat.le_refl _) h0, Off.rf⟩
theorem try7 {e : Nat} : ∀ (n j : Nat) (M : Mem), j ≤ 60 → 60 - j < n → (∀ k, k < j → M.1 53 k = 0) → ∃ M', f_Trial_tryOrders_b7 n e (nI j) M = f_Trial_tryOrders_b26 FU e M' ∧ (∀ k, k < 60 → M'.1 53 k = 0) ∧ Off (fun a => a = 53) M M' := by
  intro n
  induction n with
  | zero => intro j M _ h; omega
  | succ n ih =>
    intro j M hj hn h
    rw [f_Trial_tryOrders_b7]
    by_cases c : j = 60
    · subst c
      rw [if_pos (by decide)]
      exact ⟨M, rfl, h, Off.rf⟩
    · rw [if_neg (by rw [show (60 : Int32) = nI 60 from rfl]; exact nI_ge (by omega) (by omega)), gd_of (inbT (by omega) (by omega)), bm_e, bi_e, nI_s, ixN (by omega)]
      obtain ⟨M1, r1, r2, r3⟩ := ih (j + 1) (mset M 53 j 0) (by omega) (by omega) (fun k hk => by
        simp only [ms1, if_true]
        split
        · rfl
        · exact h k (by omega))
      exact ⟨M1, r1, r2, (Off.set (S := fun a => a = 53) rfl).tr r3⟩
theorem tryO_ok {M : Mem} {e i : Nat} {lv : Nd → Int32} {l : Fm} (hw : wf l) (hl : l.length ≤ 60) (hp : pc lv l 0 ≤ 10) (hE : EL M e i lv l) : ∃ M', f_Trial_tryOrders e M = some ((), M') ∧ M'.1 52 2 = nI (fwN lv l 11 0) ∧ M'.1 53 0 = nI (WW lv l (fwN lv l 11 0) 0) ∧ Off RT M M' := by
  rw [f_Trial_tryOrders, bm_e, ← nI_0]
  have o1 : Off RT M (mset M 52 2 (nI 0)) := Off.set (by show _ ∧ _; omega)
  obtain ⟨M1, r1, r2, r3⟩ := try7 (e := e) FU 0 (mset M 52 2 (nI 0)) (by omega) (by rw [FU_e]; omega) (fun k hk => by omega)
  have o2 : Off RT (mset M 52 2 (nI 0)) M1 := r3.mono (fun a q => by show _ ∧ _; omega)
  obtain ⟨M2, s1, s2, s3, s4⟩ := try26 hw hl hp FU 11 0 M1 (by omega) (by rw [FU_e]; omega) (by omega) ((hE.offT o1).offT o2) (by rw [r3.1 52 (by omega)]; simp [ms1]) (fun k h1 h2 => by rw [WW_0, r2 k (by omega)]; rfl)
  rw [r1]
  exact ⟨M2, s1, s2, s3, (o1.tr o2).tr s4⟩
theorem pairs_loop {M : Mem} {e i : Nat} {lv : Nd → Int32} {l : Fm} (hl : l.length ≤ 60) (hE : EL M e i lv l) : ∀ (n j : Nat), j ≤ l.length → l.length - j < n → f_Expanded_pairs_b4 n e (nI ((l.take j).countP fun q => ar q.1 == 2)) (nI j) M = some (nI (l.countP fun q => ar q.1 == 2), M) := by
  obtain ⟨he, hi, hF, hT, -⟩ := hE
  have hf := tE1 he
  intro n
  induction n with
  | zero => intro j _ h; omega
  | succ n ih =>
    intro j hj hn
    rw [f_Expanded_pairs_b4, hF.1]
    by_cases c : j = l.length
    · subst c
      rw [if_pos (nI_le (Nat.le_refl _) (by omega)), List.take_length]
    · have hj2 : j < l.length := by omega
      rw [if_neg (nI_ge hj2 (by omega)), kindOf_ok hf hF (by omega), bd_s, partsOf_ok, bd_s]
      have ihj := ih (j + 1) (by omega) (by omega)
      rw [tk_s hj2, List.countP_append, List.countP_singleton] at ihj
      have ha := ar_le (nd l j).1
      by_cases d : ar (nd l j).1 = 2
      · rw [if_pos (by simp [d])] at ihj
        rw [if_pos (by rw [d]; rfl), bi_e, bi_e, nI_s, nI_s]
        exact ihj
      · rw [if_neg (by simp [d]), Nat.add_zero] at ihj
        rw [if_neg (by
          intro q
          exact d ((nI_eq (by omega) (by omega)).mp (q.trans (show (2 : Int32) = nI 2 from rfl)))), bi_e, bi_e, nI_z, nI_s]
        exact ihj
def pairsS (st : St) (i : Nat) : Nat := (XX st i).1.countP fun q => ar q.1 == 2
def fwS (st : St) (i : Nat) : Nat := fwN (lvS st i) (XX st i).1 11 0
def a_proved (st : St) (x : Int32) : Int32 := if isF st.1 x = true then (if pairsS st (ix x) ≤ 10 then nI (fwS st (ix x)) else -1000009) else -1000001
def a_ways (st : St) (x : Int32) : Int32 := if isF st.1 x = true then (if pairsS st (ix x) ≤ 10 then nI (WW (lvS st (ix x)) (XX st (ix x)).1 (fwS st (ix x)) 0) else -1000009) else -1000001
theorem refusal_ok {M : Mem} {s : S3} (h : RepC M s) (hk : OKs s) (x : Int32) : f_LP_refusalToTry x M = some (if isF s.2.1.1 x = true then (if pairsS s.2.1 (ix x) ≤ 10 then 0 else -1000009) else -1000001, M) := by
  obtain ⟨-, hS, -, hE, h0⟩ := id h
  have hks := hk.2.2.1
  have h6 := hks.1.2
  rw [f_LP_refusalToTry, isFormula_ok hS hks, bd_s]
  by_cases c : isF s.2.1.1 x = true
  · rw [if_pos c, if_pos c, if_neg (by decide)]
    obtain ⟨k, rfl, hk1, hk2, hk3⟩ := isF_k c
    obtain ⟨w1, w2, -⟩ := XX_ok hks hk1
    have := pairs_loop w2 (EL_of hks hE h0 hk1) FU 0 (by omega) (by rw [FU_e]; omega)
    rw [gd_of (inbT (by omega) (by omega)), hk3, f_Expanded_pairs, show f_Expanded_pairs_b4 FU (160 + 8 * k) 0 0 M = _ from this, bd_s]
    have hle : (XX s.2.1 k).1.countP (fun q => ar q.1 == 2) ≤ 60 := Nat.le_trans List.countP_le_length w2
    by_cases d : pairsS s.2.1 k ≤ 10
    · rw [if_pos d, if_pos (by rw [show (10 : Int32) = nI 10 from rfl]; exact nI_le d (by omega))]
    · rw [if_neg d, if_neg (by rw [show (10 : Int32) = nI 10 from rfl]; exact nI_ge (Nat.lt_of_not_le d) (by omega))]
  · rw [if_neg c, if_neg c, if_pos rfl]
theorem c_proved {M : Mem} {s : S3} (h : RepC M s) (hk : OKs s) (x : Int32) : ∃ M', f_LP_proved x M = some (a_proved s.2.1 x, M') ∧ RepC M' s ∧ OffC M M' := by
  obtain ⟨-, hS, -, hE, h0⟩ := id h
  have hks := hk.2.2.1
  have h6 := hks.1.2
  rw [f_LP_proved, refusal_ok h hk, bd_s, a_proved]
  by_cases c : isF s.2.1.1 x = true
  · rw [if_pos c, if_pos c]
    obtain ⟨k, rfl, hk1, hk2, hk3⟩ := isF_k c
    rw [hk3]
    by_cases d : pairsS s.2.1 k ≤ 10
    · obtain ⟨w1, w2, -⟩ := XX_ok hks hk1
      obtain ⟨M1, e1, e2, e3, o1⟩ := tryO_ok w1 w2 (by rw [pc_0 w1]; exact d) (EL_of hks hE h0 hk1)
      have o2 : Off RPT M M1 := o1.mono (fun a q => by have : _ ∧ _ := q; show _ ∧ _; omega)
      rw [if_pos d, if_pos rfl, gd_of (inbT (by omega) (by omega)), e1, bd_s, e2, if_pos d]
      exact ⟨M1, rfl, h.off hk o2, RPT_C o2⟩
    · have hz : ¬ ((-1000009 : Int32) = 0) := by decide
      rw [if_neg d, if_neg hz, if_neg d]
      exact ⟨M, rfl, h, OffC.rf⟩
  · rw [if_neg c, if_neg c, if_neg (by decide)]
    exact ⟨M, rfl, h, OffC.rf⟩
