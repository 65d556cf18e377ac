/-! what the calls answer: the looking ones, on the class's side -/
/-- text, state, history -/
abbrev S3 : Type := List Int32 × St × List St
def RepC (M : Mem) (s : S3) : Prop := (M.1 1 1 = nI s.1.length ∧ ∀ i, i < s.1.length → M.1 2 i = s.1.getD i 0) ∧ SA M 24 s.2.1 ∧ HistC M s.2.2 ∧ EXA M s.2.1 ∧ EX0 M
def OKs (s : S3) : Prop := s.1.length ≤ 100 ∧ (∀ c ∈ s.1, 1 ≤ c ∧ c ≤ 255) ∧ OKS s.2.1.1 ∧ (∀ q ∈ s.2.2, OKS q.1) ∧ s.2.2.length ≤ 5
def sumN (f : Nat → Nat) : Nat → Nat
  | 0 => 0
  | n + 1 => sumN f n + f n
def maxN (f : Nat → Nat) : Nat → Nat
  | 0 => 0
  | n + 1 => max (maxN f n) (f n)
def isF (fs : List Fm) (x : Int32) : Bool := !decide (x < 0) && decide (ix x < fs.length)
def need0 (st : St) (i : Nat) : Nat := (tr (lvS st i) (XX st i).1 0).2.1
def chN (st : St) (i : Nat) : Nat := if (XX st i).2.1 = true then 1 else 0
def useN (st : St) (f : Int32) (i : Nat) : Nat := (XX st i).1.countP fun q => q.1 == 2 && q.2 == f
def a_count (s : S3) (x : Int32) : Int32 :=
  if x = 0 then nI s.2.1.1.length
  else if x = 1 then nI (sumN (chN s.2.1) s.2.1.1.length)
  else if x = 2 then nI (sumN (fun i => (gf s.2.1.1 i).length) s.2.1.1.length)
  else if x = 3 then s.2.1.2.2
  else if x = 4 then nI (maxN (fun i => if (XX s.2.1 i).2.1 = true then 0 else need0 s.2.1 i) s.2.1.1.length)
  else if x = 5 then nI s.2.2.length
  else if x = 6 then nI s.1.length
  else -1000001
def a_formula (st : St) (x w : Int32) : Int32 :=
  if isF st.1 x = true then
    if w = 0 then nI (gf st.1 (ix x)).length
    else if w = 1 then nI (XX st (ix x)).1.length
    else if w = 2 then nI (need0 st (ix x))
    else if w = 3 then (if (XX st (ix x)).2.1 = true then 1 else 0)
    else if w = 4 then (XX st (ix x)).2.2
    else if w = 5 then nI (tr (lvS st (ix x)) (XX st (ix x)).1 0).2.2.1
    else if w = 6 then nI (sumN (useN st x) st.1.length)
    else -1000001
  else -1000001
def a_node (st : St) (x n w : Int32) : Int32 :=
  if isF st.1 x = true then
    if (!decide (n < 0) && decide (ix n < (XX st (ix x)).1.length)) = true then
      if w = 0 then (nd (XX st (ix x)).1 (ix n)).1
      else if w = 1 then (if ar (nd (XX st (ix x)).1 (ix n)).1 = 0 then (nd (XX st (ix x)).1 (ix n)).2 else -1000009)
      else if w = 2 then (if ar (nd (XX st (ix x)).1 (ix n)).1 = 0 then -1000009 else n + 1)
      else if w = 3 then (if ar (nd (XX st (ix x)).1 (ix n)).1 ≤ 1 then -1000009 else nI (ix n + 1 + (tr (lvS st (ix x)) (XX st (ix x)).1 (ix n + 1)).1))
      else if w = 4 then nI (tr (lvS st (ix x)) (XX st (ix x)).1 (ix n)).2.1
      else if w = 5 then nI (tr (lvS st (ix x)) (XX st (ix x)).1 (ix n)).1
      else if w = 6 then (tr (lvS st (ix x)) (XX st (ix x)).1 (ix n)).2.2.2
      else -1000001
    else -1000001
  else -1000001
theorem l6 : (6 : Int32) = nI 6 := rfl
theorem l8 : (8 : Int32) = nI 8 := rfl
theorem XX_ok {st : St} (hk : OKS st.1) {i : Nat} (hi : i < st.1.length) : wf (XX st i).1 ∧ (XX st i).1.length ≤ 60 ∧ (∀ q ∈ (XX st i).1, okN i q) ∧ ((XX st i).2.1 = true → (XX st i).1.length ≤ 3 ∧ ∀ q ∈ (XX st i).1, ¬ q.1 = 2 ∧ ¬ q.1 = 6) := (mkX_ok hk (cells := st.2.1) i hi).2
theorem isFormula_ok {M : Mem} {st : St} {x : Int32} (hS : SA M 24 st) (hk : OKS st.1) : f_LP_isFormula x M = some (if isF st.1 x = true then 1 else 0, M) := by
  have h6 := hk.1.2
  rw [f_LP_isFormula, hS.1]
  simp only [isB0, isB1, gd_t]
  by_cases c : x < 0
  · rw [if_pos c, if_neg (by simp [isF, c])]
  · obtain ⟨k, rfl, hk31⟩ := nonneg_nI c
    rw [if_neg c]
    by_cases d : k < st.1.length
    · rw [if_neg (nI_ge d (by omega)), if_neg (by rw [l6]; exact nI_ge (by omega) (by omega)), if_pos (by simp [isF, c, ixN hk31, d])]
    · rw [if_pos (nI_le (by omega) hk31), if_neg (by simp [isF, c, ixN hk31]; omega)]
theorem isF_k {fs : List Fm} {x : Int32} (h : isF fs x = true) : ∃ k, x = nI k ∧ k < fs.length ∧ k < 2 ^ 31 ∧ ix x = k := by
  simp only [isF, Bool.and_eq_true, Bool.not_eq_true', decide_eq_false_iff_not, decide_eq_true_eq] at h
  obtain ⟨k, rfl, hk⟩ := nonneg_nI h.1
  exact ⟨k, rfl, by rw [ixN hk] at h; exact h.2, hk, ixN hk⟩
theorem nI_z (a : Nat) : nI a + 0 = nI a := by grind
theorem cheapD_loop {M : Mem} {st : St} (hk : OKS st.1) (hS : SA M 24 st) (hE : EXA M st) : ∀ (n j : Nat), j ≤ st.1.length → st.1.length - j < n → f_LP_cheapDefinitions_b4 n (nI (sumN (chN st) j)) (nI j) M = some (nI (sumN (chN st) st.1.length), M) := by
  have h6 := hk.1.2
  intro n
  induction n with
  | zero => intro j _ h; omega
  | succ n ih =>
    intro j hj hn
    rw [f_LP_cheapDefinitions_b4, hS.1]
    by_cases c : j = st.1.length
    · subst c
      rw [if_pos (nI_le (Nat.le_refl _) (by omega))]
    · have hj6 : j < st.1.length := by omega
      rw [if_neg (nI_ge hj6 (by omega)), if_neg (by rw [l6]; exact nI_ge (by omega) (by omega)), gd_of (inbT (by omega) (by omega)), ixN (by omega), (hE j hj6).2.1]
      by_cases d : (XX st j).2.1 = true
      · rw [if_pos d, if_neg (by decide), bi_e, bi_e, nI_s, nI_s, ← ih (j + 1) (by omega) (by omega)]
        congr 2
        rw [sumN, chN, if_pos d]
      · rw [if_neg d, if_pos rfl, bi_e, bi_e, nI_s, nI_z, ← ih (j + 1) (by omega) (by omega)]
        congr 2
        rw [sumN, chN, if_neg d]; rfl
theorem nodes_loop {M : Mem} {st : St} (hk : OKS st.1) (hS : SA M 24 st) : ∀ (n j : Nat), j ≤ st.1.length → st.1.length - j < n → f_LP_nodesAsRead_b4 n (nI (sumN (fun i => (gf st.1 i).length) j)) (nI j) M = some (nI (sumN (fun i => (gf st.1 i).length) st.1.length), M) := by
  have h6 := hk.1.2
  intro n
  induction n with
  | zero => intro j _ h; omega
  | succ n ih =>
    intro j hj hn
    rw [f_LP_nodesAsRead_b4, hS.1]
    by_cases c : j = st.1.length
    · subst c
      rw [if_pos (nI_le (Nat.le_refl _) (by omega))]
    · have hj6 : j < st.1.length := by omega
      rw [if_neg (nI_ge hj6 (by omega)), if_neg (by rw [l6]; exact nI_ge (by omega) (by omega)), gd_of (inbT (by omega) (by omega)), ixN (by omega), bi_e, bi_e, nI_s, (hS.2.1 j hj6).1, nI_add, ← ih (j + 1) (by omega) (by omega)]
      rfl
theorem need_b {st : St} (hk : OKS st.1) {i : Nat} (hi : i < st.1.length) : need0 st i ≤ 60 := by
  obtain ⟨w1, w2, -⟩ := XX_ok hk hi
  have h1 := tr_le (lv := lvS st i) (l := (XX st i).1) ((XX st i).1.length - 0 + 1) 0 (by omega)
  have h2 := wf_size (lv := lvS st i) w1 (wf_len w1)
  rw [need0]
  omega
theorem maxN_le {f : Nat → Nat} {b : Nat} : ∀ n, (∀ i, i < n → f i ≤ b) → maxN f n ≤ b
  | 0, _ => Nat.zero_le _
  | n + 1, h => by
    rw [maxN]
    have h1 := maxN_le n (fun i hi => h i (by omega))
    have h2 := h n (by omega)
    omega
theorem needOf0 {M : Mem} {st : St} (hk : OKS st.1) (hE : EXA M st) {i : Nat} (hi : i < st.1.length) : f_Expanded_needOf (160 + 8 * i) 0 M = some (nI (need0 st i), M) := by
  have h6 := hk.1.2
  rw [← nI_0, needOf_ok (sh_E8 (by omega)) (by omega), ((hE i hi).2.2 0 (by omega) (wf_len (XX_ok hk hi).1)).2.1]
  rfl
theorem great_loop {M : Mem} {st : St} (hk : OKS st.1) (hS : SA M 24 st) (hE : EXA M st) : ∀ (n j : Nat), j ≤ st.1.length → st.1.length - j < n → f_LP_greatestNeed_b4 n (nI (maxN (fun i => if (XX st i).2.1 = true then 0 else need0 st i) j)) (nI j) M = some (nI (maxN (fun i => if (XX st i).2.1 = true then 0 else need0 st i) st.1.length), M) := by
  have h6 := hk.1.2
  intro n
  induction n with
  | zero => intro j _ h; omega
  | succ n ih =>
    intro j hj hn
    rw [f_LP_greatestNeed_b4, hS.1]
    by_cases c : j = st.1.length
    · subst c
      rw [if_pos (nI_le (Nat.le_refl _) (by omega))]
    · have hj6 : j < st.1.length := by omega
      rw [if_neg (nI_ge hj6 (by omega)), if_neg (by rw [l6]; exact nI_ge (by omega) (by omega)), gd_of (inbT (by omega) (by omega)), ixN (by omega), (hE j hj6).2.1]
      by_cases d : (XX st j).2.1 = true
      · rw [if_pos d, if_neg (by decide), bi_e, nI_s, ← ih (j + 1) (by omega) (by omega)]
        congr 2
        rw [maxN, if_pos d, Nat.max_eq_left (Nat.zero_le _)]
      · have hb : maxN (fun i => if (XX st i).2.1 = true then 0 else need0 st i) j ≤ 60 := maxN_le j (fun i hi => by
          split
          · omega
          · exact need_b hk (by omega))
        rw [if_neg d, if_pos rfl, gd_of (inbT (by omega) (by omega)), needOf0 hk hE hj6, bd_s, bi_e, bi_e, nI_s, mxI_n (by omega) (by have := need_b hk hj6; omega), ← ih (j + 1) (by omega) (by omega)]
        congr 2
        rw [maxN, if_neg d]
theorem c_count {M : Mem} {s : S3} (h : RepC M s) (hk : OKs s) (x : Int32) : f_LP_count x M = some (a_count s x, M) := by
  obtain ⟨⟨t1, -⟩, hS, hH, hE, h0⟩ := h
  have hks := hk.2.2.1
  have h6 := hks.1.2
  rw [f_LP_count, a_count]
  by_cases c0 : x = 0
  · rw [if_pos c0, if_pos c0, hS.1]
  rw [if_neg c0, if_neg c0]
  by_cases c1 : x = 1
  · rw [if_pos c1, if_pos c1, f_LP_cheapDefinitions]
    have := cheapD_loop hks hS hE FU 0 (by omega) (by rw [FU_e]; omega)
    rw [show f_LP_cheapDefinitions_b4 FU 0 0 M = some (nI (sumN (chN s.2.1) s.2.1.1.length), M) from this, bd_s]
  rw [if_neg c1, if_neg c1]
  by_cases c2 : x = 2
  · rw [if_pos c2, if_pos c2, f_LP_nodesAsRead]
    have := nodes_loop hks hS FU 0 (by omega) (by rw [FU_e]; omega)
    rw [show f_LP_nodesAsRead_b4 FU 0 0 M = some (nI (sumN (fun i => (gf s.2.1.1 i).length) s.2.1.1.length), M) from this, bd_s]
  rw [if_neg c2, if_neg c2]
  by_cases c3 : x = 3
  · rw [if_pos c3, if_pos c3, hS.2.2.2]
  rw [if_neg c3, if_neg c3]
  by_cases c4 : x = 4
  · rw [if_pos c4, if_pos c4, f_LP_greatestNeed]
    have := great_loop hks hS hE FU 0 (by omega) (by rw [FU_e]; omega)
    rw [show f_LP_greatestNeed_b4 FU 0 0 M = some (nI (maxN (fun i => if (XX s.2.1 i).2.1 = true then 0 else need0 s.2.1 i) s.2.1.1.length), M) from this, bd_s]
  rw [if_neg c4, if_neg c4]
  by_cases c5 : x = 5
  · rw [if_pos c5, if_pos c5, hH.1]
  rw [if_neg c5, if_neg c5]
  by_cases c6 : x = 6
  · rw [if_pos c6, if_pos c6, t1]
  rw [if_neg c6, if_neg c6]
