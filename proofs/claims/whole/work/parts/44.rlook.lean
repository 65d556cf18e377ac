/-! the reference's looking calls -/
theorem RepR.keep {M M' : Mem} {s : S3} (h : RepR M s) (h2 : M'.1 208 2 = M.1 208 2) (h4 : M'.1 208 4 = M.1 208 4) (h9 : M'.1 209 = M.1 209) (h10 : M'.1 210 = M.1 210) (h11 : M'.1 211 = M.1 211) : RepR M' s := by
  obtain ⟨⟨t1, t2⟩, hS, g1, g2, g3⟩ := h
  exact ⟨⟨by rw [h4]; exact t1, fun i hi => by rw [h11]; exact t2 i hi⟩, by rw [h9]; exact hS, by rw [h2]; exact g1, g2, fun j hj => by rw [h10]; exact g3 j hj⟩
theorem RepR.lays {M M' : Mem} {s : S3} (h : RepR M s) (ho : Off (fun a => 216 ≤ a ∧ a ≤ 223) M M') : RepR M' s ∧ OffR M M' := by
  have e : ∀ a, a < 216 → M'.1 a = M.1 a := fun a ha => ho.1 a (by omega)
  exact ⟨h.keep (by rw [e 208 (by omega)]) (by rw [e 208 (by omega)]) (e _ (by omega)) (e _ (by omega)) (e _ (by omega)), OffR.of ho (fun a ha q => by omega)⟩
theorem ar_3 {k : Int32} : 3 ≤ k ↔ ¬ ar k = 0 := by
  rw [ar]
  by_cases c : 3 ≤ k
  · rw [if_pos c]
    simp only [c, true_iff]
    split <;> omega
  · rw [if_neg c]
    simp [c]
theorem ar_4 {k : Int32} : 3 < k ↔ ¬ ar k ≤ 1 := by
  rw [ar]
  by_cases c : 3 ≤ k
  · rw [if_pos c]
    by_cases d : k = 3
    · rw [if_pos d, d]
      decide
    · rw [if_neg d]
      have : 3 < k := by
        rcases Int32.lt_or_eq_of_le c with q | q
        · exact q
        · exact absurd q.symm d
      simp [this]
  · rw [if_neg c]
    have : ¬ 3 < k := fun q => c (Int32.le_of_lt q)
    simp [this]
theorem rIsF {M : Mem} {st : St} {x : Int32} (hS : RowS (M.1 209) 0 st) (hk : OKS st.1) : f_Md_isFormula x M = some (if isF st.1 x = true then 1 else 0, M) := by
  have h6 := hk.1.2
  rw [f_Md_isFormula]
  simp only [isB0, isB1, gd_t]
  by_cases c : x < 0
  · rw [if_pos c, if_neg (by simp [isF, c])]
  · obtain ⟨k, rfl, hk31⟩ := nonneg_nI c
    rw [if_neg c, gd_of (by decide), show ix 0 = 0 from rfl, hS.1]
    by_cases d : k < st.1.length
    · rw [if_neg (nI_ge d (by omega)), if_pos (by simp [isF, c, ixN hk31, d])]
    · rw [if_pos (nI_le (by omega) hk31), if_neg (by simp [isF, c, ixN hk31]; omega)]
theorem rcheap_loop {M : Mem} {st : St} (hk : OKS st.1) (hS : RowS (M.1 209) 0 st) (hE : XAA M st) : ∀ (n j : Nat), j ≤ st.1.length → st.1.length - j < n → f_Md_cheapOnes_b4 n (nI (sumN (chN st) j)) (nI j) M = some (nI (sumN (chN st) st.1.length), M) := by
  have h6 := hk.1.2
  intro n
  induction n with
  | zero => intro j _ h; omega
  | succ n ih =>
    intro j hj hn
    rw [f_Md_cheapOnes_b4, gd_of (by decide), show ix 0 = 0 from rfl, hS.1]
    by_cases c : j = st.1.length
    · subst c
      rw [if_pos (nI_le (Nat.le_refl _) (by omega))]
    · have hj6 : j < st.1.length := by omega
      rw [if_neg (nI_ge hj6 (by omega)), gd_of (inbT (by omega) (by omega)), ixN (by omega), (hE j hj6).2.1]
      by_cases d : (XX st j).2.1 = true
      · rw [if_pos d, if_neg (by decide), bi_e, bi_e, nI_s, nI_s, ← ih (j + 1) (by omega) (by omega)]
        congr 2
        rw [sumN, chN, if_pos d]
      · rw [if_neg d, if_pos rfl, bi_e, bi_e, nI_s, nI_z, ← ih (j + 1) (by omega) (by omega)]
        congr 2
        rw [sumN, chN, if_neg d]; rfl
theorem rnodes_loop {M : Mem} {st : St} (hk : OKS st.1) (hS : RowS (M.1 209) 0 st) : ∀ (n j : Nat), j ≤ st.1.length → st.1.length - j < n → f_Md_count_b64 n (nI (sumN (fun i => (gf st.1 i).length) j)) (nI j) M = some (nI (sumN (fun i => (gf st.1 i).length) st.1.length), M) := by
  have h6 := hk.1.2
  intro n
  induction n with
  | zero => intro j _ h; omega
  | succ n ih =>
    intro j hj hn
    rw [f_Md_count_b64, gd_of (by decide), show ix 0 = 0 from rfl, hS.1]
    by_cases c : j = st.1.length
    · subst c
      rw [if_pos (nI_le (Nat.le_refl _) (by omega))]
    · have hj6 : j < st.1.length := by omega
      have q := (hS.2.2.2 j hj6).1
      rw [show 0 + 10 + j = 10 + j by omega] at q
      rw [if_neg (nI_ge hj6 (by omega)), w10, gd_of (inbT (by omega) (by omega)), ixN (by omega), bi_e, bi_e, nI_s, q, nI_add, ← ih (j + 1) (by omega) (by omega)]
      rfl
theorem rrow0 {M : Mem} {st : St} (hk : OKS st.1) (hE : XAA M st) {i : Nat} (hi : i < st.1.length) : M.1 219 (90 * i) = nI (need0 st i) ∧ M.1 220 (90 * i) = nI (tr (lvS st i) (XX st i).1 0).2.2.1 ∧ M.1 221 (90 * i) = (XX st i).2.2 := by
  have h := (hE i hi).2.2 0 (Nat.le_refl _) (wf_len (XX_ok hk hi).1)
  rw [Nat.add_zero] at h
  exact ⟨h.2.1, h.2.2.1, h.2.2.2⟩
theorem rgreat_loop {M : Mem} {st : St} (hk : OKS st.1) (hS : RowS (M.1 209) 0 st) (hE : XAA M st) : ∀ (n j : Nat), j ≤ st.1.length → st.1.length - j < n → f_Md_greatestNeed_b4 n (nI (maxN (fun i => if (XX st i).2.1 = true then 0 else need0 st i) j)) (nI j) M = some (nI (maxN (fun i => if (XX st i).2.1 = true then 0 else need0 st i) st.1.length), M) := by
  have h6 := hk.1.2
  intro n
  induction n with
  | zero => intro j _ h; omega
  | succ n ih =>
    intro j hj hn
    rw [f_Md_greatestNeed_b4, gd_of (by decide), show ix 0 = 0 from rfl, hS.1]
    by_cases c : j = st.1.length
    · subst c
      rw [if_pos (nI_le (Nat.le_refl _) (by omega))]
    · have hj6 : j < st.1.length := by omega
      have g : inb (nI (90 * j)) 540 = true := inbT (by omega) (by omega)
      rw [if_neg (nI_ge hj6 (by omega)), gd_of (inbT (by omega) (by omega)), w90', gd_of g, gd_of g, ixN (show j < 2 ^ 31 by omega), ixN (show 90 * j < 2 ^ 31 by omega), (hE j hj6).2.1, (rrow0 hk hE hj6).1, bi_e, bi_e, nI_s, bi_e]
      by_cases d : (XX st j).2.1 = true
      · rw [if_pos d, if_neg (by decide), ← ih (j + 1) (by omega) (by omega)]
        congr 2
        rw [maxN, if_pos d, Nat.max_eq_left (Nat.zero_le _)]
      · have hb : maxN (fun i => if (XX st i).2.1 = true then 0 else need0 st i) j ≤ 60 := maxN_le j (fun i hi => by
          split
          · omega
          · exact need_b hk (by omega))
        have hn := need_b hk hj6
        rw [if_neg d, if_pos rfl]
        have ihj := ih (j + 1) (by omega) (by omega)
        rw [maxN, if_neg d] at ihj
        by_cases e : need0 st j ≤ maxN (fun i => if (XX st i).2.1 = true then 0 else need0 st i) j
        · rw [if_pos (nI_le e (by omega))]
          rw [Nat.max_eq_left e] at ihj
          exact ihj
        · rw [if_neg (nI_ge (by omega) (by omega))]
          rw [Nat.max_eq_right (by omega)] at ihj
          exact ihj
theorem r_count {M : Mem} {s : S3} (h : RepR M s) (hk : OKs s) (x : Int32) : ∃ M', f_Md_count x M = some (a_count s x, M') ∧ RepR M' s ∧ OffR M M' := by
  have hks := hk.2.2.1
  have h6 := hks.1.2
  obtain ⟨M1, e1, hE, ho⟩ := lays_ok hks M h.2.1
  obtain ⟨hR, hF⟩ := h.lays ho
  refine ⟨M1, ?_, hR, hF⟩
  obtain ⟨⟨t1, -⟩, hS, g1, -, -⟩ := hR
  rw [f_Md_count, e1, bd_s, a_count]
  by_cases c0 : x = 0
  · rw [if_pos c0, if_pos c0, gd_of (by decide), show ix 0 = 0 from rfl, hS.1]
  rw [if_neg c0, if_neg c0]
  by_cases c1 : x = 1
  · rw [if_pos c1, if_pos c1, f_Md_cheapOnes]
    have := rcheap_loop hks hS hE FU 0 (by omega) (by rw [FU_e]; omega)
    rw [show f_Md_cheapOnes_b4 FU 0 0 M1 = some (nI (sumN (chN s.2.1) s.2.1.1.length), M1) from this, bd_s]
  rw [if_neg c1, if_neg c1]
  by_cases c2 : x = 2
  · rw [if_pos c2, if_pos c2]
    have := rnodes_loop hks hS FU 0 (by omega) (by rw [FU_e]; omega)
    exact this
  rw [if_neg c2, if_neg c2]
  by_cases c3 : x = 3
  · rw [if_pos c3, if_pos c3, gd_of (by decide), show ix 1 = 1 from rfl]
    rw [show M1.1 209 1 = s.2.1.2.2 from hS.2.1]
  rw [if_neg c3, if_neg c3]
  by_cases c4 : x = 4
  · rw [if_pos c4, if_pos c4, f_Md_greatestNeed]
    have := rgreat_loop hks hS hE FU 0 (by omega) (by rw [FU_e]; omega)
    rw [show f_Md_greatestNeed_b4 FU 0 0 M1 = some (nI (maxN (fun i => if (XX s.2.1 i).2.1 = true then 0 else need0 s.2.1 i) s.2.1.1.length), M1) from this, bd_s]
  rw [if_neg c4, if_neg c4]
  by_cases c5 : x = 5
  · rw [if_pos c5, if_pos c5, g1]
  rw [if_neg c5, if_neg c5]
  by_cases c6 : x = 6
  · rw [if_pos c6, if_pos c6, t1]
  rw [if_neg c6, if_neg c6]
theorem use_cheap {st : St} (hk : OKS st.1) {i : Nat} (hi : i < st.1.length) (h : (XX st i).2.1 = true) (f : Int32) : useN st f i = 0 := by
  rw [useN, List.countP_eq_zero]
  intro q hq
  have := ((XX_ok hk hi).2.2.2 h).2 q hq
  simp [this.1]
theorem ruses_in {M : Mem} {st : St} {fm : Nat} {k4 : Int32 → Int32 → Int32 → Mem → Option (Int32 × Mem)} (hk : OKS st.1) (hE : XAA M st) {i : Nat} (hi : i < st.1.length) (c0 : Nat) : ∀ (n j : Nat), j ≤ (XX st i).1.length → (XX st i).1.length - j < n → ((XX st i).2.1 = true → j = 0) →
    f_Md_uses_b20 k4 n (nI fm) (nI (c0 + (((XX st i).1.take j).countP fun q => q.1 == 2 && q.2 == nI fm))) (nI i) (nI (90 * i + j)) M = k4 (nI fm) (nI (c0 + useN st (nI fm) i)) (nI (i + 1)) M := by
  have h6 := hk.1.2
  obtain ⟨w1, w2, -⟩ := XX_ok hk hi
  obtain ⟨hK, hch, -⟩ := hE i hi
  have g6 : inb (nI i) 6 = true := inbT (by omega) (by omega)
  intro n
  induction n with
  | zero => intro j _ h; omega
  | succ n ih =>
    intro j hj hn hj0
    rw [f_Md_uses_b20, gd_of g6, gd_of g6, ixN (show i < 2 ^ 31 by omega), hK.1, w90]
    by_cases c : j = (XX st i).1.length
    · subst c
      rw [if_pos (nI_le (Nat.le_refl _) (by omega)), bi_e, nI_s, List.take_length]
      rfl
    · have hj6 : j < (XX st i).1.length := by omega
      rw [if_neg (nI_ge (by omega) (by omega)), hch]
      by_cases dch : (XX st i).2.1 = true
      · have := hj0 dch
        subst this
        rw [if_pos dch, if_neg (by decide), bi_e, nI_s, List.take_zero, List.countP_nil, use_cheap hk hi dch]
      · have g : inb (nI (90 * i + j)) 540 = true := inbT (by omega) (by omega)
        obtain ⟨p1, p2⟩ := hK.2 j hj6
        rw [if_neg dch, if_pos rfl, gd_of g, gd_of g, ixN (by omega), p1]
        have ihj := ih (j + 1) (by omega) (by omega) (fun q => absurd q dch)
        rw [tk_s hj6, List.countP_append, List.countP_singleton, ← Nat.add_assoc (90 * i)] at ihj
        by_cases d : (nd (XX st i).1 j).1 = 2
        · rw [p2 (by rw [d]; exact ar2)]
          by_cases d2 : (nd (XX st i).1 j).2 = nI fm
          · have e : ((nd (XX st i).1 j).1 == 2 && (nd (XX st i).1 j).2 == nI fm) = true := by simp [d, d2]
            rw [if_pos e, ← Nat.add_assoc] at ihj
            rw [if_pos d, if_pos d2, bi_e, bi_e, nI_s, nI_s]
            exact ihj
          · have e : ¬ ((nd (XX st i).1 j).1 == 2 && (nd (XX st i).1 j).2 == nI fm) = true := by simp [d2]
            rw [if_neg e, Nat.add_zero] at ihj
            rw [if_pos d, if_neg d2, bi_e, bi_e, nI_z, nI_s]
            exact ihj
        · have e : ¬ ((nd (XX st i).1 j).1 == 2 && (nd (XX st i).1 j).2 == nI fm) = true := by simp [d]
          rw [if_neg e, Nat.add_zero] at ihj
          rw [if_neg d, bi_e, bi_e, nI_z, nI_s]
          exact ihj
theorem ruses_loop {M : Mem} {st : St} {fm : Nat} (hk : OKS st.1) (hS : RowS (M.1 209) 0 st) (hE : XAA M st) : ∀ (n j : Nat), j ≤ st.1.length → st.1.length - j < n → f_Md_uses_b4 n (nI fm) (nI (sumN (useN st (nI fm)) j)) (nI j) M = some (nI (sumN (useN st (nI fm)) st.1.length), M) := by
  have h6 := hk.1.2
  intro n
  induction n with
  | zero => intro j _ h; omega
  | succ n ih =>
    intro j hj hn
    rw [f_Md_uses_b4, gd_of (by decide), show ix 0 = 0 from rfl, hS.1]
    by_cases c : j = st.1.length
    · subst c
      rw [if_pos (nI_le (Nat.le_refl _) (by omega))]
    · have hj6 : j < st.1.length := by omega
      have w2 := (XX_ok hk hj6).2.1
      rw [if_neg (nI_ge hj6 (by omega)), bi_e, w90']
      have h := ruses_in (fm := fm) (k4 := f_Md_uses_b4 n) hk hE hj6 (sumN (useN st (nI fm)) j) FU 0 (by omega) (by rw [FU_e]; omega) (fun _ => rfl)
      rw [List.take_zero, List.countP_nil, Nat.add_zero, Nat.add_zero] at h
      rw [h]
      exact ih (j + 1) (by omega) (by omega)
theorem r_formula {M : Mem} {s : S3} (h : RepR M s) (hk : OKs s) (x w : Int32) : ∃ M', f_Md_formula x w M = some (a_formula s.2.1 x w, M') ∧ RepR M' s ∧ OffR M M' := by
  have hks := hk.2.2.1
  have h6 := hks.1.2
  rw [f_Md_formula, rIsF h.2.1 hks, bd_s, a_formula]
  by_cases c : isF s.2.1.1 x = true
  · rw [if_pos c, if_pos c, if_neg (by decide), in_ok, bd_s]
    obtain ⟨k, rfl, hk1, hk2, hk3⟩ := isF_k c
    obtain ⟨M1, e1, hE, ho⟩ := lays_ok hks M h.2.1
    obtain ⟨hR, hF⟩ := h.lays ho
    have hS := hR.2.1
    have g6 : inb (nI k) 6 = true := inbT (by omega) (by omega)
    have g90 : inb (nI (90 * k)) 540 = true := inbT (by omega) (by omega)
    obtain ⟨r1, r2, r3⟩ := rrow0 hks hE hk1
    rw [hk3]
    by_cases c1 : w < 0
    · have z : ∀ v : Int32, 0 ≤ v → ¬ w = v := fun v hv q => by rw [q] at c1; exact Int32.not_lt.mpr hv c1
      rw [if_pos c1, if_pos rfl, if_neg (z 0 (by decide)), if_neg (z 1 (by decide)), if_neg (z 2 (by decide)), if_neg (z 3 (by decide)), if_neg (z 4 (by decide)), if_neg (z 5 (by decide)), if_neg (z 6 (by decide))]
      exact ⟨M, rfl, h, OffR.rf⟩
    rw [if_neg c1]
    by_cases c2 : 6 < w
    · have z : ∀ v : Int32, v ≤ 6 → ¬ w = v := fun v hv q => by rw [q] at c2; exact Int32.not_lt.mpr hv c2
      rw [if_pos c2, if_pos rfl, if_neg (z 0 (by decide)), if_neg (z 1 (by decide)), if_neg (z 2 (by decide)), if_neg (z 3 (by decide)), if_neg (z 4 (by decide)), if_neg (z 5 (by decide)), if_neg (z 6 (by decide))]
      exact ⟨M, rfl, h, OffR.rf⟩
    rw [if_neg c2, if_neg (by decide), e1, bd_s]
    refine ⟨M1, ?_, hR, hF⟩
    by_cases d0 : w = 0
    · have q := (hS.2.2.2 k hk1).1
      rw [show 0 + 10 + k = 10 + k by omega] at q
      rw [if_pos d0, if_pos d0, w10, gd_of (inbT (by omega) (by omega)), ixN (by omega), q]
    rw [if_neg d0, if_neg d0]
    by_cases d1 : w = 1
    · rw [if_pos d1, if_pos d1, gd_of g6, (hE k hk1).1.1]
    rw [if_neg d1, if_neg d1, w90', gd_of g90, ixN (show 90 * k < 2 ^ 31 by omega)]
    by_cases d2 : w = 2
    · rw [if_pos d2, if_pos d2, r1]
    rw [if_neg d2, if_neg d2]
    by_cases d3 : w = 3
    · rw [if_pos d3, if_pos d3, gd_of g6, (hE k hk1).2.1]
      by_cases d : (XX s.2.1 k).2.1 = true
      · rw [if_pos d, if_neg (by decide)]
      · rw [if_neg d, if_pos rfl]
    rw [if_neg d3, if_neg d3]
    by_cases d4 : w = 4
    · rw [if_pos d4, if_pos d4, gd_of g90, r3]
    rw [if_neg d4, if_neg d4]
    by_cases d5 : w = 5
    · rw [if_pos d5, if_pos d5, gd_of g90, r2]
    rw [if_neg d5, if_neg d5]
    have d6 : w = 6 := by
      obtain ⟨z, rfl, hz⟩ := nonneg_nI c1
      have : z ≤ 6 := by
        rcases Nat.lt_or_ge 6 z with q | q
        · exact absurd (show (6 : Int32) < nI z from nI_lt q hz) c2
        · exact q
      have hne : ∀ v, v < 2 ^ 31 → ¬ nI z = nI v → z ≠ v := fun v hv q r => q (by rw [r])
      have := hne 0 (by omega) d0
      have := hne 1 (by omega) d1
      have := hne 2 (by omega) d2
      have := hne 3 (by omega) d3
      have := hne 4 (by omega) d4
      have := hne 5 (by omega) d5
      have : z = 6 := by omega
      rw [this]; rfl
    rw [if_pos d6, f_Md_uses]
    have := ruses_loop (fm := k) hks hS hE FU 0 (by omega) (by rw [FU_e]; omega)
    rw [show f_Md_uses_b4 FU (nI k) 0 0 M1 = _ from this, bd_s]
  · rw [if_neg c, if_neg c, if_pos rfl]
    exact ⟨M, rfl, h, OffR.rf⟩
theorem r_node {M : Mem} {s : S3} (h : RepR M s) (hk : OKs s) (x y w : Int32) : ∃ M', f_Md_node x y w M = some (a_node s.2.1 x y w, M') ∧ RepR M' s ∧ OffR M M' := by
  have hks := hk.2.2.1
  have h6 := hks.1.2
  obtain ⟨M1, e1, hE, ho⟩ := lays_ok hks M h.2.1
  obtain ⟨hR, hF⟩ := h.lays ho
  have hS := hR.2.1
  refine ⟨M1, ?_, hR, hF⟩
  rw [f_Md_node, e1, bd_s, rIsF hS hks, bd_s, a_node]
  by_cases c : isF s.2.1.1 x = true
  · rw [if_pos c, if_pos c, if_neg (by decide)]
    obtain ⟨k, rfl, hk1, hk2, hk3⟩ := isF_k c
    obtain ⟨hK, -, hT⟩ := hE k hk1
    obtain ⟨w1, w2, -⟩ := XX_ok hks hk1
    have hpos := wf_len w1
    have hm : nI (XX s.2.1 k).1.length - 1 = nI ((XX s.2.1 k).1.length - 1) := by
      obtain ⟨z, hz⟩ : ∃ z, (XX s.2.1 k).1.length = z + 1 := ⟨(XX s.2.1 k).1.length - 1, by omega⟩
      rw [hz, nI_m1]; rfl
    rw [gd_of (inbT (by omega) (by omega)), hk3, hK.1, hm, in_ok, bd_s]
    by_cases cy : y < 0
    · rw [if_pos cy, if_pos rfl, if_neg (by simp [cy])]
    · rw [if_neg cy]
      obtain ⟨z, rfl, hz⟩ := nonneg_nI cy
      rw [ixN hz]
      by_cases cz : z < (XX s.2.1 k).1.length
      · rw [if_neg (nI_nlt (by omega) (by omega)), if_neg (by decide), if_pos (by simp [cy, cz]), in_ok, bd_s]
        obtain ⟨t1, t2, t3, t4⟩ := hT z (by omega) cz
        obtain ⟨p1, p2⟩ := hK.2 z cz
        have g : inb (nI (90 * k + z)) 540 = true := inbT (by omega) (by omega)
        by_cases c1 : w < 0
        · have zz : ∀ v : Int32, 0 ≤ v → ¬ w = v := fun v hv q => by rw [q] at c1; exact Int32.not_lt.mpr hv c1
          rw [if_pos c1, if_pos rfl, if_neg (zz 0 (by decide)), if_neg (zz 1 (by decide)), if_neg (zz 2 (by decide)), if_neg (zz 3 (by decide)), if_neg (zz 4 (by decide)), if_neg (zz 5 (by decide)), if_neg (zz 6 (by decide))]
        rw [if_neg c1]
        by_cases c2 : 6 < w
        · have zz : ∀ v : Int32, v ≤ 6 → ¬ w = v := fun v hv q => by rw [q] at c2; exact Int32.not_lt.mpr hv c2
          rw [if_pos c2, if_pos rfl, if_neg (zz 0 (by decide)), if_neg (zz 1 (by decide)), if_neg (zz 2 (by decide)), if_neg (zz 3 (by decide)), if_neg (zz 4 (by decide)), if_neg (zz 5 (by decide)), if_neg (zz 6 (by decide))]
        rw [if_neg c2, if_neg (by decide), bi_e, w90, gd_of g, ixN (show 90 * k + z < 2 ^ 31 by omega), p1]
        by_cases d0 : w = 0
        · rw [if_pos d0, if_pos d0]
        rw [if_neg d0, if_neg d0, gd_of g]
        by_cases d1 : w = 1
        · rw [if_pos d1, if_pos d1]
          by_cases e : ar (nd (XX s.2.1 k).1 z).1 = 0
          · rw [if_pos e, if_neg (fun q => ar_3.mp q e), gd_of g, p2 e]
          · rw [if_neg e, if_pos (ar_3.mpr e)]
        rw [if_neg d1, if_neg d1, gd_of g]
        by_cases d2 : w = 2
        · rw [if_pos d2, if_pos d2]
          by_cases e : ar (nd (XX s.2.1 k).1 z).1 = 0
          · rw [if_pos e, if_neg (fun q => ar_3.mp q e)]
          · rw [if_neg e, if_pos (ar_3.mpr e)]
        rw [if_neg d2, if_neg d2, gd_of g]
        by_cases d3 : w = 3
        · rw [if_pos d3, if_pos d3]
          by_cases e : ar (nd (XX s.2.1 k).1 z).1 ≤ 1
          · rw [if_pos e, if_neg (fun q => ar_4.mp q e)]
          · have ha := ar_le (nd (XX s.2.1 k).1 z).1
            obtain ⟨u1, u2⟩ := wf_2 (lv := lvS s.2.1 k) w1 cz (by omega)
            have ts := (hT (z + 1) (by omega) u1).1
            rw [show 90 * k + (z + 1) = 90 * k + z + 1 by omega] at ts
            rw [if_neg e, if_pos (ar_4.mpr e), nI_s, gd_of (inbT (by omega) (by omega)), ixN (by omega), ts, nI_s, nI_add]
        rw [if_neg d3, if_neg d3, gd_of g]
        by_cases d4 : w = 4
        · rw [if_pos d4, if_pos d4, t2]
        rw [if_neg d4, if_neg d4]
        by_cases d5 : w = 5
        · rw [if_pos d5, if_pos d5, gd_of g, t1]
        rw [if_neg d5, if_neg d5]
        have d6 : w = 6 := by
          obtain ⟨v, rfl, hv⟩ := nonneg_nI c1
          have : v ≤ 6 := by
            rcases Nat.lt_or_ge 6 v with q | q
            · exact absurd (show (6 : Int32) < nI v from nI_lt q hv) c2
            · exact q
          have hne : ∀ u, u < 2 ^ 31 → ¬ nI v = nI u → v ≠ u := fun u hu q r => q (by rw [r])
          have := hne 0 (by omega) d0
          have := hne 1 (by omega) d1
          have := hne 2 (by omega) d2
          have := hne 3 (by omega) d3
          have := hne 4 (by omega) d4
          have := hne 5 (by omega) d5
          have : v = 6 := by omega
          rw [this]; rfl
        rw [if_pos d6, gd_of g, t4]
      · rw [if_pos (nI_lt (by omega) hz), if_pos rfl, if_neg (by simp [cz])]
  · rw [if_neg c, if_neg c, if_pos rfl]
