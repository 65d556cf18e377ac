/-! isCheap says what the document says -/
def ph (st : St) (c : Nat) : Nat := if (XX st c).2.1 = true then (XX st c).1.length else 4
def wq (F : Nat → Nat) (q : Nd) : Nat := if q.1 = 2 then F (ix q.2) else 1
def sw (F : Nat → Nat) (l : Fm) : Nat := (l.map (wq F)).sum
def nst (l : Fm) : Bool := !(l.any fun q => q.1 == 6)
def ph2 (st : St) (c : Nat) : Nat := if nst (gf st.1 c) = true ∧ sw (ph st) (gf st.1 c) ≤ 3 then sw (ph st) (gf st.1 c) else 4
theorem sw_c {F : Nat → Nat} {q : Nd} {l : Fm} : sw F (q :: l) = wq F q + sw F l := by rw [sw, List.map_cons, List.sum_cons]; rfl
theorem sw_0 {F : Nat → Nat} : sw F [] = 0 := rfl
theorem okN_2 {f : Nat} {q : Nd} (h : okN f q) (h2 : q.1 = 2) : ∃ c, c < f ∧ q.2 = nI c := by
  rcases h with w | w | w | w
  · rw [h2] at w; exact absurd w.1 (by decide)
  · rw [h2] at w; exact absurd w.1 (by decide)
  · exact w.2
  · rw [h2] at w; exact absurd w.1 (by decide)
theorem okN_ix {f : Nat} {q : Nd} (h : okN f q) (hf : f ≤ 6) (h2 : q.1 = 2) : ix q.2 < f := by
  obtain ⟨c, h1, h3⟩ := okN_2 h h2
  rw [h3, ixN (by omega)]
  exact h1
theorem XFd {st : St} {c d : Nat} (h : c < d) : (XF st.1 st.2.1 d).getD c x0 = XX st c := XF_lt d h
theorem pce_X {st : St} {d : Nat} {q : Nd} (h : okN d q) (hd : d ≤ 6) : pce (XF st.1 st.2.1 d) q = if q.1 = 2 ∧ (XX st (ix q.2)).2.1 = true then (XX st (ix q.2)).1 else [q] := by
  rw [pce]
  by_cases h2 : q.1 = 2
  · rw [XFd (okN_ix h hd h2)]
  · rw [if_neg (fun w => h2 w.1), if_neg (fun w => h2 w.1)]
theorem exl_sw {st : St} {d : Nat} (hd : d ≤ 6) : ∀ {l : Fm}, (∀ q ∈ l, okN d q) → (∀ q ∈ l, q.1 = 2 → (XX st (ix q.2)).2.1 = true) → (exl (XF st.1 st.2.1 d) l).length = sw (ph st) l
  | [], _, _ => rfl
  | q :: l, h1, h2 => by
    rw [exl_cons, List.length_append, sw_c, exl_sw hd (fun x hx => h1 x (List.mem_cons_of_mem _ hx)) (fun x hx => h2 x (List.mem_cons_of_mem _ hx)), pce_X (h1 q List.mem_cons_self) hd, wq, ph]
    by_cases c : q.1 = 2
    · have h3 := h2 q List.mem_cons_self c
      rw [if_pos ⟨c, h3⟩, if_pos c, if_pos h3]
    · rw [if_neg (fun w => c w.1), if_neg c]; rfl
theorem sw_mem {F : Nat → Nat} : ∀ {l : Fm} {q : Nd}, q ∈ l → wq F q ≤ sw F l
  | x :: l, q, h => by
    rw [sw_c]
    rcases List.mem_cons.mp h with w | w
    · rw [w]; omega
    · have := sw_mem (F := F) w; omega
theorem nst_of {l : Fm} : nst l = true ↔ ∀ q ∈ l, ¬ q.1 = 6 := by simp [nst]
theorem cheap_A {st : St} (hk : OKS st.1) {d : Nat} (hd : d < st.1.length) : (isCheap true (XX st d).1 = (nst (gf st.1 d) && decide (sw (ph st) (gf st.1 d) ≤ 3))) ∧ (isCheap true (XX st d).1 = true → (XX st d).1.length = sw (ph st) (gf st.1 d)) := by
  have h6 := hk.1.2
  have hok : ∀ q ∈ gf st.1 d, okN d q := nd_mem.mp (hk.2 d hd).2.2
  have hX : (XX st d).1 = exl (XF st.1 st.2.1 d) (gf st.1 d) := rfl
  have hmem : ∀ q ∈ gf st.1 d, ¬ (q.1 = 2 ∧ (XX st (ix q.2)).2.1 = true) → q ∈ (XX st d).1 := by
    intro q hq hn
    rw [hX]
    refine List.mem_flatMap.mpr ⟨q, hq, ?_⟩
    rw [pce_X (hok q hq) (by omega), if_neg hn]
    exact List.mem_singleton.mpr rfl
  have fwd : isCheap true (XX st d).1 = true → nst (gf st.1 d) = true ∧ (XX st d).1.length = sw (ph st) (gf st.1 d) ∧ (XX st d).1.length ≤ 3 := by
    intro h
    obtain ⟨-, h2, h3⟩ := isCheap_spec h
    have hcap : ∀ q ∈ gf st.1 d, q.1 = 2 → (XX st (ix q.2)).2.1 = true := by
      intro q hq hq2
      cases hc : (XX st (ix q.2)).2.1 with
      | true => rfl
      | false => exact absurd hq2 (h3 q (hmem q hq (fun w => by rw [hc] at w; exact absurd w.2 (by decide)))).1
    refine ⟨nst_of.mpr (fun q hq h6 => ?_), exl_sw (by omega) hok hcap, h2⟩
    exact (h3 q (hmem q hq (fun w => by rw [h6] at w; exact absurd w.1 (by decide)))).2 h6
  have bwd : nst (gf st.1 d) = true → sw (ph st) (gf st.1 d) ≤ 3 → isCheap true (XX st d).1 = true := by
    intro h1 h2
    have hcap : ∀ q ∈ gf st.1 d, q.1 = 2 → (XX st (ix q.2)).2.1 = true := by
      intro q hq hq2
      cases hc : (XX st (ix q.2)).2.1 with
      | true => rfl
      | false =>
        have := sw_mem (F := ph st) hq
        rw [wq, if_pos hq2, ph, hc, if_neg (by decide)] at this
        omega
    have hlen := exl_sw (st := st) (by omega) hok hcap
    have hall : ∀ x ∈ (XX st d).1, ¬ x.1 = 2 ∧ ¬ x.1 = 6 := by
      intro x hx
      rw [hX] at hx
      obtain ⟨q, hq, hxq⟩ := List.mem_flatMap.mp hx
      rw [pce_X (hok q hq) (by omega)] at hxq
      by_cases c : q.1 = 2
      · have h3 := hcap q hq c
        rw [if_pos ⟨c, h3⟩] at hxq
        exact ((XX_ok hk (by have := okN_ix (hok q hq) (by omega) c; omega)).2.2.2 h3).2 x hxq
      · rw [if_neg (fun w => c w.1), List.mem_singleton] at hxq
        rw [hxq]
        exact ⟨c, nst_of.mp h1 q hq⟩
    rw [← hX] at hlen
    rw [isCheap, Bool.true_and, hlen, decide_eq_true h2, Bool.true_and]
    simp only [Bool.and_eq_true, Bool.not_eq_true', List.any_eq_false, beq_iff_eq]
    exact ⟨fun x hx => (hall x hx).2, fun x hx => (hall x hx).1⟩
  refine ⟨?_, fun h => (fwd h).2.1⟩
  cases h : isCheap true (XX st d).1 with
  | true =>
    obtain ⟨a1, a2, a3⟩ := fwd h
    rw [a1, Bool.true_and, decide_eq_true (by omega)]
  | false =>
    cases h1 : nst (gf st.1 d) with
    | false => rfl
    | true =>
      rw [Bool.true_and]
      by_cases h2 : sw (ph st) (gf st.1 d) ≤ 3
      · rw [bwd h1 h2] at h; exact absurd h (by decide)
      · exact (decide_eq_false h2).symm
theorem XX_ch {st : St} {d : Nat} : (XX st d).2.1 = isCheap (decide (d + 1 < st.1.length)) (XX st d).1 := rfl
theorem ph_2 {st : St} (hk : OKS st.1) {c : Nat} (hc : c + 1 < st.1.length) : ph2 st c = ph st c := by
  obtain ⟨a1, a2⟩ := cheap_A hk (show c < st.1.length by omega)
  have hf : (XX st c).2.1 = isCheap true (XX st c).1 := by rw [XX_ch, decide_eq_true hc]
  rw [ph2, ph, hf]
  by_cases h : isCheap true (XX st c).1 = true
  · have := a2 h
    rw [h] at a1
    have h3 := a1.symm
    rw [Bool.and_eq_true, decide_eq_true_eq] at h3
    rw [if_pos h3, if_pos h, this]
  · rw [if_neg h, if_neg]
    intro w
    rw [w.1, Bool.true_and, decide_eq_true w.2] at a1
    exact h a1
theorem sumN_cg {f g : Nat → Nat} : ∀ n, (∀ i, i < n → f i = g i) → sumN f n = sumN g n
  | 0, _ => rfl
  | n + 1, h => by rw [sumN, sumN, sumN_cg n (fun i hi => h i (by omega)), h n (by omega)]
theorem sumN_up {o F : Nat → Nat} {c m : Nat} : ∀ {E : Nat}, c < E → sumN (fun i => (if i = c then o i + m else o i) * F i) E = sumN (fun i => o i * F i) E + m * F c
  | 0, h => by omega
  | E + 1, h => by
    rw [sumN, sumN]
    by_cases e : E = c
    · subst e
      rw [if_pos rfl, Nat.add_mul, sumN_cg E (g := fun i => o i * F i) (fun i hi => by show (if i = E then _ else _) * _ = _; rw [if_neg (by omega)])]
      omega
    · rw [if_neg e, sumN_up (show c < E by omega)]
      omega
/-- what a formula adds -/
theorem cfo_ok {F : Nat → Nat} {E m : Nat} (hE : E ≤ 6) : ∀ {l : Fm} {s : CS}, (∀ q ∈ l, okN E q) → (cfo m l s).1 = (s.1 && nst l) ∧ (cfo m l s).2.1 + sumN (fun c => (cfo m l s).2.2 c * F c) E = s.2.1 + sumN (fun c => s.2.2 c * F c) E + m * sw F l
  | [], s, _ => ⟨by rw [show nst [] = true from rfl, Bool.and_true]; rfl, by rw [sw_0]; rfl⟩
  | q :: l, s, h => by
    obtain ⟨a1, a2⟩ := cfo_ok (F := F) (m := m) hE (l := l) (s := cst m q s) (fun x hx => h x (List.mem_cons_of_mem _ hx))
    rw [show cfo m (q :: l) s = cfo m l (cst m q s) from rfl, a1, a2, sw_c]
    refine ⟨?_, ?_⟩
    · show ((s.1 && !(q.1 == 6)) && nst l) = (s.1 && nst (q :: l))
      rw [Bool.and_assoc]
      simp [nst]
    · have hq := h q List.mem_cons_self
      by_cases c : q.1 = 2
      · have e1 : (cst m q s).2.1 = s.2.1 := by show s.2.1 + (if q.1 = 2 then 0 else m) = _; rw [if_pos c]; rfl
        have e2 : (cst m q s).2.2 = fun i => if i = ix q.2 then s.2.2 i + m else s.2.2 i := by
          show (if q.1 = 2 then _ else _) = _
          rw [if_pos c]
        have e3 := sumN_up (o := s.2.2) (F := F) (m := m) (okN_ix hq hE c)
        rw [e1, e2, wq, if_pos c, Nat.mul_add]
        rw [e3]
        omega
      · have e1 : (cst m q s).2.1 = s.2.1 + m := by show s.2.1 + (if q.1 = 2 then 0 else m) = _; rw [if_neg c]
        have e2 : (cst m q s).2.2 = s.2.2 := by
          show (if q.1 = 2 then _ else _) = _
          rw [if_neg c]
        rw [e1, e2, wq, if_neg c, Nat.mul_add, Nat.mul_one]
        omega
theorem sw_cg {F F' : Nat → Nat} {E : Nat} (hE : E ≤ 6) (h : ∀ c, c < E → F c = F' c) : ∀ {l : Fm}, (∀ q ∈ l, okN E q) → sw F l = sw F' l
  | [], _ => rfl
  | q :: l, hl => by
    rw [sw_c, sw_c, sw_cg hE h (fun x hx => hl x (List.mem_cons_of_mem _ hx)), wq, wq]
    by_cases c : q.1 = 2
    · rw [if_pos c, if_pos c, h _ (okN_ix (hl q List.mem_cons_self) hE c)]
    · rw [if_neg c, if_neg c]
theorem ccs_ok {st : St} (hk : OKS st.1) : ∀ (E : Nat) (s : CS), E ≤ st.1.length → ((ccs st.1 E s).1 && decide ((ccs st.1 E s).2.1 < 4)) = (s.1 && decide (s.2.1 + sumN (fun c => s.2.2 c * ph2 st c) E ≤ 3))
  | 0, s, _ => by
    have : decide (s.2.1 < 4) = decide (s.2.1 + sumN (fun c => s.2.2 c * ph2 st c) 0 ≤ 3) := decide_eq_decide.mpr (by show _ ↔ s.2.1 + 0 ≤ 3; omega)
    rw [show ccs st.1 0 s = s from rfl, this]
  | E + 1, s, h => by
    have h6 := hk.1.2
    have hok : ∀ q ∈ gf st.1 E, okN E q := nd_mem.mp (hk.2 E (by omega)).2.2
    rw [ccs, ccs_ok hk E _ (by omega), clv]
    by_cases c : s.2.2 E = 0
    · rw [if_pos c, sumN, c, Nat.zero_mul, Nat.add_zero]
    · rw [if_neg c]
      obtain ⟨a1, a2⟩ := cfo_ok (F := ph2 st) (m := s.2.2 E) (by omega) (s := s) hok
      rw [a1, a2, sumN, Bool.and_assoc]
      congr 1
      have hsw : sw (ph2 st) (gf st.1 E) = sw (ph st) (gf st.1 E) := sw_cg (by omega) (fun c hc => ph_2 hk (by omega)) hok
      rw [hsw]
      have hp : ph2 st E = if nst (gf st.1 E) = true ∧ sw (ph st) (gf st.1 E) ≤ 3 then sw (ph st) (gf st.1 E) else 4 := rfl
      generalize sw (ph st) (gf st.1 E) = z at hp ⊢
      generalize sumN (fun c => s.2.2 c * ph2 st c) E = y
      rw [hp]
      cases hn : nst (gf st.1 E) with
      | false =>
        rw [if_neg (fun w => by cases w.1), Bool.false_and]
        exact (decide_eq_false (by omega)).symm
      | true =>
        rw [Bool.true_and]
        refine decide_eq_decide.mpr ?_
        by_cases hz : z ≤ 3
        · rw [if_pos ⟨rfl, hz⟩]
          omega
        · rw [if_neg (fun w => hz w.2)]
          have : 4 * 1 ≤ s.2.2 E * z := by
            rw [Nat.mul_comm 4 1]
            exact Nat.mul_le_mul (by omega) (by omega)
          omega
theorem sumN_1 {F : Nat → Nat} {d : Nat} : ∀ {n : Nat}, sumN (fun c => (if c = d then 1 else 0) * F c) n = if d < n then F d else 0
  | 0 => by rw [sumN, if_neg (Nat.not_lt_zero _)]
  | n + 1 => by
    rw [sumN, sumN_1]
    by_cases e : n = d
    · subst e
      rw [if_neg (Nat.lt_irrefl _), if_pos rfl, if_pos (by omega)]
      omega
    · rw [if_neg e]
      by_cases h : d < n
      · rw [if_pos h, if_pos (by omega)]; omega
      · rw [if_neg h, if_neg (by omega)]; omega
theorem lch_ok {st : St} (hk : OKS st.1) {d : Nat} (hd : d < st.1.length) : lch st.1 d = (XX st d).2.1 := by
  rw [lch, ccs_ok hk (d + 1) _ (by omega)]
  show (decide (d + 1 < st.1.length) && decide (0 + sumN (fun c => (if c = d then 1 else 0) * ph2 st c) (d + 1) ≤ 3)) = _
  rw [sumN_1, if_pos (by omega), Nat.zero_add, XX_ch]
  obtain ⟨a1, -⟩ := cheap_A hk hd
  cases hf : decide (d + 1 < st.1.length) with
  | false => rfl
  | true =>
    rw [Bool.true_and, a1, ph2]
    cases hn : nst (gf st.1 d) with
    | false => rw [if_neg (fun w => by cases w.1)]; rfl
    | true =>
      rw [Bool.true_and]
      refine decide_eq_decide.mpr ?_
      by_cases hz : sw (ph st) (gf st.1 d) ≤ 3
      · rw [if_pos ⟨rfl, hz⟩]
      · rw [if_neg (fun w => hz w.2)]; omega
