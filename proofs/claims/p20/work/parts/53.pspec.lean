/-! what reading gives: a reader of lists -/
def sg (tx : List Int32) (i : Nat) : Int32 := tx.getD i 0
abbrev PR : Type := Bool × Nat × Fm
abbrev dig (c : Int32) : Prop := ¬ c < 48 ∧ ¬ 57 < c
def pNum (tx : List Int32) : Nat → Int32 → Nat → Int32 × Nat
  | 0, v, i => (v, i)
  | r + 1, v, i => if dig (sg tx i) then (if r = 2 ∨ ¬ v ≤ 0 then pNum tx r (10 * v + sg tx i - 48) (i + 1) else (v, i)) else (v, i)
def pLeaf (tx : List Int32) (fm i : Nat) (l : Fm) : PR :=
  if l.length = 30 then (false, i, l)
  else if dig (sg tx i) then (true, (pNum tx 3 0 i).2, l ++ [(0, (pNum tx 3 0 i).1)])
  else if ¬ sg tx i < 97 ∧ ¬ 105 ≤ sg tx i then (true, i + 1, l ++ [(1, sg tx i - 97)])
  else if ¬ sg tx i < 65 ∧ ¬ 65 + nI fm ≤ sg tx i then (true, i + 1, l ++ [(2, sg tx i - 65)])
  else (false, i, l)
def pFac (rc : Nat → Nat → Fm → PR) (tx : List Int32) (fm dep i : Nat) (l : Fm) : PR :=
  if sg tx i = 40 ∨ sg tx i = 33 then (if 8 ≤ dep then (false, i, l) else rc (dep + 1) i l) else pLeaf tx fm i l
def ins (s : Nat) (q : Nd) (l : Fm) : Fm := l.take s ++ q :: l.drop s
def pProL (rc : Nat → Nat → Fm → PR) (tx : List Int32) (fm dep s : Nat) : Nat → PR → PR
  | 0, r => r
  | n + 1, r => if r.1 = false then r else if sg tx r.2.1 = 42 then (if r.2.2.length = 30 then (false, r.2.1, r.2.2) else pProL rc tx fm dep s n (pFac rc tx fm dep (r.2.1 + 1) (ins s (6, 0) r.2.2))) else r
def pPro (rc : Nat → Nat → Fm → PR) (tx : List Int32) (fm dep i : Nat) (l : Fm) : PR := pProL rc tx fm dep l.length 30 (pFac rc tx fm dep i l)
def pSumL (rc : Nat → Nat → Fm → PR) (tx : List Int32) (fm dep s : Nat) : Nat → PR → PR
  | 0, r => r
  | n + 1, r => if r.1 = false then r else if sg tx r.2.1 = 43 ∨ sg tx r.2.1 = 45 then (if r.2.2.length = 30 then (false, r.2.1, r.2.2) else pSumL rc tx fm dep s n (pPro rc tx fm dep (r.2.1 + 1) (ins s (if sg tx r.2.1 = 43 then 4 else 5, 0) r.2.2))) else r
def pSum (rc : Nat → Nat → Fm → PR) (tx : List Int32) (fm dep i : Nat) (l : Fm) : PR := pSumL rc tx fm dep l.length 30 (pPro rc tx fm dep i l)
def pNest (tx : List Int32) (fm : Nat) : Nat → Nat → Nat → Fm → PR
  | 0, _, i, l => (false, i, l)
  | n + 1, dep, i, l =>
    if sg tx i = 40 then
      (if (pSum (pNest tx fm n) tx fm dep (i + 1) l).1 = false then pSum (pNest tx fm n) tx fm dep (i + 1) l
       else if sg tx (pSum (pNest tx fm n) tx fm dep (i + 1) l).2.1 = 41 then (true, (pSum (pNest tx fm n) tx fm dep (i + 1) l).2.1 + 1, (pSum (pNest tx fm n) tx fm dep (i + 1) l).2.2)
       else (false, (pSum (pNest tx fm n) tx fm dep (i + 1) l).2))
    else if l.length = 30 then (false, i, l)
    else if sg tx i = 33 then pFac (pNest tx fm n) tx fm dep (i + 1) (l ++ [(3, 0)])
    else (false, i, l)
def pTop (tx : List Int32) (fm i : Nat) : PR := pSum (pNest tx fm 60) tx fm 0 i []
abbrev PS : Type := Bool × Nat × List Fm
def pEnd (tx : List Int32) (i : Nat) (fs : List Fm) : PS :=
  if (pTop tx fs.length i).1 = true ∧ sg tx (pTop tx fs.length i).2.1 = 0 then (true, (pTop tx fs.length i).2.1, fs ++ [(pTop tx fs.length i).2.2]) else (false, (pTop tx fs.length i).2.1, fs)
def pSh (tx : List Int32) : Nat → Nat → List Fm → PS
  | 0, i, fs => pEnd tx i fs
  | r + 1, i, fs =>
    if sg tx i = 65 + nI fs.length then
      (if sg tx (i + 1) = 61 then
        (if (pTop tx fs.length (i + 2)).1 = false then (false, (pTop tx fs.length (i + 2)).2.1, fs)
         else if sg tx (pTop tx fs.length (i + 2)).2.1 = 59 then pSh tx r ((pTop tx fs.length (i + 2)).2.1 + 1) (fs ++ [(pTop tx fs.length (i + 2)).2.2])
         else (false, (pTop tx fs.length (i + 2)).2.1, fs))
       else (false, i + 1, fs))
    else pEnd tx i fs
def sp_read (s : S3) : Int32 × S3 :=
  if (pSh s.1 5 0 []).1 = true then (nI (pSh s.1 5 0 []).2.2.length, (s.1, ((pSh s.1 5 0 []).2.2, s.2.1.2), recH s.2.2 s.2.1)) else ((-1000) - nI (pSh s.1 5 0 []).2.1, s)
/-! what is read is well made -/
def Gd (tx : List Int32) (fm i : Nat) (l : Fm) (r : PR) : Prop := i ≤ r.2.1 ∧ r.2.1 ≤ tx.length ∧ r.2.2.length ≤ 30 ∧ (r.1 = true → i < r.2.1 ∧ ∃ T, r.2.2 = l ++ T ∧ wf T ∧ ∀ q ∈ T, okN fm q)
theorem sg_lt {tx : List Int32} {i : Nat} (h : sg tx i ≠ 0) : i < tx.length := by
  rcases Nat.lt_or_ge i tx.length with q | q
  · exact q
  · exact absurd (by simp [sg, List.getElem?_eq_none q]) h
theorem dig_ne {c : Int32} (h : dig c) : c ≠ 0 := by
  intro q
  rw [q] at h
  exact h.1 (by decide)
theorem dig_k {c : Int32} (h : dig c) : ∃ k, c = nI (48 + k) ∧ k < 10 := by
  obtain ⟨z, rfl, hz⟩ := nonneg_nI (x := c) (fun q => h.1 (Int32.lt_trans q (by decide)))
  have h1 : 48 ≤ z := by
    rcases Nat.lt_or_ge z 48 with q | q
    · exact absurd (show nI z < nI 48 from nI_lt q (by omega)) h.1
    · exact q
  have h2 : z ≤ 57 := by
    rcases Nat.lt_or_ge 57 z with q | q
    · exact absurd (show (57 : Int32) < nI z from nI_lt q hz) h.2
    · exact q
  exact ⟨z - 48, by congr 1; omega, by omega⟩
theorem num_ok {tx : List Int32} : ∀ (r k i : Nat), r ≤ 3 → k < 10 ^ (3 - r) → i ≤ tx.length → ∃ k' i', pNum tx r (nI k) i = (nI k', i') ∧ k' < 1000 ∧ i ≤ i' ∧ i' ≤ tx.length ∧ (r = 3 → dig (sg tx i) → i < i')
  | 0, k, i, _, hk, hi => ⟨k, i, rfl, by simpa using hk, Nat.le_refl _, hi, fun h => by omega⟩
  | r + 1, k, i, hr, hk, hi => by
    rw [pNum]
    have hk3 : k < 1000 := Nat.lt_of_lt_of_le hk (Nat.le_trans (Nat.pow_le_pow_right (by omega) (show 3 - (r + 1) ≤ 3 by omega)) (by decide))
    by_cases c : dig (sg tx i)
    · rw [if_pos c]
      by_cases d : r = 2 ∨ ¬ nI k ≤ 0
      · rw [if_pos d]
        obtain ⟨z, hz, hz10⟩ := dig_k c
        have e : (10 : Int32) * nI k + sg tx i - 48 = nI (10 * k + z) := by
          rw [hz, show (10 : Int32) = nI 10 from rfl, nI_mul, nI_add, show (48 : Int32) = nI 48 from rfl, nI_sb (by omega)]
          congr 1; omega
        have hp : 10 * k + z < 10 ^ (3 - r) := by
          have : 10 ^ (3 - r) = 10 * 10 ^ (3 - (r + 1)) := by
            rw [show 3 - r = (3 - (r + 1)) + 1 by omega, Nat.pow_succ, Nat.mul_comm]
          omega
        obtain ⟨k', i', q1, q2, q3, q4, -⟩ := num_ok r (10 * k + z) (i + 1) (by omega) hp (sg_lt (dig_ne c))
        rw [e]
        exact ⟨k', i', q1, q2, by omega, q4, fun _ _ => by omega⟩
      · rw [if_neg d]
        exact ⟨k, i, rfl, hk3, Nat.le_refl _, hi, fun h _ => absurd (Or.inl (by omega)) d⟩
    · rw [if_neg c]
      exact ⟨k, i, rfl, hk3, Nat.le_refl _, hi, fun _ h => absurd h c⟩
theorem wf_leaf {q : Nd} (h : ar q.1 = 0) : wf [q] := by
  rw [wf, skp, h]; rfl
theorem wf_un {q : Nd} {T : Fm} (h : ar q.1 = 1) (hT : wf T) : wf (q :: T) := by
  rw [wf, skp, h]; exact hT
theorem wf_bin {q : Nd} {T T2 : Fm} (h : ar q.1 = 2) (hT : wf T) (hT2 : wf T2) : wf (q :: (T ++ T2)) := by
  rw [wf, skp, h]
  have := skp_app (X := T2) (m := 1) hT
  exact this.trans hT2
theorem leaf_gd {tx : List Int32} {fm i : Nat} {l : Fm} (hi : i ≤ tx.length) (hl : l.length ≤ 30) (hfm : fm ≤ 5) : Gd tx fm i l (pLeaf tx fm i l) := by
  rw [pLeaf]
  have no : Gd tx fm i l (false, i, l) := ⟨Nat.le_refl _, hi, hl, fun q => by cases q⟩
  by_cases c0 : l.length = 30
  · rw [if_pos c0]; exact no
  rw [if_neg c0]
  by_cases c1 : dig (sg tx i)
  · rw [if_pos c1]
    obtain ⟨k', i', q1, q2, q3, q4, q5⟩ := num_ok (tx := tx) 3 0 i (Nat.le_refl _) (by decide) hi
    rw [show pNum tx 3 0 i = (nI k', i') from q1]
    refine ⟨q3, q4, by simp; omega, fun _ => ⟨q5 rfl c1, [(0, nI k')], rfl, wf_leaf rfl, fun q hq => ?_⟩⟩
    rw [List.mem_singleton] at hq
    rw [hq]
    exact Or.inl ⟨rfl, Int32.not_lt.mp (nI_pos (by omega)), (show nI k' < nI 1000 from nI_lt q2 (by omega))⟩
  rw [if_neg c1]
  by_cases c2 : ¬ sg tx i < 97 ∧ ¬ 105 ≤ sg tx i
  · rw [if_pos c2]
    obtain ⟨z, hz, hz2⟩ := nonneg_nI (x := sg tx i) (fun q => c2.1 (Int32.lt_trans q (by decide)))
    rw [hz] at c2
    have h1 : 97 ≤ z := by
      rcases Nat.lt_or_ge z 97 with q | q
      · exact absurd (show nI z < nI 97 from nI_lt q (by omega)) c2.1
      · exact q
    have h2 : z < 105 := by
      rcases Nat.lt_or_ge z 105 with q | q
      · exact q
      · exact absurd (show (105 : Int32) ≤ nI z from nI_le q hz2) c2.2
    have hne : sg tx i ≠ 0 := by rw [hz]; exact nI_ne0 (by omega) (by omega)
    have e : sg tx i - 97 = nI (z - 97) := by rw [hz, show (97 : Int32) = nI 97 from rfl, nI_sb h1]
    refine ⟨by show i ≤ i + 1; omega, sg_lt hne, by simp; omega, fun _ => ⟨by show i < i + 1; omega, [(1, sg tx i - 97)], rfl, wf_leaf rfl, fun q hq => ?_⟩⟩
    rw [List.mem_singleton] at hq
    rw [hq]
    exact Or.inr (Or.inl ⟨rfl, z - 97, by omega, e⟩)
  rw [if_neg c2]
  by_cases c3 : ¬ sg tx i < 65 ∧ ¬ 65 + nI fm ≤ sg tx i
  · rw [if_pos c3]
    obtain ⟨z, hz, hz2⟩ := nonneg_nI (x := sg tx i) (fun q => c3.1 (Int32.lt_trans q (by decide)))
    rw [hz] at c3
    have h1 : 65 ≤ z := by
      rcases Nat.lt_or_ge z 65 with q | q
      · exact absurd (show nI z < nI 65 from nI_lt q (by omega)) c3.1
      · exact q
    have h2 : z < 65 + fm := by
      rcases Nat.lt_or_ge z (65 + fm) with q | q
      · exact q
      · exact absurd (show (65 : Int32) + nI fm ≤ nI z by rw [show (65 : Int32) = nI 65 from rfl, nI_add]; exact nI_le q hz2) c3.2
    have hne : sg tx i ≠ 0 := by rw [hz]; exact nI_ne0 (by omega) (by omega)
    have e : sg tx i - 65 = nI (z - 65) := by rw [hz, show (65 : Int32) = nI 65 from rfl, nI_sb h1]
    refine ⟨by show i ≤ i + 1; omega, sg_lt hne, by simp; omega, fun _ => ⟨by show i < i + 1; omega, [(2, sg tx i - 65)], rfl, wf_leaf rfl, fun q hq => ?_⟩⟩
    rw [List.mem_singleton] at hq
    rw [hq]
    exact Or.inr (Or.inr (Or.inl ⟨rfl, z - 65, by omega, e⟩))
  rw [if_neg c3]
  exact no
/-- what the deeper reader must give -/
def GdR (tx : List Int32) (fm : Nat) (rc : Nat → Nat → Fm → PR) : Prop := ∀ dep i l, i ≤ tx.length → l.length ≤ 30 → Gd tx fm i l (rc dep i l)
theorem fac_gd {tx : List Int32} {fm : Nat} {rc : Nat → Nat → Fm → PR} (hrc : GdR tx fm rc) (hfm : fm ≤ 5) {dep i : Nat} {l : Fm} (hi : i ≤ tx.length) (hl : l.length ≤ 30) : Gd tx fm i l (pFac rc tx fm dep i l) := by
  rw [pFac]
  split
  · split
    · exact ⟨Nat.le_refl _, hi, hl, fun q => by cases q⟩
    · exact hrc _ _ _ hi hl
  · exact leaf_gd hi hl hfm
theorem ins_at {l T : Fm} {q : Nd} : ins l.length q (l ++ T) = l ++ q :: T := by simp [ins]
theorem ins_len {s : Nat} {q : Nd} {l : Fm} : (ins s q l).length = l.length + 1 := by
  simp [ins]; omega
/-- an operation is put before what is read, and its other part is read -/
theorem op_gd {tx : List Int32} {fm i : Nat} {l : Fm} {q : Nd} {r r1 : PR} (hq : ar q.1 = 2) (hk : okN fm q) (h : Gd tx fm i l r) (ht : r.1 = true) (hg : Gd tx fm (r.2.1 + 1) (ins l.length q r.2.2) r1) : Gd tx fm i l r1 := by
  obtain ⟨h1, h2, h3, h4⟩ := h
  obtain ⟨h5, T, h6, h7, h8⟩ := h4 ht
  obtain ⟨g1, g2, g3, g4⟩ := hg
  refine ⟨by omega, g2, g3, fun q1 => ?_⟩
  obtain ⟨g5, T2, g6, g7, g8⟩ := g4 q1
  rw [h6, ins_at] at g6
  refine ⟨by omega, q :: (T ++ T2), by rw [g6]; simp, wf_bin hq h7 g7, fun z hz => ?_⟩
  rcases List.mem_cons.mp hz with w | w
  · rw [w]; exact hk
  rcases List.mem_append.mp w with w | w
  · exact h8 z w
  · exact g8 z w
theorem proL_gd {tx : List Int32} {fm : Nat} {rc : Nat → Nat → Fm → PR} (hrc : GdR tx fm rc) (hfm : fm ≤ 5) {dep i : Nat} {l : Fm} : ∀ (n : Nat) (r : PR), Gd tx fm i l r → Gd tx fm i l (pProL rc tx fm dep l.length n r)
  | 0, r, h => h
  | n + 1, r, h => by
    rw [pProL]
    by_cases c : r.1 = false
    · rw [if_pos c]; exact h
    rw [if_neg c]
    by_cases d : sg tx r.2.1 = 42
    · rw [if_pos d]
      by_cases e : r.2.2.length = 30
      · rw [if_pos e]; exact ⟨h.1, h.2.1, h.2.2.1, fun q => by cases q⟩
      · rw [if_neg e]
        have ht : r.1 = true := by simpa using c
        exact proL_gd hrc hfm n _ (op_gd (by decide) (Or.inr (Or.inr (Or.inr ⟨Or.inr (Or.inr (Or.inr rfl)), rfl⟩))) h ht (fac_gd hrc hfm (sg_lt (by rw [d]; decide)) (by rw [ins_len]; have := h.2.2.1; omega)))
    · rw [if_neg d]; exact h
theorem pro_gd {tx : List Int32} {fm : Nat} {rc : Nat → Nat → Fm → PR} (hrc : GdR tx fm rc) (hfm : fm ≤ 5) {dep i : Nat} {l : Fm} (hi : i ≤ tx.length) (hl : l.length ≤ 30) : Gd tx fm i l (pPro rc tx fm dep i l) := proL_gd hrc hfm 30 _ (fac_gd hrc hfm hi hl)
theorem sumL_gd {tx : List Int32} {fm : Nat} {rc : Nat → Nat → Fm → PR} (hrc : GdR tx fm rc) (hfm : fm ≤ 5) {dep i : Nat} {l : Fm} : ∀ (n : Nat) (r : PR), Gd tx fm i l r → Gd tx fm i l (pSumL rc tx fm dep l.length n r)
  | 0, r, h => h
  | n + 1, r, h => by
    rw [pSumL]
    by_cases c : r.1 = false
    · rw [if_pos c]; exact h
    rw [if_neg c]
    by_cases d : sg tx r.2.1 = 43 ∨ sg tx r.2.1 = 45
    · rw [if_pos d]
      by_cases e : r.2.2.length = 30
      · rw [if_pos e]; exact ⟨h.1, h.2.1, h.2.2.1, fun q => by cases q⟩
      · rw [if_neg e]
        have ht : r.1 = true := by simpa using c
        have hne : sg tx r.2.1 ≠ 0 := by rcases d with d | d <;> rw [d] <;> decide
        refine sumL_gd hrc hfm n _ (op_gd ?_ ?_ h ht (pro_gd hrc hfm (sg_lt hne) (by rw [ins_len]; have := h.2.2.1; omega)))
        · show ar (if sg tx r.2.1 = 43 then 4 else 5) = 2
          split <;> decide
        · refine Or.inr (Or.inr (Or.inr ⟨?_, rfl⟩))
          show (if sg tx r.2.1 = 43 then (4 : Int32) else 5) = 3 ∨ (if sg tx r.2.1 = 43 then (4 : Int32) else 5) = 4 ∨ (if sg tx r.2.1 = 43 then (4 : Int32) else 5) = 5 ∨ (if sg tx r.2.1 = 43 then (4 : Int32) else 5) = 6
          split
          · exact Or.inr (Or.inl rfl)
          · exact Or.inr (Or.inr (Or.inl rfl))
    · rw [if_neg d]; exact h
theorem sum_gd {tx : List Int32} {fm : Nat} {rc : Nat → Nat → Fm → PR} (hrc : GdR tx fm rc) (hfm : fm ≤ 5) {dep i : Nat} {l : Fm} (hi : i ≤ tx.length) (hl : l.length ≤ 30) : Gd tx fm i l (pSum rc tx fm dep i l) := sumL_gd hrc hfm 30 _ (pro_gd hrc hfm hi hl)
theorem nest_gd {tx : List Int32} {fm : Nat} (hfm : fm ≤ 5) : ∀ n, GdR tx fm (pNest tx fm n)
  | 0, dep, i, l, hi, hl => ⟨Nat.le_refl _, hi, hl, fun q => by cases q⟩
  | n + 1, dep, i, l, hi, hl => by
    have ih := nest_gd (tx := tx) hfm n
    rw [pNest]
    by_cases c : sg tx i = 40
    · rw [if_pos c]
      have hi1 : i + 1 ≤ tx.length := sg_lt (by rw [c]; decide)
      obtain ⟨g1, g2, g3, g4⟩ := sum_gd ih hfm (dep := dep) hi1 hl
      generalize pSum (pNest tx fm n) tx fm dep (i + 1) l = r at *
      by_cases d : r.1 = false
      · rw [if_pos d]
        exact ⟨by omega, g2, g3, fun q => by rw [d] at q; cases q⟩
      · rw [if_neg d]
        by_cases e : sg tx r.2.1 = 41
        · rw [if_pos e]
          obtain ⟨g5, g6⟩ := g4 (by simpa using d)
          exact ⟨by show i ≤ r.2.1 + 1; omega, sg_lt (by rw [e]; decide), g3, fun _ => ⟨by show i < r.2.1 + 1; omega, g6⟩⟩
        · rw [if_neg e]
          exact ⟨by show i ≤ r.2.1; omega, g2, g3, fun q => by cases q⟩
    · rw [if_neg c]
      by_cases d : l.length = 30
      · rw [if_pos d]; exact ⟨Nat.le_refl _, hi, hl, fun q => by cases q⟩
      rw [if_neg d]
      by_cases e : sg tx i = 33
      · rw [if_pos e]
        have hi1 : i + 1 ≤ tx.length := sg_lt (by rw [e]; decide)
        obtain ⟨g1, g2, g3, g4⟩ := fac_gd ih hfm (dep := dep) (l := l ++ [(3, 0)]) hi1 (by simp; omega)
        refine ⟨by omega, g2, g3, fun q => ?_⟩
        obtain ⟨g5, T, g6, g7, g8⟩ := g4 q
        refine ⟨by omega, (3, 0) :: T, by rw [g6]; simp, wf_un rfl g7, fun z hz => ?_⟩
        rcases List.mem_cons.mp hz with w | w
        · rw [w]; exact Or.inr (Or.inr (Or.inr ⟨Or.inl rfl, rfl⟩))
        · exact g8 z w
      · rw [if_neg e]; exact ⟨Nat.le_refl _, hi, hl, fun q => by cases q⟩
theorem top_gd {tx : List Int32} {fm i : Nat} (hfm : fm ≤ 5) (hi : i ≤ tx.length) : Gd tx fm i [] (pTop tx fm i) := sum_gd (nest_gd hfm 60) hfm hi (by simp)
