/-! turn: both parts of a node exchanged in the law's rows -/
theorem swpAt_of {l r1 r2 : Fm} {k : Nat} (h1 : skp (l.drop (k + 1)) 1 = some r1) (h2 : skp r1 1 = some r2) : swpAt l k = swp l (k + 1) (l.length - r1.length) (l.length - r2.length) := by
  rw [swpAt, h1]
  show swp l (k + 1) (l.length - r1.length) (l.length - ((skp r1 1).getD []).length) = _
  rw [h2]
  rfl
section PT
variable {a f : Nat} {l : Fm} {M : Mem}
theorem part_loop {r : Fm} (ha : LR M a 64) (hf : f < 4) (hl : l.length ≤ 15) (hA : ∀ j, j < l.length → M.1 a (16 * f + j) = (nd l j).1) : ∀ (fu k m : Nat), k ≤ l.length → l.length - k < fu → m ≤ 1000 - (l.length - k) → skp (l.drop k) m = some r → f_L_part_b5 fu a (nI (16 * f)) (nI m) (nI k) M = some (nI (l.length - r.length), M) := by
  intro fu
  induction fu with
  | zero => intro k m _ h; omega
  | succ fu ih =>
    intro k m hk hfu hm hs
    rw [f_L_part_b5]
    cases m with
    | zero =>
      rw [skp_0] at hs
      cases hs
      rw [if_pos (by decide +kernel), List.length_drop]
      congr 3
      omega
    | succ m =>
      have hk2 : k < l.length := by
        rcases Nat.lt_or_ge k l.length with q | q
        · exact q
        · rw [List.drop_eq_nil_of_le q] at hs
          cases hs
      rw [skp_drop hk2] at hs
      have hr := ar_le (nd l k).1
      have gk : lx M a (nI (16 * f + k)) = true := lx_ok ha (by omega) (by omega)
      rw [if_neg (nI_nle (by omega) (by omega)), nI_add, gd_of gk, ixN (by omega), hA k hk2, gd_of gk, bi_e, bi_e, bi_e, bi_e, bi_e, bi_e, nI_s, nI_s, nI_z, nI_p]
      by_cases h3 : (3 : Int32) ≤ (nd l k).1
      · rw [if_pos h3]
        by_cases h33 : (nd l k).1 = 3
        · have e : ar (nd l k).1 = 1 := by rw [ar, if_pos h3, if_pos h33]
          rw [e] at hs
          rw [if_pos h33]
          exact ih (k + 1) (m + 1) (by omega) (by omega) (by omega) hs
        · have e : ar (nd l k).1 = 2 := by rw [ar, if_pos h3, if_neg h33]
          rw [e] at hs
          rw [if_neg h33]
          exact ih (k + 1) (m + 2) (by omega) (by omega) (by omega) hs
      · have e : ar (nd l k).1 = 0 := by rw [ar, if_neg h3]
        rw [e, Nat.add_zero] at hs
        rw [if_neg h3]
        exact ih (k + 1) m (by omega) (by omega) (by omega) hs
theorem part_ok {r : Fm} {k : Nat} (ha : LR M a 64) (hf : f < 4) (hl : l.length ≤ 15) (hA : ∀ j, j < l.length → M.1 a (16 * f + j) = (nd l j).1) (hk : k ≤ l.length) (hs : skp (l.drop k) 1 = some r) : f_L_part a (nI (16 * f)) (nI k) M = some (nI (l.length - r.length), M) := by
  rw [f_L_part]
  exact part_loop ha hf hl hA FU k 1 hk (by rw [FU_e]; omega) (by omega) hs
end PT
section RT
variable {g x n a b f k le en kd nb : Nat} {l : Fm}
/-- where a node goes -/
def tox (k le en j : Nat) : Nat := if j < le then j + en - le else j - le + k + 1
theorem ro306 (hf : f < 4) (hl : l.length ≤ 15) (hkl : k + 1 ≤ le ∧ le ≤ en ∧ en ≤ l.length) (hne : kd ≠ nb ∧ kd ≠ a ∧ kd ≠ b ∧ nb ≠ a ∧ nb ≠ b) : ∀ (fu j : Nat) (M : Mem), k + 1 ≤ j → j ≤ en → en - j < fu → LR M a 64 → LR M b 64 → LR M kd 64 → LR M nb 64 → (∀ i, i < l.length → M.1 a (16 * f + i) = (nd l i).1 ∧ M.1 b (16 * f + i) = bc (nd l i)) → (∀ i, k + 1 ≤ i → i < j → M.1 kd (tox k le en i) = (nd l i).1 ∧ M.1 nb (tox k le en i) = bc (nd l i)) →
    ∃ M', f_L_acts_b306 fu g x n a b (nI f) (nI k) (nI (16 * f)) (nI le) (nI en) kd nb (nI j) M = f_L_acts_b381 FU g x n a b (nI f) (nI k) (nI (16 * f)) (nI en) kd nb (nI (k + 1)) M' ∧ (∀ i, k + 1 ≤ i → i < en → M'.1 kd (tox k le en i) = (nd l i).1 ∧ M'.1 nb (tox k le en i) = bc (nd l i)) ∧ FrL (K2 kd nb) 0 0 M M' ∧ CK M M' := by
  intro fu
  induction fu with
  | zero => intro j M _ _ h; omega
  | succ fu ih =>
    intro j M hkj hje hfu ra rb rk rn hA hK
    rw [f_L_acts_b306]
    by_cases c : j = en
    · subst c
      rw [if_pos (nI_le (Nat.le_refl _) (by omega)), bi_e, nI_s]
      exact ⟨M, rfl, hK, FrL.rf, CK.rf⟩
    · have hto : tox k le en j < 64 := by
        rw [tox]
        split <;> omega
      obtain ⟨v1, v2⟩ := hA j (by omega)
      have step : ∃ M', f_L_acts_b341 (f_L_acts_b306 fu) g x n a b (nI f) (nI k) (nI (16 * f)) (nI le) (nI en) kd nb (nI j) (nI (tox k le en j)) M = f_L_acts_b381 FU g x n a b (nI f) (nI k) (nI (16 * f)) (nI en) kd nb (nI (k + 1)) M' ∧ (∀ i, k + 1 ≤ i → i < en → M'.1 kd (tox k le en i) = (nd l i).1 ∧ M'.1 nb (tox k le en i) = bc (nd l i)) ∧ FrL (K2 kd nb) 0 0 M M' ∧ CK M M' := by
        have q2 : FrL (K2 kd nb) 0 0 M (mset (mset M kd (tox k le en j) (nd l j).1) nb (tox k le en j) (bc (nd l j))) := (FrL.rf.set (Or.inl (Or.inl rfl))).set (Or.inl (Or.inr rfl))
        obtain ⟨M2, e1, e2, e3, e4⟩ := ih (j + 1) (mset (mset M kd (tox k le en j) (nd l j).1) nb (tox k le en j) (bc (nd l j))) (by omega) (by omega) (by omega) ra rb rk rn (fun i hi => by rw [ms_a (Ne.symm hne.2.2.2.1), ms_a (Ne.symm hne.2.1), ms_a (Ne.symm hne.2.2.2.2), ms_a (Ne.symm hne.2.2.1)]; exact hA i hi) (fun i h1 h2 => by
          rw [ms_a hne.1, ms_k', ms_k', ms_a (Ne.symm hne.1)]
          by_cases q : i = j
          · rw [q, if_pos rfl, if_pos rfl]; exact ⟨rfl, rfl⟩
          · have hneq : ¬ tox k le en i = tox k le en j := by
              rw [tox, tox]
              split <;> split <;> omega
            rw [if_neg hneq, if_neg hneq]
            exact hK i h1 (by omega))
        refine ⟨M2, ?_, e2, q2.tr e3 (fun c h => Or.inl h), ((CK.rf.set rk.1).set rn.1).tr e4⟩
        have i1 : ix (nI (16 * f + j)) = 16 * f + j := ixN (by omega)
        have i2 : ix (nI (tox k le en j)) = tox k le en j := ixN (by omega)
        rw [f_L_acts_b341, nI_add, gd_of (lx_ok ra (by omega) (by omega)), gd_of (lx_ok rk hto (by omega)), bm_e, i1, i2, v1, gd_of (lx_ok rb.set (by omega) (by omega)), gd_of (lx_ok rn.set hto (by omega)), bm_e, bi_e, nI_s, ms_a (Ne.symm hne.2.2.1), v2]
        exact e1
      rw [if_neg (nI_ge (by omega) (by omega))]
      by_cases d : le ≤ j
      · have e : nI j - nI le + nI k + 1 = nI (tox k le en j) := by rw [nI_sb d, nI_add, nI_s, tox, if_neg (by omega)]
        rw [if_pos (nI_le d (by omega)), e]
        exact step
      · have e : nI j + nI en - nI le = nI (tox k le en j) := by rw [nI_add, nI_sb (by omega), tox, if_pos (by omega)]
        rw [if_neg (nI_ge (by omega) (by omega)), e]
        exact step
/-- the new row is what the exchange gives -/
theorem tox_nd (hkl : k + 1 ≤ le ∧ le ≤ en ∧ en ≤ l.length) {M : Mem} (h : ∀ i, k + 1 ≤ i → i < en → M.1 kd (tox k le en i) = (nd l i).1 ∧ M.1 nb (tox k le en i) = bc (nd l i)) : ∀ p, k + 1 ≤ p → p < en → M.1 kd p = (nd (swp l (k + 1) le en) p).1 ∧ M.1 nb p = bc (nd (swp l (k + 1) le en) p) := by
  intro p h1 h2
  rw [nd_swp hkl.1 hkl.2.1 hkl.2.2, if_neg (by omega)]
  by_cases c : p < k + 1 + (en - le)
  · rw [if_pos c]
    have := h (p + le - (k + 1)) (by omega) (by omega)
    have e : tox k le en (p + le - (k + 1)) = p := by rw [tox, if_neg (by omega)]; omega
    rw [e] at this
    exact this
  · rw [if_neg c, if_pos h2]
    have := h (p + le - en) (by omega) (by omega)
    have e : tox k le en (p + le - en) = p := by rw [tox, if_pos (by omega)]; omega
    rw [e] at this
    exact this
theorem bk381 (hf : f < 4) (hen : en ≤ 15) (hne : kd ≠ nb ∧ kd ≠ a ∧ kd ≠ b ∧ nb ≠ a ∧ nb ≠ b) (hab : a ≠ b) {L : Fm} : ∀ (fu j : Nat) (M : Mem), j ≤ en → en - j < fu → LR M a 64 → LR M b 64 → LR M kd 64 → LR M nb 64 → (∀ p, j ≤ p → p < en → M.1 kd p = (nd L p).1 ∧ M.1 nb p = bc (nd L p)) →
    ∃ fu' M', f_L_acts_b381 fu g x n a b (nI f) (nI k) (nI (16 * f)) (nI en) kd nb (nI j) M = f_L_acts_b381 (fu' + 1) g x n a b (nI f) (nI k) (nI (16 * f)) (nI en) kd nb (nI en) M' ∧ (∀ p, j ≤ p → p < en → M'.1 a (16 * f + p) = (nd L p).1 ∧ M'.1 b (16 * f + p) = bc (nd L p)) ∧ (∀ p, ¬ (16 * f + j ≤ p ∧ p < 16 * f + en) → M'.1 a p = M.1 a p ∧ M'.1 b p = M.1 b p) ∧ FrL (K2 a b) 0 0 M M' ∧ CK M M' := by
  intro fu
  induction fu with
  | zero => intro j M _ h; omega
  | succ fu ih =>
    intro j M hje hfu ra rb rk rn hK
    by_cases c : j = en
    · subst c
      exact ⟨fu, M, rfl, fun p h1 h2 => by omega, fun p _ => ⟨rfl, rfl⟩, FrL.rf, CK.rf⟩
    · obtain ⟨v1, v2⟩ := hK j (Nat.le_refl _) (by omega)
      have q2 : FrL (K2 a b) 0 0 M (mset (mset M a (16 * f + j) (nd L j).1) b (16 * f + j) (bc (nd L j))) := (FrL.rf.set (Or.inl (Or.inl rfl))).set (Or.inl (Or.inr rfl))
      obtain ⟨fu', M2, e1, e2, e3, e4, e5⟩ := ih (j + 1) (mset (mset M a (16 * f + j) (nd L j).1) b (16 * f + j) (bc (nd L j))) (by omega) (by omega) ra rb rk rn (fun p h1 h2 => by rw [ms_a hne.2.2.1, ms_a hne.2.1, ms_a hne.2.2.2.2, ms_a hne.2.2.2.1]; exact hK p (by omega) h2)
      refine ⟨fu', M2, ?_, fun p h1 h2 => ?_, fun p hp => ?_, q2.tr e4 (fun c h => Or.inl h), ((CK.rf.set ra.1).set rb.1).tr e5⟩
      · have i1 : ix (nI (16 * f + j)) = 16 * f + j := ixN (by omega)
        have i2 : ix (nI j) = j := ixN (by omega)
        rw [f_L_acts_b381, if_neg (nI_ge (by omega) (by omega)), gd_of (lx_ok rk (by omega) (by omega)), nI_add, gd_of (lx_ok ra (by omega) (by omega)), bm_e, i1, i2, v1, gd_of (lx_ok rn.set (by omega) (by omega)), gd_of (lx_ok rb.set (by omega) (by omega)), bm_e, bi_e, nI_s, ms_a hne.2.2.2.1, v2]
        exact e1
      · by_cases q : p = j
        · subst q
          obtain ⟨z1, z2⟩ := e3 (16 * f + p) (by omega)
          rw [z1, z2, ms_a hab, ms_eq, ms_eq]
          exact ⟨rfl, rfl⟩
        · exact e2 p (by omega) h2
      · obtain ⟨z1, z2⟩ := e3 p (by omega)
        rw [z1, z2, ms_a hab, ms_k (by omega), ms_k (by omega), ms_a (Ne.symm hab)]
        exact ⟨rfl, rfl⟩
end RT
/-- needs and sizes don't ask what leaves are worth -/
theorem tr_nd {lv lv' : Nd → Int32} {l : Fm} : ∀ (m k : Nat), l.length - k < m → (tr lv l k).1 = (tr lv' l k).1 ∧ (tr lv l k).2.1 = (tr lv' l k).2.1 := by
  intro m
  induction m with
  | zero => intro k h; omega
  | succ m ih =>
    intro k hm
    by_cases hk : k < l.length
    · rcases ar_cases (nd l k).1 with c | c | c
      · rw [tr_a0 hk c, tr_a0 hk c]; exact ⟨rfl, rfl⟩
      · obtain ⟨h1, h2⟩ := ih (k + 1) (by omega)
        rw [tr_a1 hk c, tr_a1 hk c, h1, h2]; exact ⟨rfl, rfl⟩
      · obtain ⟨h1, h2⟩ := ih (k + 1) (by omega)
        obtain ⟨h3, h4⟩ := ih (k + 1 + (tr lv' l (k + 1)).1) (by omega)
        rw [tr_a2 hk c, tr_a2 hk c, h1, h2, h3, h4]; exact ⟨rfl, rfl⟩
    · rw [tr_out (by omega), tr_out (by omega)]; exact ⟨rfl, rfl⟩
