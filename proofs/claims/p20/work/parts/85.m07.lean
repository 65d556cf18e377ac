/-! tell: the loop -/
theorem nop_n {a b : Nat} (ha : a < 1000) (hb : b < 1000) : nop (nI a) (nI b) false = nI (npair a b) := by
  rw [nop, npair]
  by_cases c : a ≤ b
  · rw [if_pos (nI_le c (by omega))]
    by_cases d : a < b
    · rw [if_pos (nI_lt d (by omega)), if_neg (by omega), Nat.max_eq_right (by omega)]
    · rw [if_neg (nI_nlt (by omega) (by omega)), if_neg (by decide), if_pos (by omega), nI_s]
  · rw [if_neg (nI_ge (by omega) (by omega)), if_neg (by omega), Nat.max_eq_left (by omega)]
theorem nop_s {a : Nat} (ha : a < 1000) : nop (nI a) (nI a) true = nI a := by
  rw [nop, if_pos (nI_le (Nat.le_refl _) (by omega)), if_neg (nI_nlt (Nat.le_refl _) (by omega)), if_pos rfl]
theorem mx_n {a b : Nat} (ha : a < 1000) (hb : b < 1000) : 1 + (if nI a ≤ nI b then nI b else nI a) = nI (max a b + 1) := by
  rw [Nat.add_comm (max a b) 1, show (1 : Int32) = nI 1 from rfl]
  by_cases c : a ≤ b
  · rw [if_pos (nI_le c (by omega)), nI_add, Nat.max_eq_right c]
  · rw [if_neg (nI_ge (by omega) (by omega)), nI_add, Nat.max_eq_left (by omega)]
section M4
variable {M : Mem} {sz ne dp vl j : Nat} {A B C D : Int32}
/-- four rows written at one place -/
def mset4 (M : Mem) (sz ne dp vl j : Nat) (A B C D : Int32) : Mem := mset (mset (mset (mset M sz j A) ne j B) dp j C) vl j D
theorem m4_o {c : Nat} (h : ¬ K4 sz ne dp vl c) : (mset4 M sz ne dp vl j A B C D).1 c = M.1 c := by
  rw [mset4, mset_ne (fun q => h (Or.inr (Or.inr (Or.inr q)))), mset_ne (fun q => h (Or.inr (Or.inr (Or.inl q)))), mset_ne (fun q => h (Or.inr (Or.inl q))), mset_ne (fun q => h (Or.inl q))]
theorem m4_fr : FrL (K4 sz ne dp vl) 0 0 M (mset4 M sz ne dp vl j A B C D) :=
  (((FrL.rf.set (Or.inl (Or.inl rfl))).set (Or.inl (Or.inr (Or.inl rfl)))).set (Or.inl (Or.inr (Or.inr (Or.inl rfl))))).set (Or.inl (Or.inr (Or.inr (Or.inr rfl))))
theorem m4_ck (h1 : 208 ≤ sz) (h2 : 208 ≤ ne) (h3 : 208 ≤ dp) (h4 : 208 ≤ vl) : CK M (mset4 M sz ne dp vl j A B C D) := (((CK.rf.set h1).set h2).set h3).set h4
abbrev Ap4 (sz ne dp vl : Nat) : Prop := (sz ≠ ne ∧ sz ≠ dp ∧ sz ≠ vl) ∧ (ne ≠ dp ∧ ne ≠ vl) ∧ dp ≠ vl
theorem m4_tb {lv : Nd → Int32} {l : Fm} (ha : Ap4 sz ne dp vl) (h : TB M sz ne dp vl lv l (j + 1)) (hr : (A, B, C, D) = (nI (tr lv l j).1, nI (tr lv l j).2.1, nI (tr lv l j).2.2.1, (tr lv l j).2.2.2)) : TB (mset4 M sz ne dp vl j A B C D) sz ne dp vl lv l j := by
  obtain ⟨⟨a1, a2, a3⟩, ⟨a4, a5⟩, a6⟩ := ha
  simp only [Prod.mk.injEq] at hr
  obtain ⟨r1, r2, r3, r4⟩ := hr
  intro k h1 h2
  rw [mset4]
  by_cases c : k = j
  · subst c
    rw [ms_a a3, ms_a a2, ms_a a1, ms_eq, ms_a a5, ms_a a4, ms_eq, ms_a a6, ms_eq, ms_eq]
    exact ⟨r1, r2, r3, r4⟩
  · rw [ms_a a3, ms_a a2, ms_a a1, ms_k c, ms_a a5, ms_a a4, ms_k c, ms_a a6, ms_k c, ms_k c, ms_a (Ne.symm a1), ms_a (Ne.symm a4), ms_a (Ne.symm a2), ms_a (Ne.symm a6), ms_a (Ne.symm a5), ms_a (Ne.symm a3)]
    exact h k (by omega) h2
end M4
section TLL
variable {x w kd nb sz ne dp vl f : Nat} {l : Fm} {cells vals : Nat → Int32}
/-- what tell reads -/
def TIn (M : Mem) (x w kd nb f : Nat) (l : Fm) (cells vals : Nat → Int32) : Prop := (LR M x 8 ∧ LR M w 8 ∧ LR M kd 64 ∧ LR M nb 64) ∧ KR M kd nb l ∧ (∀ c, c < 8 → M.1 x c = cells c) ∧ ∀ c, c < f → M.1 w c = vals c
theorem TIn.fr {S : Nat → Prop} {c0 w0 : Nat} {M M' : Mem} (h : TIn M x w kd nb f l cells vals) (hf : FrL S c0 w0 M M') (h1 : ¬ S x) (h2 : ¬ S w) (h3 : ¬ S kd) (h4 : ¬ S nb) : TIn M' x w kd nb f l cells vals := by
  obtain ⟨⟨r1, r2, r3, r4⟩, e1, e2, e3⟩ := h
  exact ⟨⟨r1.fr hf, r2.fr hf, r3.fr hf, r4.fr hf⟩, fun p hp => by rw [hf.row r3.lt h3, hf.row r4.lt h4]; exact e1 p hp, fun c hc => by rw [hf.row r1.lt h1]; exact e2 c hc, fun c hc => by rw [hf.row r2.lt h2]; exact e3 c hc⟩
theorem tell_loop (hw : wf l) (hl60 : l.length ≤ 60) (hf8 : f ≤ 6) (hok : ∀ q ∈ l, okN f q) (hv : ∀ k, k < l.length → ar (nd l k).1 = 0 → vb (lvf cells vals (nd l k))) (ha : Ap4 sz ne dp vl) (hS : ∀ c, K4 sz ne dp vl c → c ≠ x ∧ c ≠ w ∧ c ≠ kd ∧ c ≠ nb) : ∀ (i fu : Nat) (M : Mem), i ≤ l.length → i < fu → TIn M x w kd nb f l cells vals → (LR M sz 64 ∧ LR M ne 64 ∧ LR M dp 64 ∧ LR M vl 64) → TB M sz ne dp vl (lvf cells vals) l i →
    ∃ M', f_L_tell_b6 fu x w kd nb sz ne dp vl (nI i + (-1)) M = some ((), M') ∧ TB M' sz ne dp vl (lvf cells vals) l 0 ∧ FrL (K4 sz ne dp vl) 0 0 M M' ∧ CK M M' := by
  obtain ⟨⟨a1, a2, a3⟩, ⟨a4, a5⟩, a6⟩ := id ha
  have s1 := hS sz (Or.inl rfl)
  have s2 := hS ne (Or.inr (Or.inl rfl))
  have s3 := hS dp (Or.inr (Or.inr (Or.inl rfl)))
  have s4 := hS vl (Or.inr (Or.inr (Or.inr rfl)))
  intro i
  induction i with
  | zero =>
    intro fu M _ hfu hI hR hT
    obtain ⟨fu, rfl⟩ : ∃ z, fu = z + 1 := ⟨fu - 1, by omega⟩
    rw [f_L_tell_b6, if_pos (by decide +kernel)]
    exact ⟨M, rfl, hT, FrL.rf, CK.rf⟩
  | succ j ih =>
    intro fu M hi hfu hI hR hT
    obtain ⟨fu, rfl⟩ : ∃ z, fu = z + 1 := ⟨fu - 1, by omega⟩
    obtain ⟨⟨r1, r2, r3, r4⟩, e1, e2, e3⟩ := id hI
    obtain ⟨q1, q2, q3, q4⟩ := hR
    obtain ⟨v1, v2⟩ := e1 j (by omega)
    have ij : ix (nI j) = j := ixN (by omega)
    have key : ∀ A B C D : Int32, (A, B, C, D) = (nI (tr (lvf cells vals) l j).1, nI (tr (lvf cells vals) l j).2.1, nI (tr (lvf cells vals) l j).2.2.1, (tr (lvf cells vals) l j).2.2.2) → ∃ M', f_L_tell_b6 fu x w kd nb sz ne dp vl (nI j + (-1)) (mset4 M sz ne dp vl j A B C D) = some ((), M') ∧ TB M' sz ne dp vl (lvf cells vals) l 0 ∧ FrL (K4 sz ne dp vl) 0 0 M M' ∧ CK M M' := by
      intro A B C D hr
      obtain ⟨M2, g1, g2, g3, g4⟩ := ih fu (mset4 M sz ne dp vl j A B C D) (by omega) (by omega) (hI.fr m4_fr (fun h => (hS _ h).1 rfl) (fun h => (hS _ h).2.1 rfl) (fun h => (hS _ h).2.2.1 rfl) (fun h => (hS _ h).2.2.2 rfl)) ⟨q1, q2, q3, q4⟩ (m4_tb ha hT hr)
      exact ⟨M2, g1, g2, m4_fr.tr g3 (fun a h => Or.inl h), (m4_ck q1.1 q2.1 q3.1 q4.1).tr g4⟩
    have hjl : j < l.length := by omega
    rw [nI_p, f_L_tell_b6, if_neg (nI_pos (by omega)), gd_of (lx_ok r3 (by omega) (by omega)), ij, v1]
    have hokj := hok _ (nd_in hjl)
    rcases ar_cases (nd l j).1 with c | c | c
    · -- a leaf
      have htr := tr_a0 (lv := lvf cells vals) hjl c
      have h3 : ¬ (3 : Int32) ≤ (nd l j).1 := by
        intro q
        rw [ar, if_pos q] at c
        split at c <;> omega
      rw [if_neg h3, gd_of (lx_ok q1 (by omega) (by omega)), bm_e, gd_of (lx_ok q2.set (by omega) (by omega)), bm_e, gd_of (lx_ok q3.set.set (by omega) (by omega)), bm_e, gd_of (lx_ok r3.set.set.set (by omega) (by omega))]
      have hkd : (mset (mset (mset M sz j 1) ne j 1) dp j 1).1 kd = M.1 kd := by rw [mset_ne (Ne.symm s3.2.2.1), mset_ne (Ne.symm s2.2.2.1), mset_ne (Ne.symm s1.2.2.1)]
      have hnb : (mset (mset (mset M sz j 1) ne j 1) dp j 1).1 nb = M.1 nb := by rw [mset_ne (Ne.symm s3.2.2.2), mset_ne (Ne.symm s2.2.2.2), mset_ne (Ne.symm s1.2.2.2)]
      have hx : (mset (mset (mset M sz j 1) ne j 1) dp j 1).1 x = M.1 x := by rw [mset_ne (Ne.symm s3.1), mset_ne (Ne.symm s2.1), mset_ne (Ne.symm s1.1)]
      have hww : (mset (mset (mset M sz j 1) ne j 1) dp j 1).1 w = M.1 w := by rw [mset_ne (Ne.symm s3.2.1), mset_ne (Ne.symm s2.2.1), mset_ne (Ne.symm s1.2.1)]
      have gnb : lx (mset (mset (mset M sz j 1) ne j 1) dp j 1) nb (nI j) = true := lx_ok r4.set.set.set (by omega) (by omega)
      have gvl : lx (mset (mset (mset M sz j 1) ne j 1) dp j 1) vl (nI j) = true := lx_ok q4.set.set.set (by omega) (by omega)
      have gkd : lx (mset (mset (mset M sz j 1) ne j 1) dp j 1) kd (nI j) = true := lx_ok r3.set.set.set (by omega) (by omega)
      rw [hkd, hnb, hx, hww, v1, v2, gd_of gnb, gd_of gnb, gd_of gnb, gd_of gvl, gd_of gkd]
      rcases hokj with ⟨k1, k2⟩ | ⟨k1, cc, k2, k3⟩ | ⟨k1, cc, k2, k3⟩ | ⟨k1, k2⟩
      · have hb : bc (nd l j) = (nd l j).2 := by rw [bc, k1, if_pos (by decide)]
        rw [k1, if_pos rfl, bm_e, bi_e, hb]
        refine key 1 1 1 _ ?_
        rw [htr, lvf, k1, if_neg (by decide), if_neg (by decide)]
        rfl
      · have hb : bc (nd l j) = nI cc := by rw [bc, k1, if_pos (by decide), k3]
        have gx : lx (mset (mset (mset M sz j 1) ne j 1) dp j 1) x (nI cc) = true := lx_ok r1.set.set.set k2 (by omega)
        rw [k1, if_neg (by decide), if_pos rfl, hb, gd_of gx, gd_of gvl, bm_e, bi_e, ixN (by omega), e2 cc k2]
        refine key 1 1 1 _ ?_
        rw [htr, lvf, k1, if_pos rfl, k3, ixN (by omega)]
        rfl
      · have hb : bc (nd l j) = nI cc := by rw [bc, k1, if_pos (by decide), k3]
        have gx : lx (mset (mset (mset M sz j 1) ne j 1) dp j 1) w (nI cc) = true := lx_ok r2.set.set.set (by omega) (by omega)
        rw [k1, if_neg (by decide), if_neg (by decide), hb, gd_of gx, gd_of gvl, bm_e, bi_e, ixN (by omega), e3 cc k2]
        refine key 1 1 1 _ ?_
        rw [htr, lvf, k1, if_neg (by decide), if_pos rfl, k3, ixN (by omega)]
        rfl
      · exfalso
        rcases k1 with k1 | k1 | k1 | k1 <;> rw [k1] at c <;> revert c <;> decide
    · -- the other sign
      have hj1 := wf_1 hw hjl c
      have k3 : (nd l j).1 = 3 := by
        rw [ar] at c
        split at c
        · split at c
          · assumption
          · omega
        · omega
      obtain ⟨t1, t2, t3, t4⟩ := hT (j + 1) (Nat.le_refl _) hj1
      have hle := tr_le (lv := lvf cells vals) (l := l) (l.length - (j + 1) + 1) (j + 1) (by omega)
      have hsz := (wf_size (lv := lvf cells vals) hw hj1).2
      rw [k3, if_pos (by decide), bi_e, gd_of (lx_ok r3 (by omega) (by omega)), if_pos rfl, nI_s, f_L_tell_b109, gd_of (lx_ok q1 (by omega) (by omega)), if_pos (nI_le (Nat.le_refl _) (by omega)), ixN (by omega),
        st138 r3 q1 q2 q3 q4 (by omega) (by omega) (by omega) (Ne.symm s3.2.2.1) (Ne.symm a6) (Ne.symm s2.2.2.1) (Ne.symm a5) (Ne.symm a4) (Ne.symm s1.2.2.1) (Ne.symm a3) (Ne.symm a2) (Ne.symm a1), t1, t2, t3, t4, v1, k3, decide_eq_true rfl, nop_s (by omega), mx_n (by omega) (by omega), vop_3 (tr_vb hw hv (l.length + 1) (j + 1) (by omega) hj1)]
      refine key _ _ _ _ ?_
      rw [tr_a1 hjl c, show (1 : Int32) = nI 1 from rfl, nI_add, nI_z, Nat.max_self, Nat.add_comm 1]
    · -- two parts
      obtain ⟨hj1, hj2⟩ := wf_2 (lv := lvf cells vals) hw hjl c
      have k456 : (nd l j).1 = 4 ∨ (nd l j).1 = 5 ∨ (nd l j).1 = 6 := by
        rcases hokj with ⟨k1, k2⟩ | ⟨k1, cc, k2, k3⟩ | ⟨k1, cc, k2, k3⟩ | ⟨k1, k2⟩
        · rw [k1] at c; exact absurd c (by decide)
        · rw [k1] at c; exact absurd c (by decide)
        · rw [k1] at c; exact absurd c (by decide)
        · rcases k1 with k1 | k1 | k1 | k1
          · rw [k1] at c; exact absurd c (by decide)
          · exact Or.inl k1
          · exact Or.inr (Or.inl k1)
          · exact Or.inr (Or.inr k1)
      have hge : (3 : Int32) ≤ (nd l j).1 := by rcases k456 with q | q | q <;> rw [q] <;> decide
      have hn3 : ¬ (nd l j).1 = 3 := by rcases k456 with q | q | q <;> rw [q] <;> decide
      obtain ⟨t1, t2, t3, t4⟩ := hT (j + 1) (Nat.le_refl _) hj1
      obtain ⟨u1, u2, u3, u4⟩ := hT (j + 1 + (tr (lvf cells vals) l (j + 1)).1) (by omega) hj2
      have hle := tr_le (lv := lvf cells vals) (l := l) (l.length - (j + 1) + 1) (j + 1) (by omega)
      have hle2 := tr_le (lv := lvf cells vals) (l := l) (l.length - (j + 1 + (tr (lvf cells vals) l (j + 1)).1) + 1) (j + 1 + (tr (lvf cells vals) l (j + 1)).1) (by omega)
      have hsz1 := wf_size (lv := lvf cells vals) hw hj1
      have hsz2 := wf_size (lv := lvf cells vals) hw hj2
      rw [if_pos hge, bi_e, gd_of (lx_ok r3 (by omega) (by omega)), if_neg hn3, nI_s, gd_of (lx_ok q1 (by omega) (by omega)), ixN (by omega), t1, nI_add, f_L_tell_b109, gd_of (lx_ok q1 (by omega) (by omega)), if_neg (nI_ge (by omega) (by omega)), gd_of (lx_ok q1 (by omega) (by omega)), ixN (by omega), ixN (by omega),
        st138 r3 q1 q2 q3 q4 (by omega) (by omega) (by omega) (Ne.symm s3.2.2.1) (Ne.symm a6) (Ne.symm s2.2.2.1) (Ne.symm a5) (Ne.symm a4) (Ne.symm s1.2.2.1) (Ne.symm a3) (Ne.symm a2) (Ne.symm a1), t1, t2, t3, t4, u1, u2, u3, u4, v1, decide_eq_false (by omega), nop_n (by omega) (by omega), mx_n (by omega) (by omega), vop_2 k456 (tr_vb hw hv (l.length + 1) (j + 1) (by omega) hj1) (tr_vb hw hv (l.length + 1) _ (by omega) hj2)]
      refine key _ _ _ _ ?_
      rw [tr_a2 hjl c, show (1 : Int32) = nI 1 from rfl, nI_add, nI_add]
      congr 2
      omega
theorem tell_ok {M : Mem} (hw : wf l) (hl60 : l.length ≤ 60) (hf8 : f ≤ 6) (hok : ∀ q ∈ l, okN f q) (hv : ∀ k, k < l.length → ar (nd l k).1 = 0 → vb (lvf cells vals (nd l k))) (ha : Ap4 sz ne dp vl) (hS : ∀ c, K4 sz ne dp vl c → c ≠ x ∧ c ≠ w ∧ c ≠ kd ∧ c ≠ nb) (hI : TIn M x w kd nb f l cells vals) (hR : LR M sz 64 ∧ LR M ne 64 ∧ LR M dp 64 ∧ LR M vl 64) :
    ∃ M', f_L_tell x w kd nb (nI l.length) sz ne dp vl M = some ((), M') ∧ TB M' sz ne dp vl (lvf cells vals) l 0 ∧ FrL (K4 sz ne dp vl) 0 0 M M' ∧ CK M M' := by
  rw [f_L_tell, bi_e, sub1]
  exact tell_loop hw hl60 hf8 hok hv ha hS l.length FU M (Nat.le_refl _) (by rw [FU_e]; omega) hI hR (fun k h1 h2 => by omega)
end TLL
