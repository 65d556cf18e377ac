/-! expand: the law's expanded form is the document's -/
theorem bI_e (b : Bool) : (bI b = 0) ↔ b = false := by cases b <;> decide
theorem nd_in {l : Fm} {k : Nat} (h : k < l.length) : nd l k ∈ l := by
  rw [nd, List.getD_eq_getElem?_getD, List.getElem?_eq_getElem h]
  exact List.getElem_mem _
theorem split3 {l : Fm} {k : Nat} (h : k < l.length) : l = l.take k ++ (nd l k :: l.drop (k + 1)) := by
  have : l.drop k = nd l k :: l.drop (k + 1) := by
    rw [nd, List.getD_eq_getElem?_getD, List.getElem?_eq_getElem h]
    exact List.drop_eq_getElem_cons h
  rw [← this, List.take_append_drop]
section EX2
variable {st : St} {g n a b kd nb f : Nat}
theorem k66_ok {k58 : Nat → Nat → Nat → Nat → Nat → Nat → Int32 → Int32 → Mem → Option (Int32 × Mem)} {F : Fm} {d : Nat} (hk : OKL st.1) (hd : d < st.1.length) (hf : f ≤ 6) (hF : F.length ≤ 60) (hne : kd ≠ nb ∧ (kd ≠ g ∧ kd ≠ n ∧ kd ≠ a ∧ kd ≠ b) ∧ (nb ≠ g ∧ nb ≠ n ∧ nb ≠ a ∧ nb ≠ b)) (hdf : d ≤ f) : ∀ (fu k : Nat) (cur : Fm) (M : Mem), k ≤ cur.length → 60 - k < fu → LSR M g n a b st.1 → LR M kd 64 → LR M nb 64 → 208 ≤ M.2 5 → KR M kd nb cur → exm st (d + 1) cur = F → (∀ q ∈ cur, okN f q) → ((XX st d).2.1 = true → ∀ i, i < k → (nd cur i).1 = 2 → ix (nd cur i).2 ≠ d) →
    ∃ cur' M', f_L_expand_b66 k58 fu g n a b kd nb (nI cur.length) (nI d) (nI k) M = k58 g n a b kd nb (nI cur'.length) (nI d + (-1)) M' ∧ KR M' kd nb cur' ∧ exm st d cur' = F ∧ (∀ q ∈ cur', okN f q) ∧ FrL (K2 kd nb) (60 - k) (8 * (60 - k)) M M' ∧ CK M M' := by
  have h4 := hk.1.2
  have hks := hk.s
  have hS : ∀ c, K2 kd nb c → c ≠ g ∧ c ≠ n ∧ c ≠ a ∧ c ≠ b := fun c h => by
    rcases h with h | h <;> rw [h]
    · exact hne.2.1
    · exact hne.2.2
  intro fu
  induction fu with
  | zero => intro k cur M _ h; omega
  | succ fu ih =>
    intro k cur M hkc hfu hL hR1 hR2 h5 hK hx hok hno
    have hcl : cur.length ≤ 60 := by
      have := exm_le hks (show d + 1 ≤ st.1.length by omega) (l := cur)
      rw [hx] at this
      omega
    rw [f_L_expand_b66]
    have done : (∀ q ∈ cur, q.1 = 2 → ix q.2 = d → (XX st d).2.1 = false) → exm st d cur = F := fun h => by rw [← exm_s h]; exact hx
    by_cases c : k = cur.length
    · subst c
      rw [if_pos (nI_le (Nat.le_refl _) (by omega)), bi_e]
      refine ⟨cur, M, rfl, hK, done (fun q hq h2 h3 => ?_), hok, FrL.rf.mono (fun a h => Or.inl h) (Nat.zero_le _) (Nat.zero_le _), CK.rf⟩
      cases hc : (XX st d).2.1 with
      | false => rfl
      | true =>
        obtain ⟨i, hi, rfl⟩ : ∃ i, i < cur.length ∧ nd cur i = q := by
          obtain ⟨i, hi, e⟩ := List.getElem_of_mem hq
          exact ⟨i, hi, by rw [nd, List.getD_eq_getElem?_getD, List.getElem?_eq_getElem hi]; exact e⟩
        exact absurd h3 (hno hc i hi h2)
    · have hk2 : k < cur.length := by omega
      rw [if_neg (nI_ge hk2 (by omega))]
      obtain ⟨M1, e1, e2, e3⟩ := isCheap_ok (d := d) hk hd hL h5
      rw [e1, bd_s, lch_ok hks hd]
      have e2' : FrL (K2 kd nb) 1 8 M M1 := e2.mono (fun a h => absurd h id) (Nat.le_refl _) (Nat.le_refl _)
      have hK1 : KR M1 kd nb cur := fun p hp => by rw [e2.row hR1.lt (fun h => h), e2.row hR2.lt (fun h => h)]; exact hK p hp
      have hL1 := hL.fr e2 (fun h => h) (fun h => h) (fun h => h) (fun h => h)
      have hR11 := hR1.fr e2
      have hR21 := hR2.fr e2
      have h51 : 208 ≤ M1.2 5 := Nat.le_trans h5 e2.2.2.1.1
      cases hc : (XX st d).2.1 with
      | false =>
        rw [bI_f, if_pos rfl, bi_e]
        exact ⟨cur, M1, rfl, hK1, done (fun _ _ _ _ => hc), hok, e2'.mono (fun a h => Or.inl h) (by omega) (by omega), e3⟩
      | true =>
        obtain ⟨v1, v2⟩ := hK1 k hk2
        have hlk : lx M1 kd (nI k) = true := lx_ok hR11 (by omega) (by omega)
        have hln : lx M1 nb (nI k) = true := lx_ok hR21 (by omega) (by omega)
        have hixk : ix (nI k) = k := ixN (by omega)
        rw [if_neg (by rw [bI_t]; decide), gd_of hlk, hixk, v1]
        have next : ¬ ((nd cur k).1 = 2 ∧ ix (nd cur k).2 = d) → ∃ cur' M', f_L_expand_b66 k58 fu g n a b kd nb (nI cur.length) (nI d) (nI (k + 1)) M1 = k58 g n a b kd nb (nI cur'.length) (nI d + (-1)) M' ∧ KR M' kd nb cur' ∧ exm st d cur' = F ∧ (∀ q ∈ cur', okN f q) ∧ FrL (K2 kd nb) (60 - k) (8 * (60 - k)) M M' ∧ CK M M' := by
          intro hn
          obtain ⟨cur', M2, g1, g2, g3, g4, g5, g6⟩ := ih (k + 1) cur M1 (by omega) (by omega) hL1 hR11 hR21 h51 hK1 hx hok (fun _ i hi h2 => by
            by_cases e : i = k
            · rw [e] at h2 ⊢
              exact fun w => hn ⟨h2, w⟩
            · exact hno hc i (by omega) h2)
          exact ⟨cur', M2, g1, g2, g3, g4, (e2'.tr g5 (fun a h => Or.inl h)).mono (fun a h => Or.inl h) (by omega) (by omega), e3.tr g6⟩
        by_cases c2 : (nd cur k).1 = 2
        · obtain ⟨cc, hcc, hcv⟩ := okN_2 (hok _ (nd_in hk2)) c2
          have hix : ix (nd cur k).2 = cc := by rw [hcv, ixN (by omega)]
          have hbc : bc (nd cur k) = nI cc := by rw [bc, if_pos (by rw [c2]; decide), hcv]
          rw [if_pos c2, gd_of hln, v2, hbc]
          by_cases c3 : cc = d
          · subst c3
            rw [if_pos rfl, bi_e]
            have hpx : exm st (cc + 1) (put1 cur (gf st.1 cc) k) = F := by
              have hx2 := hx
              rw [split3 hk2, exm_app, exm_c, pm_d hks hd c2 hix hc] at hx2
              rw [put1, exm_app, exm_app]
              exact hx2
            have hpl : (put1 cur (gf st.1 cc) k).length ≤ 60 := by
              have := exm_le hks (show cc + 1 ≤ st.1.length by omega) (l := put1 cur (gf st.1 cc) k)
              rw [hpx] at this
              omega
            have hw := wf_len (hk.2 cc hd).1
            have hplen := put1_len (x := gf st.1 cc) hk2
            obtain ⟨M2, g1, g2, g3, g4⟩ := rep_ok (k58 := k58) (k66 := f_L_expand_b66 k58 fu) hk hd hk2 hpl hne hL1 hR11 hR21 hK1
            rw [g1]
            have hokd : ∀ q ∈ gf st.1 cc, okN cc q := nd_mem.mp (hk.2 cc hd).2.2
            obtain ⟨cur', M3, j1, j2, j3, j4, j5, j6⟩ := ih (k + 1) (put1 cur (gf st.1 cc) k) M2 (by omega) (by omega) (hL1.fr g3 (fun h => (hS _ h).1 rfl) (fun h => (hS _ h).2.1 rfl) (fun h => (hS _ h).2.2.1 rfl) (fun h => (hS _ h).2.2.2 rfl)) (hR11.fr g3) (hR21.fr g3) (Nat.le_trans h51 g3.2.2.1.1) g2 hpx (fun q hq => by
              rw [put1] at hq
              rcases List.mem_append.mp hq with w | w
              · exact hok q (List.mem_of_mem_take w)
              · rcases List.mem_append.mp w with w | w
                · exact (hokd q w).mono hdf
                · exact hok q (List.mem_of_mem_drop w)) (fun _ i hi h2 => by
              rw [nd_put1 hk2] at h2 ⊢
              by_cases e : i < k
              · rw [if_pos e] at h2 ⊢
                exact hno hc i e h2
              · rw [if_neg e, if_pos (by omega)] at h2 ⊢
                have := okN_ix (hokd _ (nd_in (show i - k < (gf st.1 cc).length by omega))) (by omega) h2
                omega)
            exact ⟨cur', M3, j1, j2, j3, j4, ((e2'.tr g3 (fun a h => Or.inl h)).tr j5 (fun a h => Or.inl h)).mono (fun a h => Or.inl h) (by omega) (by omega), (e3.tr g4).tr j6⟩
          · rw [if_neg (fun w => c3 ((nI_eq (by omega) (by omega)).mp w)), bi_e, nI_s]
            exact next (fun w => c3 (by rw [← hix]; exact w.2))
        · rw [if_neg c2, bi_e, nI_s]
          exact next (fun w => c2 w.1)
theorem b58_ok {F : Fm} (hk : OKL st.1) (hf : f < st.1.length) (hF : F.length ≤ 60) (hne : kd ≠ nb ∧ (kd ≠ g ∧ kd ≠ n ∧ kd ≠ a ∧ kd ≠ b) ∧ (nb ≠ g ∧ nb ≠ n ∧ nb ≠ a ∧ nb ≠ b)) : ∀ (D fu : Nat) (cur : Fm) (M : Mem), D ≤ f → D < fu → LSR M g n a b st.1 → LR M kd 64 → LR M nb 64 → 208 ≤ M.2 5 → KR M kd nb cur → exm st D cur = F → (∀ q ∈ cur, okN f q) →
    ∃ M', f_L_expand_b58 fu g n a b kd nb (nI cur.length) (nI D + (-1)) M = some (nI F.length, M') ∧ KR M' kd nb F ∧ FrL (K2 kd nb) (60 * D) (480 * D) M M' ∧ CK M M' := by
  have h4 := hk.1.2
  have hS : ∀ c, K2 kd nb c → c ≠ g ∧ c ≠ n ∧ c ≠ a ∧ c ≠ b := fun c h => by
    rcases h with h | h <;> rw [h]
    · exact hne.2.1
    · exact hne.2.2
  intro D
  induction D with
  | zero =>
    intro fu cur M _ hfu hL hR1 hR2 h5 hK hx hok
    obtain ⟨fu, rfl⟩ : ∃ x, fu = x + 1 := ⟨fu - 1, by omega⟩
    rw [exm_z] at hx
    subst hx
    rw [f_L_expand_b58, if_pos (by decide +kernel)]
    exact ⟨M, rfl, hK, FrL.rf, CK.rf⟩
  | succ D ih =>
    intro fu cur M hD hfu hL hR1 hR2 h5 hK hx hok
    obtain ⟨fu, rfl⟩ : ∃ x, fu = x + 1 := ⟨fu - 1, by omega⟩
    rw [nI_p, f_L_expand_b58, if_neg (nI_pos (by omega))]
    obtain ⟨cur', M1, a1, a2, a3, a4, a5, a6⟩ := k66_ok (k58 := f_L_expand_b58 fu) (F := F) (d := D) hk (by omega) (f := f) (by omega) hF hne (by omega) FU 0 cur M (Nat.zero_le _) (by rw [FU_e]; omega) hL hR1 hR2 h5 hK hx hok (fun _ i hi => absurd hi (Nat.not_lt_zero _))
    obtain ⟨M2, b1, b2, b3, b4⟩ := ih fu cur' M1 (by omega) (by omega) (hL.fr a5 (fun h => (hS _ h).1 rfl) (fun h => (hS _ h).2.1 rfl) (fun h => (hS _ h).2.2.1 rfl) (fun h => (hS _ h).2.2.2 rfl)) (hR1.fr a5) (hR2.fr a5) (Nat.le_trans h5 a5.2.2.1.1) a2 a3 a4
    refine ⟨M2, ?_, b2, (a5.tr b3 (fun a h => Or.inl h)).mono (fun a h => Or.inl h) (by omega) (by omega), a6.tr b4⟩
    rw [show f_L_expand_b66 (f_L_expand_b58 fu) FU g n a b kd nb (nI cur.length) (nI D) 0 M = _ from a1]
    exact b1
theorem b9_ok (hk : OKL st.1) (hf : f < st.1.length) (hne : kd ≠ nb ∧ (kd ≠ g ∧ kd ≠ n ∧ kd ≠ a ∧ kd ≠ b) ∧ (nb ≠ g ∧ nb ≠ n ∧ nb ≠ a ∧ nb ≠ b)) : ∀ (fu k : Nat) (M : Mem), k ≤ (gf st.1 f).length → (gf st.1 f).length - k < fu → LSR M g n a b st.1 → LR M kd 64 → LR M nb 64 → 208 ≤ M.2 5 → KR M kd nb ((gf st.1 f).take k) →
    ∃ M', f_L_expand_b9 fu g n a b (nI f) kd nb (nI (gf st.1 f).length) (nI k) M = some (nI (XX st f).1.length, M') ∧ KR M' kd nb (XX st f).1 ∧ FrL (K2 kd nb) (60 * f) (480 * f) M M' ∧ CK M M' := by
  have h4 := hk.1.2
  have h15 := (hk.2 f hf).2.1
  have hok : ∀ q ∈ gf st.1 f, okN f q := nd_mem.mp (hk.2 f hf).2.2
  have hS : ∀ c, K2 kd nb c → c ≠ g ∧ c ≠ n ∧ c ≠ a ∧ c ≠ b := fun c h => by
    rcases h with h | h <;> rw [h]
    · exact hne.2.1
    · exact hne.2.2
  intro fu
  induction fu with
  | zero => intro k M _ h; omega
  | succ fu ih =>
    intro k M hkl hfu hL hR1 hR2 h5 hK
    rw [f_L_expand_b9]
    by_cases c : k = (gf st.1 f).length
    · subst c
      rw [List.take_length] at hK
      rw [if_pos (nI_le (Nat.le_refl _) (by omega)), bi_e, sub1]
      exact b58_ok (F := (XX st f).1) hk hf (XX_ok hk.s hf).2.1 hne f FU (gf st.1 f) M (Nat.le_refl _) (by rw [FU_e]; omega) hL hR1 hR2 h5 hK (exm_exl (by omega) hok) hok
    · have hk2 : k < (gf st.1 f).length := by omega
      obtain ⟨⟨r1, r2, r3, r4⟩, e1, e2⟩ := id hL
      obtain ⟨f1, f2⟩ := e2 f hf
      obtain ⟨v1, v2⟩ := f2 k hk2
      have hix : ix (nI (16 * f + k)) = 16 * f + k := ixN (by omega)
      have hixk : ix (nI k) = k := ixN (by omega)
      rw [if_neg (nI_ge hk2 (by omega)), ad16, gd_of (lx_ok r3 (by omega) (by omega)), gd_of (lx_ok hR1 (by omega) (by omega)), bm_e, hix, hixk, v1, gd_of (lx_ok r4.set (by omega) (by omega)), gd_of (lx_ok hR2.set (by omega) (by omega)), bm_e, bi_e, nI_s, ms_a (Ne.symm hne.2.1.2.2.2), v2]
      have q2 : FrL (K2 kd nb) 0 0 M (mset (mset M kd k (nd (gf st.1 f) k).1) nb k (bc (nd (gf st.1 f) k))) := (FrL.rf.set (Or.inl (Or.inl rfl))).set (Or.inl (Or.inr rfl))
      obtain ⟨M2, g1, g2, g3, g4⟩ := ih (k + 1) (mset (mset M kd k (nd (gf st.1 f) k).1) nb k (bc (nd (gf st.1 f) k))) (by omega) (by omega) (hL.fr q2 (fun h => (hS _ h).1 rfl) (fun h => (hS _ h).2.1 rfl) (fun h => (hS _ h).2.2.1 rfl) (fun h => (hS _ h).2.2.2 rfl)) hR1 hR2 h5 (fun p hp => by
        rw [List.length_take] at hp
        rw [nd_take (by omega), ms_a hne.1, ms_k', ms_k', ms_a (Ne.symm hne.1)]
        by_cases e : p = k
        · rw [if_pos e, if_pos e, e]; exact ⟨rfl, rfl⟩
        · rw [if_neg e, if_neg e]
          have := hK p (by rw [List.length_take]; omega)
          rw [nd_take (by omega)] at this
          exact this)
      exact ⟨M2, g1, g2, (q2.tr g3 (fun a h => Or.inl h)).mono (fun a h => Or.inl h) (by omega) (by omega), ((CK.rf.set hR1.1).set hR2.1).tr g4⟩
theorem expand_ok {M : Mem} (hk : OKL st.1) (hf : f < st.1.length) (hne : kd ≠ nb ∧ (kd ≠ g ∧ kd ≠ n ∧ kd ≠ a ∧ kd ≠ b) ∧ (nb ≠ g ∧ nb ≠ n ∧ nb ≠ a ∧ nb ≠ b)) (hL : LSR M g n a b st.1) (hR1 : LR M kd 64) (hR2 : LR M nb 64) (h5 : 208 ≤ M.2 5) :
    ∃ M', f_L_expand g n a b (nI f) kd nb M = some (nI (XX st f).1.length, M') ∧ KR M' kd nb (XX st f).1 ∧ FrL (K2 kd nb) (60 * f) (480 * f) M M' ∧ CK M M' := by
  have h4 := hk.1.2
  have h15 := (hk.2 f hf).2.1
  obtain ⟨⟨r1, r2, r3, r4⟩, e1, e2⟩ := id hL
  obtain ⟨f1, f2⟩ := e2 f hf
  rw [f_L_expand, gd_of (lx_ok r2 (by omega) (by omega)), bi_e, ixN (by omega), f1]
  exact b9_ok hk hf hne FU 0 M (Nat.zero_le _) (by rw [FU_e]; omega) hL hR1 hR2 h5 (fun p hp => absurd hp (Nat.not_lt_zero _))
end EX2
