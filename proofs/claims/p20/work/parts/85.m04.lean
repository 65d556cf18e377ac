/-! the law's expanded forms: definitions put in place one after the other, the last one first -/
def pm (st : St) (m : Nat) (q : Nd) : Fm := if q.1 = 2 ∧ ix q.2 < m ∧ (XX st (ix q.2)).2.1 = true then (XX st (ix q.2)).1 else [q]
def exm (st : St) (m : Nat) (l : Fm) : Fm := l.flatMap (pm st m)
theorem exm_app {st : St} {m : Nat} {a b : Fm} : exm st m (a ++ b) = exm st m a ++ exm st m b := by simp [exm]
theorem exm_c {st : St} {m : Nat} {q : Nd} {l : Fm} : exm st m (q :: l) = pm st m q ++ exm st m l := by simp [exm]
theorem exm_z {st : St} : ∀ {l : Fm}, exm st 0 l = l
  | [] => rfl
  | q :: l => by
    rw [exm_c, exm_z, pm, if_neg (fun w => Nat.not_lt_zero _ w.2.1)]
    rfl
theorem exm_cg {st : St} {m m' : Nat} : ∀ {l : Fm}, (∀ q ∈ l, pm st m q = pm st m' q) → exm st m l = exm st m' l
  | [], _ => rfl
  | q :: l, h => by rw [exm_c, exm_c, h q List.mem_cons_self, exm_cg (fun x hx => h x (List.mem_cons_of_mem _ hx))]
/-- with no cheap capital of the number d, it may be left out -/
theorem exm_s {st : St} {d : Nat} {l : Fm} (h : ∀ q ∈ l, q.1 = 2 → ix q.2 = d → (XX st d).2.1 = false) : exm st (d + 1) l = exm st d l := by
  refine exm_cg fun q hq => ?_
  rw [pm, pm]
  by_cases c : q.1 = 2 ∧ ix q.2 < d ∧ (XX st (ix q.2)).2.1 = true
  · rw [if_pos c, if_pos ⟨c.1, by have := c.2.1; omega, c.2.2⟩]
  · rw [if_neg c, if_neg]
    intro w
    by_cases e : ix q.2 = d
    · have := h q hq w.1 e
      rw [e, this] at w
      exact absurd w.2.2 (by decide)
    · exact c ⟨w.1, by have := w.2.1; omega, w.2.2⟩
theorem exm_exl {st : St} {f : Nat} (hf : f ≤ 6) {l : Fm} (h : ∀ q ∈ l, okN f q) : exm st f l = exl (XF st.1 st.2.1 f) l := by
  show l.flatMap (pm st f) = l.flatMap (pce (XF st.1 st.2.1 f))
  induction l with
  | nil => rfl
  | cons q l ih =>
    rw [List.flatMap_cons, List.flatMap_cons, ih (fun x hx => h x (List.mem_cons_of_mem _ hx)), pce_X (h q List.mem_cons_self) hf, pm]
    congr 1
    by_cases c : q.1 = 2 ∧ (XX st (ix q.2)).2.1 = true
    · rw [if_pos c, if_pos ⟨c.1, okN_ix (h q List.mem_cons_self) hf c.1, c.2⟩]
    · rw [if_neg c, if_neg (fun w => c ⟨w.1, w.2.2⟩)]
theorem pm_d {st : St} (hk : OKS st.1) {d : Nat} (hd : d < st.1.length) {q : Nd} (h2 : q.1 = 2) (hq : ix q.2 = d) (hc : (XX st d).2.1 = true) : pm st (d + 1) q = exm st (d + 1) (gf st.1 d) := by
  have h6 := hk.1.2
  have hok : ∀ q ∈ gf st.1 d, okN d q := nd_mem.mp (hk.2 d hd).2.2
  rw [pm, hq, if_pos ⟨h2, by omega, hc⟩, exm_s (fun x hx hx2 hxd => by have := okN_ix (hok x hx) (by omega) hx2; omega), exm_exl (by omega) hok]
  rfl
theorem pm_ne {st : St} (hk : OKS st.1) {m : Nat} (hm : m ≤ st.1.length) {q : Nd} : 1 ≤ (pm st m q).length := by
  rw [pm]
  split
  · rename_i h
    exact wf_len (XX_ok hk (by omega)).1
  · simp
theorem exm_le {st : St} (hk : OKS st.1) {m : Nat} (hm : m ≤ st.1.length) : ∀ {l : Fm}, l.length ≤ (exm st m l).length
  | [] => Nat.zero_le _
  | q :: l => by
    rw [exm_c, List.length_append, List.length_cons]
    have := exm_le hk hm (l := l)
    have := pm_ne hk hm (q := q)
    omega
/-- a form in the law's rows -/
def KR (M : Mem) (kd nb : Nat) (l : Fm) : Prop := ∀ k, k < l.length → M.1 kd k = (nd l k).1 ∧ M.1 nb k = bc (nd l k)
def put1 (cur x : Fm) (k : Nat) : Fm := cur.take k ++ (x ++ cur.drop (k + 1))
theorem put1_len {cur x : Fm} {k : Nat} (h : k < cur.length) : (put1 cur x k).length + 1 = cur.length + x.length := by
  simp [put1]
  omega
theorem nd_put1 {cur x : Fm} {k p : Nat} (h : k < cur.length) : nd (put1 cur x k) p = if p < k then nd cur p else if p < k + x.length then nd x (p - k) else nd cur (p + 1 - x.length) := by
  have hl : (cur.take k).length = k := by rw [List.length_take]; omega
  rw [put1]
  by_cases h1 : p < k
  · rw [if_pos h1, nd_lt (by omega), nd_take h1]
  · rw [if_neg h1, nd_ge (by omega), hl]
    by_cases h2 : p < k + x.length
    · rw [if_pos h2, nd_lt (by omega)]
    · rw [if_neg h2, nd_ge (by omega), nd_drop]
      congr 1
      omega
abbrev K2 (kd nb : Nat) : Nat → Prop := fun c => c = kd ∨ c = nb
theorem sub1 (x : Int32) : x - 1 = x + (-1) := by grind
section EX
variable {k58 : Nat → Nat → Nat → Nat → Nat → Nat → Int32 → Int32 → Mem → Option (Int32 × Mem)} {k66 : Nat → Nat → Nat → Nat → Nat → Nat → Int32 → Int32 → Int32 → Mem → Option (Int32 × Mem)} {fs : List Fm} {g n a b kd nb d k m : Nat}
/-- what stands behind is moved -/
theorem sh110 {many : Int32} (hne : kd ≠ nb ∧ (kd ≠ g ∧ kd ≠ n ∧ kd ≠ a ∧ kd ≠ b) ∧ (nb ≠ g ∧ nb ≠ n ∧ nb ≠ a ∧ nb ≠ b)) (hd : d < 8) : ∀ (fu j : Nat) (M : Mem), k ≤ j → j - k < fu → j + m < 64 → LSR M g n a b fs → LR M kd 64 → LR M nb 64 → M.1 n d = nI (m + 1) →
    ∃ M', f_L_expand_b110 k58 k66 fu g n a b kd nb many (nI d) (nI k) (nI j) M = f_L_expand_b160 k58 k66 FU g n a b kd nb many (nI d) (nI k) 0 M' ∧ (∀ p, M'.1 kd p = if k + m < p ∧ p ≤ j + m then M.1 kd (p - m) else M.1 kd p) ∧ (∀ p, M'.1 nb p = if k + m < p ∧ p ≤ j + m then M.1 nb (p - m) else M.1 nb p) ∧ FrL (K2 kd nb) 0 0 M M' ∧ CK M M' := by
  intro fu
  induction fu with
  | zero => intro j M _ h; omega
  | succ fu ih =>
    intro j M hkj hfu hjm hL hR1 hR2 hn
    rw [f_L_expand_b110]
    by_cases c : j = k
    · subst c
      rw [if_pos (nI_le (Nat.le_refl _) (by omega))]
      exact ⟨M, rfl, fun p => by rw [if_neg (by omega)], fun p => by rw [if_neg (by omega)], FrL.rf, CK.rf⟩
    · obtain ⟨i, rfl⟩ : ∃ i, j = i + 1 := ⟨j - 1, by omega⟩
      obtain ⟨⟨r1, r2, r3, r4⟩, e1, e2⟩ := id hL
      have hix : ix (nI d) = d := ixN (by omega)
      have hixj : ix (nI (i + 1)) = i + 1 := ixN (by omega)
      have hixm : ix (nI (i + 1 + m)) = i + 1 + m := ixN (by omega)
      have hsum : nI (i + 1) + nI (m + 1) - 1 = nI (i + 1 + m) := by rw [nI_add, ← Nat.add_assoc, nI_m1]
      have q1 : FrL (K2 kd nb) 0 0 M (mset M kd (i + 1 + m) (M.1 kd (i + 1))) := FrL.rf.set (Or.inl (Or.inl rfl))
      have n1 : (mset M kd (i + 1 + m) (M.1 kd (i + 1))).1 n d = nI (m + 1) := by rw [ms_a (Ne.symm hne.2.1.2.1)]; exact hn
      rw [if_neg (nI_ge (by omega) (by omega)), gd_of (lx_ok r2 hd (by omega)), gd_of (lx_ok hR1 (by omega) (by omega)), hix, hn, hsum, gd_of (lx_ok hR1 (by omega) (by omega)), bm_e, hixj, hixm]
      rw [gd_of (lx_ok (r2.set) hd (by omega)), gd_of (lx_ok (hR2.set) (by omega) (by omega)), n1, hsum, gd_of (lx_ok (hR2.set) (by omega) (by omega)), bm_e, bi_e, hixm, nI_p, ms_a (Ne.symm hne.1)]
      have q2 : FrL (K2 kd nb) 0 0 M (mset (mset M kd (i + 1 + m) (M.1 kd (i + 1))) nb (i + 1 + m) (M.1 nb (i + 1))) := q1.set (Or.inl (Or.inr rfl))
      have n2 : (mset (mset M kd (i + 1 + m) (M.1 kd (i + 1))) nb (i + 1 + m) (M.1 nb (i + 1))).1 n d = nI (m + 1) := by rw [ms_a (Ne.symm hne.2.2.2.1)]; exact n1
      have hS : ∀ c, K2 kd nb c → c ≠ g ∧ c ≠ n ∧ c ≠ a ∧ c ≠ b := fun c h => by
        rcases h with h | h <;> rw [h]
        · exact hne.2.1
        · exact hne.2.2
      obtain ⟨M2, g1, g2, g3, g4, g5⟩ := ih i (mset (mset M kd (i + 1 + m) (M.1 kd (i + 1))) nb (i + 1 + m) (M.1 nb (i + 1))) (by omega) (by omega) (by omega) (hL.fr q2 (fun h => (hS _ h).1 rfl) (fun h => (hS _ h).2.1 rfl) (fun h => (hS _ h).2.2.1 rfl) (fun h => (hS _ h).2.2.2 rfl)) hR1 hR2 n2
      refine ⟨M2, g1, fun p => ?_, fun p => ?_, q2.tr g4 (fun c h => Or.inl h), ((CK.rf.set hR1.1).set hR2.1).tr g5⟩
      · rw [g2 p, ms_a hne.1, ms_a hne.1]
        by_cases h1 : k + m < p ∧ p ≤ i + m
        · rw [if_pos h1, if_pos ⟨h1.1, by omega⟩, ms_k (by omega)]
        · rw [if_neg h1, ms_k']
          by_cases h2 : p = i + 1 + m
          · rw [if_pos h2, if_pos ⟨by omega, by omega⟩, h2, Nat.add_sub_cancel]
          · rw [if_neg h2, if_neg (by omega)]
      · rw [g3 p]
        by_cases h1 : k + m < p ∧ p ≤ i + m
        · rw [if_pos h1, if_pos ⟨h1.1, by omega⟩, ms_k (by omega), ms_a (Ne.symm hne.1)]
        · rw [if_neg h1, ms_k']
          by_cases h2 : p = i + 1 + m
          · rw [if_pos h2, if_pos ⟨by omega, by omega⟩, h2, Nat.add_sub_cancel]
          · rw [if_neg h2, if_neg (by omega), ms_a (Ne.symm hne.1)]
/-- the definition is laid -/
theorem in160 {many : Nat} (hk : OKL fs) (hd : d < fs.length) (hm : (gf fs d).length = m + 1) (hkm : k + m < 64) (hne : kd ≠ nb ∧ (kd ≠ g ∧ kd ≠ n ∧ kd ≠ a ∧ kd ≠ b) ∧ (nb ≠ g ∧ nb ≠ n ∧ nb ≠ a ∧ nb ≠ b)) : ∀ (fu i : Nat) (M : Mem), i ≤ m + 1 → m + 1 - i < fu → LSR M g n a b fs → LR M kd 64 → LR M nb 64 →
    ∃ M', f_L_expand_b160 k58 k66 fu g n a b kd nb (nI many) (nI d) (nI k) (nI i) M = k66 g n a b kd nb (nI (many + m)) (nI d) (nI (k + 1)) M' ∧ (∀ p, M'.1 kd p = if k + i ≤ p ∧ p < k + (m + 1) then (nd (gf fs d) (p - k)).1 else M.1 kd p) ∧ (∀ p, M'.1 nb p = if k + i ≤ p ∧ p < k + (m + 1) then bc (nd (gf fs d) (p - k)) else M.1 nb p) ∧ FrL (K2 kd nb) 0 0 M M' ∧ CK M M' := by
  have h4 := hk.1.2
  have h15 := (hk.2 d hd).2.1
  intro fu
  induction fu with
  | zero => intro i M _ h; omega
  | succ fu ih =>
    intro i M him hfu hL hR1 hR2
    obtain ⟨⟨r1, r2, r3, r4⟩, e1, e2⟩ := id hL
    obtain ⟨f1, f2⟩ := e2 d hd
    have hix : ix (nI d) = d := ixN (by omega)
    rw [f_L_expand_b160, gd_of (lx_ok r2 (by omega) (by omega)), hix, f1, hm]
    by_cases c : i = m + 1
    · subst c
      rw [if_pos (nI_le (Nat.le_refl _) (by omega)), gd_of (lx_ok r2 (by omega) (by omega)), bi_e, bi_e, nI_m1, nI_add, nI_s]
      exact ⟨M, rfl, fun p => by rw [if_neg (by omega)], fun p => by rw [if_neg (by omega)], FrL.rf, CK.rf⟩
    · obtain ⟨v1, v2⟩ := f2 i (by omega)
      have hix2 : ix (nI (16 * d + i)) = 16 * d + i := ixN (by omega)
      have hix3 : ix (nI (k + i)) = k + i := ixN (by omega)
      rw [if_neg (nI_ge (by omega) (by omega)), ad16, nI_add, gd_of (lx_ok r3 (by omega) (by omega)), gd_of (lx_ok hR1 (by omega) (by omega)), bm_e, hix2, hix3, v1]
      rw [gd_of (lx_ok r4.set (by omega) (by omega)), gd_of (lx_ok hR2.set (by omega) (by omega)), bm_e, bi_e, nI_s, ms_a (Ne.symm hne.2.1.2.2.2), v2]
      have q2 : FrL (K2 kd nb) 0 0 M (mset (mset M kd (k + i) (nd (gf fs d) i).1) nb (k + i) (bc (nd (gf fs d) i))) := (FrL.rf.set (Or.inl (Or.inl rfl))).set (Or.inl (Or.inr rfl))
      have hS : ∀ c, K2 kd nb c → c ≠ g ∧ c ≠ n ∧ c ≠ a ∧ c ≠ b := fun c h => by
        rcases h with h | h <;> rw [h]
        · exact hne.2.1
        · exact hne.2.2
      obtain ⟨M2, g1, g2, g3, g4, g5⟩ := ih (i + 1) (mset (mset M kd (k + i) (nd (gf fs d) i).1) nb (k + i) (bc (nd (gf fs d) i))) (by omega) (by omega) (hL.fr q2 (fun h => (hS _ h).1 rfl) (fun h => (hS _ h).2.1 rfl) (fun h => (hS _ h).2.2.1 rfl) (fun h => (hS _ h).2.2.2 rfl)) hR1 hR2
      refine ⟨M2, g1, fun p => ?_, fun p => ?_, q2.tr g4 (fun c h => Or.inl h), ((CK.rf.set hR1.1).set hR2.1).tr g5⟩
      · rw [g2 p, ms_a hne.1, ms_k']
        by_cases h1 : p = k + i
        · rw [if_neg (by omega), if_pos h1, if_pos ⟨by omega, by omega⟩, h1, Nat.add_sub_cancel_left]
        · by_cases h2 : k + (i + 1) ≤ p ∧ p < k + (m + 1)
          · rw [if_pos h2, if_pos ⟨by omega, h2.2⟩]
          · rw [if_neg h2, if_neg h1, if_neg (by omega)]
      · rw [g3 p, ms_k']
        by_cases h1 : p = k + i
        · rw [if_neg (by omega), if_pos h1, if_pos ⟨by omega, by omega⟩, h1, Nat.add_sub_cancel_left]
        · by_cases h2 : k + (i + 1) ≤ p ∧ p < k + (m + 1)
          · rw [if_pos h2, if_pos ⟨by omega, h2.2⟩]
          · rw [if_neg h2, if_neg h1, ms_a (Ne.symm hne.1), if_neg (by omega)]
/-- a capital is replaced -/
theorem rep_ok {cur : Fm} {M : Mem} (hk : OKL fs) (hd : d < fs.length) (hkc : k < cur.length) (hlen : (put1 cur (gf fs d) k).length ≤ 60) (hne : kd ≠ nb ∧ (kd ≠ g ∧ kd ≠ n ∧ kd ≠ a ∧ kd ≠ b) ∧ (nb ≠ g ∧ nb ≠ n ∧ nb ≠ a ∧ nb ≠ b)) (hL : LSR M g n a b fs) (hR1 : LR M kd 64) (hR2 : LR M nb 64) (hK : KR M kd nb cur) :
    ∃ M', f_L_expand_b110 k58 k66 FU g n a b kd nb (nI cur.length) (nI d) (nI k) (nI cur.length - 1) M = k66 g n a b kd nb (nI (put1 cur (gf fs d) k).length) (nI d) (nI (k + 1)) M' ∧ KR M' kd nb (put1 cur (gf fs d) k) ∧ FrL (K2 kd nb) 0 0 M M' ∧ CK M M' := by
  have h4 := hk.1.2
  have hw := wf_len (hk.2 d hd).1
  obtain ⟨m, hm⟩ : ∃ m, (gf fs d).length = m + 1 := ⟨(gf fs d).length - 1, by omega⟩
  obtain ⟨N, hN⟩ : ∃ N, cur.length = N + 1 := ⟨cur.length - 1, by omega⟩
  have hpl := put1_len (x := gf fs d) hkc
  obtain ⟨⟨r1, r2, r3, r4⟩, e1, e2⟩ := id hL
  obtain ⟨f1, f2⟩ := e2 d hd
  have hS : ∀ c, K2 kd nb c → c ≠ g ∧ c ≠ n ∧ c ≠ a ∧ c ≠ b := fun c h => by
    rcases h with h | h <;> rw [h]
    · exact hne.2.1
    · exact hne.2.2
  obtain ⟨M1, a1, a2, a3, a4, a5⟩ := sh110 (k58 := k58) (k66 := k66) (fs := fs) (g := g) (n := n) (a := a) (b := b) (k := k) (m := m) (many := nI cur.length) hne (d := d) (by omega) FU N M (by omega) (by rw [FU_e]; omega) (by omega) hL hR1 hR2 (by rw [f1, hm])
  obtain ⟨M2, b1, b2, b3, b4, b5⟩ := in160 (k58 := k58) (k66 := k66) (g := g) (n := n) (a := a) (b := b) (k := k) (m := m) (many := cur.length) hk hd hm (by omega) hne FU 0 M1 (by omega) (by rw [FU_e]; omega) (hL.fr a4 (fun h => (hS _ h).1 rfl) (fun h => (hS _ h).2.1 rfl) (fun h => (hS _ h).2.2.1 rfl) (fun h => (hS _ h).2.2.2 rfl)) (hR1.fr a4) (hR2.fr a4)
  have hl2 : (put1 cur (gf fs d) k).length = cur.length + m := by omega
  refine ⟨M2, ?_, fun p hp => ?_, a4.tr b4 (fun c h => Or.inl h), a5.tr b5⟩
  · rw [show nI cur.length - 1 = nI N by rw [hN, nI_m1], a1, hl2]
    exact b1
  · rw [b2 p, b3 p, a2 p, a3 p, nd_put1 hkc, hm]
    by_cases h1 : p < k
    · have z0 : ¬ (k + 0 ≤ p ∧ p < k + (m + 1)) := by omega
      have z1 : ¬ (k + m < p ∧ p ≤ N + m) := by omega
      rw [if_neg z0, if_neg z0, if_neg z1, if_neg z1, if_pos h1]
      exact hK p (by omega)
    · rw [if_neg h1]
      by_cases h2 : p < k + (m + 1)
      · have z0 : k + 0 ≤ p ∧ p < k + (m + 1) := by omega
        rw [if_pos z0, if_pos z0, if_pos h2]
        exact ⟨rfl, rfl⟩
      · have z0 : ¬ (k + 0 ≤ p ∧ p < k + (m + 1)) := by omega
        have z1 : k + m < p ∧ p ≤ N + m := by omega
        rw [if_neg z0, if_neg z0, if_neg h2, if_pos z1, if_pos z1, show p + 1 - (m + 1) = p - m by omega]
        exact hK (p - m) (by omega)
end EX
