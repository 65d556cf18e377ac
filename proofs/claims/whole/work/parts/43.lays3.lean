/-! tells, lays -/
/-- the four rows at a place -/
def put4 (M : Mem) (p : Nat) (r : Rw) : Mem := mset (mset (mset (mset M 218 p (nI r.1)) 219 p (nI r.2.1)) 220 p (nI r.2.2.1)) 221 p r.2.2.2
theorem put4_get {M : Mem} {p j : Nat} {r : Rw} : (put4 M p r).1 218 j = (if j = p then nI r.1 else M.1 218 j) ∧ (put4 M p r).1 219 j = (if j = p then nI r.2.1 else M.1 219 j) ∧ (put4 M p r).1 220 j = (if j = p then nI r.2.2.1 else M.1 220 j) ∧ (put4 M p r).1 221 j = (if j = p then r.2.2.2 else M.1 221 j) ∧ ∀ a, a < 218 ∨ 221 < a → (put4 M p r).1 a = M.1 a := by
  refine ⟨by simp [put4, ms1], by simp [put4, ms1], by simp [put4, ms1], by simp [put4, ms1], fun a ha => ?_⟩
  rw [put4, mset_ne (by omega), mset_ne (by omega), mset_ne (by omega), mset_ne (by omega)]
theorem put4_o {M : Mem} {p : Nat} {r : Rw} {a : Nat} (ha : a < 218 ∨ 221 < a) : (put4 M p r).1 a = M.1 a := by rw [put4, mset_ne (by omega), mset_ne (by omega), mset_ne (by omega), mset_ne (by omega)]
theorem put4_fr {M : Mem} {i p : Nat} {r : Rw} (h : 90 * i ≤ p ∧ p < 90 * i + 90) : FrI i M (put4 M p r) :=
  (((FrI.set (by omega) (by omega) (fun _ => h) (fun z => by omega)).tr (FrI.set (by omega) (by omega) (fun _ => h) (fun z => by omega))).tr (FrI.set (by omega) (by omega) (fun _ => h) (fun z => by omega))).tr (FrI.set (by omega) (by omega) (fun _ => h) (fun z => by omega))
theorem j185 {M : Mem} {p : Nat} {z : Int64} (hp : p < 540) : f_Md_joins_b185 z (nI p) M = some ((), mset M 221 p (Int64.toInt32 (mxL (-99999) (mnL 99999 z)))) := by
  rw [f_Md_joins_b185, cut_ok, bd_s, gd_of (inbT hp (by omega)), bm_e, ixN (by omega)]
theorem j119 {M : Mem} {p a b : Nat} {t0 t1 x y kd : Int32} (hp : p < 540) (ha : a < 540) (hb : b < 540) (h1 : M.1 221 a = x) (h2 : M.1 221 b = y) (h3 : M.1 216 p = kd) : f_Md_joins_b119 (nI p) (nI a) (nI b) t0 t1 (nI p) M = some ((), mset (mset M 220 p (t1 + t0)) 221 p (opv kd x y)) := by
  have g1 : inb (nI p) 540 = true := inbT hp (by omega)
  have g2 : inb (nI a) 540 = true := inbT ha (by omega)
  have g3 : inb (nI b) 540 = true := inbT hb (by omega)
  rw [f_Md_joins_b119, gd_of g1, bm_e, gd_of g2, bl_e, gd_of g3, bl_e, gd_of g1, ixN (show p < 2 ^ 31 by omega), ixN (show a < 2 ^ 31 by omega), ixN (show b < 2 ^ 31 by omega), mset_ne (show (221 : Nat) ≠ 220 by omega), mset_ne (show (216 : Nat) ≠ 220 by omega), h1, h2, h3, opv]
  by_cases c4 : kd = 4
  · rw [if_pos c4, if_pos c4, j185 hp]
  · rw [if_neg c4, if_neg c4, gd_of g1]
    by_cases c5 : kd = 5
    · rw [if_pos c5, if_pos c5, j185 hp]
    · rw [if_neg c5, if_neg c5, j185 hp]
theorem n1a (z : Nat) : (1 : Int32) + nI z = nI (z + 1) := by rw [← nI_s]; grind
theorem j82 {M : Mem} {p a b d1 d2 : Nat} {t0 x y kd : Int32} (hp : p < 540) (ha : a < 540) (hb : b < 540) (h1 : M.1 221 a = x) (h2 : M.1 221 b = y) (h3 : M.1 216 p = kd) (e1 : M.1 220 a = nI d1) (e2 : M.1 220 b = nI d2) (hd1 : d1 ≤ 60) (hd2 : d2 ≤ 60) :
    f_Md_joins_b82 (nI p) (nI a) (nI b) t0 (nI p) M = some ((), mset (mset (mset M 219 p t0) 220 p (nI (max d1 d2 + 1))) 221 p (opv kd x y)) := by
  have g1 : inb (nI p) 540 = true := inbT hp (by omega)
  have g2 : inb (nI a) 540 = true := inbT ha (by omega)
  have g3 : inb (nI b) 540 = true := inbT hb (by omega)
  have hh : ∀ z, f_Md_joins_b119 (nI p) (nI a) (nI b) z 1 (nI p) (mset M 219 p t0) = some ((), mset (mset (mset M 219 p t0) 220 p (1 + z)) 221 p (opv kd x y)) := fun z => j119 hp ha hb (by rw [mset_ne (by omega)]; exact h1) (by rw [mset_ne (by omega)]; exact h2) (by rw [mset_ne (by omega)]; exact h3)
  rw [f_Md_joins_b82, gd_of g1, bm_e, gd_of g2, gd_of g3, ixN (show p < 2 ^ 31 by omega), ixN (show a < 2 ^ 31 by omega), ixN (show b < 2 ^ 31 by omega), mset_ne (show (220 : Nat) ≠ 219 by omega), e1, e2]
  by_cases c : d1 ≤ d2
  · rw [if_pos (nI_le c (by omega)), gd_of g3, hh, n1a, Nat.max_eq_right c]
  · rw [if_neg (nI_ge (by omega) (by omega)), gd_of g2, hh, n1a, Nat.max_eq_left (by omega)]
theorem joins_ok {M : Mem} {i k : Nat} {lv : Nd → Int32} {l : Fm} (hw : wf l) (hi : i < 6) (hl : l.length ≤ 60) (hK : KA M i l) (hk : k < l.length) (ha : ar (nd l k).1 = 2) (hT : TR M i lv l (k + 1)) :
    f_Md_joins (nI (90 * i + k)) (nI (90 * i + k + 1)) (nI (90 * i + k + 1 + (tr lv l (k + 1)).1)) M = some ((), put4 M (90 * i + k) (tr lv l k)) := by
  obtain ⟨h1, h2⟩ := wf_2 (lv := lv) hw hk ha
  obtain ⟨t1, t2, t3, t4⟩ := hT (k + 1) (Nat.le_refl _) h1
  obtain ⟨u1, u2, u3, u4⟩ := hT (k + 1 + (tr lv l (k + 1)).1) (by omega) h2
  have hb : ∀ z, z < l.length → (tr lv l z).2.1 ≤ 60 ∧ (tr lv l z).2.2.1 ≤ 60 := fun z hz => by
    have z1 := tr_le (lv := lv) (l := l) (l.length - z + 1) z (by omega)
    have z2 := wf_size (lv := lv) hw hz
    omega
  have b1 := hb _ h1
  have b2 := hb _ h2
  rw [tr_a2 hk ha]
  rw [show 90 * i + (k + 1) = 90 * i + k + 1 by omega] at t1 t2 t3 t4
  rw [show 90 * i + (k + 1 + (tr lv l (k + 1)).1) = 90 * i + k + 1 + (tr lv l (k + 1)).1 by omega] at u1 u2 u3 u4
  have hkk := (hK.2 k hk).1
  have hp : 90 * i + k < 540 := by omega
  have ha2 : 90 * i + k + 1 < 540 := by omega
  have hq2 : 90 * i + k + 1 + (tr lv l (k + 1)).1 < 540 := by omega
  generalize 90 * i + k = p at *
  generalize p + 1 + (tr lv l (k + 1)).1 = q at *
  generalize p + 1 = a at *
  have g1 : inb (nI p) 540 = true := inbT hp (by omega)
  have g2 : inb (nI a) 540 = true := inbT ha2 (by omega)
  have g3 : inb (nI q) 540 = true := inbT hq2 (by omega)
  have hh : ∀ v, f_Md_joins_b82 (nI p) (nI a) (nI q) v (nI p) (mset M 218 p (M.1 218 a + M.1 218 q + 1)) = some ((), mset (mset (mset (mset M 218 p (M.1 218 a + M.1 218 q + 1)) 219 p v) 220 p (nI (max (tr lv l (k + 1)).2.2.1 (tr lv l (k + 1 + (tr lv l (k + 1)).1)).2.2.1 + 1))) 221 p (opv (nd l k).1 (tr lv l (k + 1)).2.2.2 (tr lv l (k + 1 + (tr lv l (k + 1)).1)).2.2.2)) := fun v => j82 hp ha2 hq2 (by rw [mset_ne (by omega)]; exact t4) (by rw [mset_ne (by omega)]; exact u4) (by rw [mset_ne (by omega)]; exact hkk) (by rw [mset_ne (by omega)]; exact t3) (by rw [mset_ne (by omega)]; exact u3) b1.2 b2.2
  rw [f_Md_joins, gd_of g2, gd_of g3, gd_of g1, bm_e, gd_of g2, gd_of g3, ixN (show p < 2 ^ 31 by omega), ixN (show a < 2 ^ 31 by omega), ixN (show q < 2 ^ 31 by omega), mset_ne (show (219 : Nat) ≠ 218 by omega), t2, u2]
  have fin : ∀ v, v = nI (npair (tr lv l (k + 1)).2.1 (tr lv l (k + 1 + (tr lv l (k + 1)).1)).2.1) → f_Md_joins_b82 (nI p) (nI a) (nI q) v (nI p) (mset M 218 p (M.1 218 a + M.1 218 q + 1)) = some ((), put4 M p ((tr lv l (k + 1)).1 + (tr lv l (k + 1 + (tr lv l (k + 1)).1)).1 + 1, npair (tr lv l (k + 1)).2.1 (tr lv l (k + 1 + (tr lv l (k + 1)).1)).2.1, max (tr lv l (k + 1)).2.2.1 (tr lv l (k + 1 + (tr lv l (k + 1)).1)).2.2.1 + 1, opv (nd l k).1 (tr lv l (k + 1)).2.2.2 (tr lv l (k + 1 + (tr lv l (k + 1)).1)).2.2.2)) := by
    intro v hv
    rw [hh v, hv, t1, u1, nI_add, nI_s, put4]
  by_cases c : (tr lv l (k + 1)).2.1 = (tr lv l (k + 1 + (tr lv l (k + 1)).1)).2.1
  · rw [if_pos (by rw [c]), gd_of g2]
    exact fin _ (by rw [npair, if_pos c, nI_s])
  · rw [if_neg (by rw [nI_eq (by omega) (by omega)]; exact c), gd_of g2, gd_of g3]
    by_cases d : (tr lv l (k + 1)).2.1 ≤ (tr lv l (k + 1 + (tr lv l (k + 1)).1)).2.1
    · rw [if_pos (nI_le d (by omega)), gd_of g3]
      exact fin _ (by rw [npair, if_neg c, Nat.max_eq_right d])
    · rw [if_neg (nI_ge (by omega) (by omega)), gd_of g2]
      exact fin _ (by rw [npair, if_neg c, Nat.max_eq_left (by omega)])
/-- a leaf's rows -/
theorem tells_ok {M : Mem} {i k : Nat} {cells vals : Nat → Int32} {l : Fm} (hw : wf l) (hi : i < 6) (hl : l.length ≤ 60) (hK : KA M i l) (hk : k < l.length) (hT : TR M i (lvf cells vals) l (k + 1)) (hc : ∀ c, c < 8 → M.1 209 (2 + c) = cells c) (hv : ∀ c, c < i → M.1 221 (90 * c) = vals c) (hok : okN i (nd l k)) (x1 : Int32) :
    f_Md_tells x1 (nI (90 * i + k)) M = some ((), put4 M (90 * i + k) (tr (lvf cells vals) l k)) := by
  obtain ⟨k1, k2⟩ := hK.2 k hk
  have hp : 90 * i + k < 540 := by omega
  have g1 : inb (nI (90 * i + k)) 540 = true := inbT hp (by omega)
  rw [f_Md_tells]
  simp only [g1, gd_t, bi_e, bm_e]
  rw [ixN (show 90 * i + k < 2 ^ 31 by omega), k1, nI_s]
  have s216 : ∀ (m : Mem) (a : Nat) (z : Nat) (v : Int32), 218 ≤ a → (mset m a z v).1 216 = m.1 216 := fun m a z v h => mset_ne (by omega)
  rcases hok with ⟨q1, q2⟩ | ⟨q1, c, q2, q3⟩ | ⟨q1, c, q2, q3⟩ | ⟨q1, -⟩
  · have a0 : ar (nd l k).1 = 0 := by rw [q1]; decide
    rw [k2 a0]
    rw [if_pos q1, s216 _ _ _ _ (by omega), s216 _ _ _ _ (by omega), s216 _ _ _ _ (by omega), k1, if_pos q1, tr_a0 hk a0, put4, lvf, q1]
    rfl
  · have a0 : ar (nd l k).1 = 0 := by rw [q1]; decide
    rw [k2 a0]
    rw [if_neg (by rw [q1]; decide), if_pos q1, s216 _ _ _ _ (by omega), s216 _ _ _ _ (by omega), s216 _ _ _ _ (by omega), k1, if_neg (by rw [q1]; decide), if_pos q1, tr_a0 hk a0, put4, lvf, if_pos q1, q3, l2a, gd_of (inbT (by omega) (by omega)), ixN (by omega), ixN (by omega), mset_ne (show (209 : Nat) ≠ 220 by omega), mset_ne (show (209 : Nat) ≠ 219 by omega), mset_ne (show (209 : Nat) ≠ 218 by omega), hc c q2]
    rfl
  · have a0 : ar (nd l k).1 = 0 := by rw [q1]; decide
    rw [k2 a0]
    rw [if_neg (by rw [q1]; decide), if_neg (by rw [q1]; decide), if_pos q1, s216 _ _ _ _ (by omega), s216 _ _ _ _ (by omega), s216 _ _ _ _ (by omega), k1, if_neg (by rw [q1]; decide), if_neg (by rw [q1]; decide), tr_a0 hk a0, put4, lvf, if_neg (by rw [q1]; decide), if_pos q1, q3, w90', gd_of (inbT (by omega) (by omega)), ixN (by omega), ixN (by omega), mset_ne (show (221 : Nat) ≠ 220 by omega), mset_ne (show (221 : Nat) ≠ 219 by omega), mset_ne (show (221 : Nat) ≠ 218 by omega), hv c q2]
    rfl
  · by_cases c3 : (nd l k).1 = 3
    · have a1 : ar (nd l k).1 = 1 := by rw [c3]; decide
      have h1 := wf_1 hw hk a1
      obtain ⟨t1, t2, t3, t4⟩ := hT (k + 1) (Nat.le_refl _) h1
      rw [show 90 * i + (k + 1) = 90 * i + k + 1 by omega] at t1 t2 t3 t4
      have g2 : inb (nI (90 * i + k + 1)) 540 = true := inbT (by omega) (by omega)
      rw [if_neg (by rw [c3]; decide), if_neg (by rw [c3]; decide), if_neg (by rw [c3]; decide), if_pos c3]
      simp only [g2, gd_t]
      rw [ixN (show 90 * i + k + 1 < 2 ^ 31 by omega)]
      simp only [ms1, show ¬ (219 : Nat) = 218 by omega, show ¬ (220 : Nat) = 218 by omega, show ¬ (221 : Nat) = 218 by omega, show ¬ (220 : Nat) = 219 by omega, show ¬ (221 : Nat) = 219 by omega, show ¬ (221 : Nat) = 220 by omega, if_false]
      rw [t1, t2, t3, t4, nI_s, nI_s, tr_a1 hk a1, put4]
    · have a2 : ar (nd l k).1 = 2 := by
        rcases q1 with q1 | q1 | q1 | q1
        · exact absurd q1 c3
        · rw [q1]; decide
        · rw [q1]; decide
        · rw [q1]; decide
      have hz : ¬ (nd l k).1 = 0 ∧ ¬ (nd l k).1 = 1 ∧ ¬ (nd l k).1 = 2 := by
        rcases q1 with q1 | q1 | q1 | q1 <;> rw [q1] <;> decide
      obtain ⟨h1, h2⟩ := wf_2 (lv := lvf cells vals) hw hk a2
      have t1 := (hT (k + 1) (Nat.le_refl _) h1).1
      rw [show 90 * i + (k + 1) = 90 * i + k + 1 by omega] at t1
      rw [if_neg hz.1, if_neg hz.2.1, if_neg hz.2.2, if_neg c3, gd_of (inbT (by omega) (by omega)), ixN (show 90 * i + k + 1 < 2 ^ 31 by omega), t1, nI_add, joins_ok hw hi hl hK hk a2 hT, bd_s]
theorem lays26 {i : Nat} {cells vals : Nat → Int32} {l : Fm} {k2 : Int32 → Mem → Option (Unit × Mem)} (hw : wf l) (hi : i < 6) (hl : l.length ≤ 60) (hok : ∀ q ∈ l, okN i q) : ∀ (n j : Nat) (M : Mem), j ≤ l.length → j < n → KA M i l → TR M i (lvf cells vals) l j → (∀ c, c < 8 → M.1 209 (2 + c) = cells c) → (∀ c, c < i → M.1 221 (90 * c) = vals c) →
    ∃ M', f_Md_lays_b26 k2 n (nI i) (nI j - 1) M = k2 (nI (i + 1)) M' ∧ KA M' i l ∧ TR M' i (lvf cells vals) l 0 ∧ M'.1 223 = M.1 223 ∧ FrI i M M' := by
  intro n
  induction n with
  | zero => intro j M _ h; omega
  | succ n ih =>
    intro j M hj hn hK hT hc hv
    rw [f_Md_lays_b26]
    cases j with
    | zero =>
      rw [if_pos (by decide), bi_e, nI_s]
      exact ⟨M, rfl, hK, hT, rfl, FrI.rf⟩
    | succ j =>
      rw [nI_m1, if_neg (nI_pos (by omega)), w90, tells_ok hw hi hl hK (by omega) hT hc hv ((nd_mem.mpr hok) j (by omega)), bd_s, bi_e]
      have fr : FrI i M (put4 M (90 * i + j) (tr (lvf cells vals) l j)) := put4_fr (by omega)
      have e1 : nI j + (-1) = nI j - 1 := by grind
      obtain ⟨M1, r1, r2, r3, r4, r5⟩ := ih j (put4 M (90 * i + j) (tr (lvf cells vals) l j)) (by omega) (by omega)
        ⟨by rw [put4_o (a := 222) (by omega)]; exact hK.1, fun k hk => by rw [put4_o (a := 216) (by omega), put4_o (a := 217) (by omega)]; exact hK.2 k hk⟩
        (fun k k1 k2 => by
          rw [put4_get.1, put4_get.2.1, put4_get.2.2.1, put4_get.2.2.2.1]
          by_cases c : k = j
          · subst c
            simp only [if_true, and_self]
          · rw [if_neg (by omega), if_neg (by omega), if_neg (by omega), if_neg (by omega)]
            exact hT k (by omega) k2)
        (fun c hc8 => by rw [put4_o (a := 209) (by omega)]; exact hc c hc8)
        (fun c hci => by rw [put4_get.2.2.2.1, if_neg (by omega)]; exact hv c hci)
      rw [e1, r1]
      exact ⟨M1, rfl, r2, r3, by rw [r4, put4_o (a := 223) (by omega)], fr.tr r5⟩
theorem lays_loop {st : St} (hk : OKS st.1) : ∀ (n j : Nat) (M : Mem), j ≤ st.1.length → st.1.length - j < n → RowS (M.1 209) 0 st → (∀ c, c < j → XAi M st c) →
    ∃ M', f_Md_lays_b2 n (nI j) M = some ((), M') ∧ XAA M' st ∧ Off (fun a => 216 ≤ a ∧ a ≤ 223) M M' := by
  have h6 := hk.1.2
  intro n
  induction n with
  | zero => intro j M _ h; omega
  | succ n ih =>
    intro j M hj hn hS hC
    rw [f_Md_lays_b2, gd_of (by decide), show ix 0 = 0 from rfl, hS.1]
    by_cases c : j = st.1.length
    · subst c
      rw [if_pos (nI_le (Nat.le_refl _) (by omega))]
      exact ⟨M, rfl, hC, Off.rf⟩
    · have hj6 : j < st.1.length := by omega
      obtain ⟨w1, w2, w3, -⟩ := XX_ok hk hj6
      obtain ⟨M1, e1, a1, a2, a3⟩ := expands_ok hk hj6 M hS hC
      have hC1 : ∀ c, c < j → XAi M1 st c := fun c hc => (hC c hc).fr (j := j) (XX_ok hk (i := c) (by omega)).2.1 (by omega) a3
      rw [if_neg (nI_ge hj6 (by omega)), e1, bd_s, gd_of (inbT (by omega) (by omega)), bi_e, ixN (by omega), a1.1]
      obtain ⟨M2, e2, b1, b2, b3, b4⟩ := lays26 (i := j) (cells := st.2.1) (vals := vls (XF st.1 st.2.1 j)) (k2 := f_Md_lays_b2 n) w1 (by omega) w2 w3 FU (XX st j).1.length M1 (Nat.le_refl _) (by rw [FU_e]; omega) a1 (fun k k1 k2 => by omega)
        (fun c hc => by
          have := hS.2.2.1 c hc
          rw [show 0 + 2 + c = 2 + c by omega] at this
          rw [a3.1 209 (by omega)]; exact this)
        (fun c hc => by
          have := (hC1 c hc).2.2 0 (Nat.le_refl _) (wf_len (XX_ok hk (i := c) (by omega)).1)
          rw [vls, XF_lt j hc]
          exact this.2.2.2)
      rw [e2]
      have fr := a3.tr b4
      obtain ⟨M3, e3, c1, c2⟩ := ih (j + 1) M2 (by omega) (by omega) (by rw [fr.1 209 (by omega)]; exact hS) (fun c hc => by
        by_cases d : c = j
        · subst d
          exact ⟨b1, by rw [b3]; exact a2, b2⟩
        · exact (hC c (by omega)).fr (j := j) (XX_ok hk (i := c) (by omega)).2.1 d fr)
      exact ⟨M3, e3, c1, (show Off (fun a => 216 ≤ a ∧ a ≤ 223) M M2 from ⟨fr.1, fr.2.1⟩).tr c2⟩
theorem lays_ok {st : St} (hk : OKS st.1) (M : Mem) (hS : RowS (M.1 209) 0 st) : ∃ M', f_Md_lays M = some ((), M') ∧ XAA M' st ∧ Off (fun a => 216 ≤ a ∧ a ≤ 223) M M' := by
  have h6 := hk.1.2
  rw [f_Md_lays, ← nI_0]
  exact lays_loop hk FU 0 M (by omega) (by rw [FU_e]; omega) hS (fun c hc => by omega)
