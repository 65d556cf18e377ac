/-! leaves, numbers and openings on the reference's side -/
def QW (M M' : Mem) : Prop := Off (fun a => a = 208 ∨ a = 212 ∨ a = 213 ∨ a = 214) M M' ∧ ∀ k, k < 6 → M'.1 208 k = M.1 208 k
theorem QP.w {fm : Nat} {M M' : Mem} (h : QP fm M M') : QW M M' := ⟨h.1, fun k hk => h.2.1 k (Or.inl hk)⟩
theorem QW.tr {M M1 M2 : Mem} (h : QW M M1) (g : QW M1 M2) : QW M M2 := ⟨h.1.tr g.1, fun k hk => (g.2 k hk).trans (h.2 k hk)⟩
theorem QW.rf {M : Mem} : QW M M := ⟨Off.rf, fun _ _ => rfl⟩
theorem hs_dig {tx : List Int32} {i : Nat} : dig (hs tx i) ↔ dig (sg tx i) := by
  rw [hs]
  by_cases c : i < tx.length
  · rw [if_pos c]
  · rw [if_neg c]
    have e : sg tx i = 0 := by simp [sg, List.getElem?_eq_none (Nat.le_of_not_lt c)]
    rw [e]
    exact ⟨fun q => absurd (show (-1000009 : Int32) < 48 by decide) q.1, fun q => absurd (show (0 : Int32) < 48 by decide) q.1⟩
theorem in_dig {M : Mem} {c : Int32} : f_Md_in c 48 57 M = some (if dig c then 1 else 0, M) := by
  rw [in_ok]
  by_cases c1 : c < 48
  · rw [if_pos c1, if_neg (fun q => q.1 c1)]
  · rw [if_neg c1]
    by_cases c2 : 57 < c
    · rw [if_pos c2, if_neg (fun q => q.2 c2)]
    · rw [if_neg c2, if_pos ⟨c1, c2⟩]
/-- a state with another place -/
theorem RS2.at {M : Mem} {tx : List Int32} {fm i j : Nat} {C : List ES} {T : Fm} (h : RS2 M tx fm i C T) : RS2 (mset M 208 6 (nI j)) tx fm j C T := by
  obtain ⟨h1, h6, h7, h8, h9, hcn, h10, h12, hsg, hst, h14, hwa⟩ := h
  have q : QP fm M (mset M 208 6 (nI j)) := QP.s (by omega)
  have e : ∀ k, k ≠ 6 → (mset M 208 6 (nI j)).1 208 k = M.1 208 k := fun k hk => by simp [ms1, hk]
  refine ⟨h1.q q, by simp [ms1], by rw [e 7 (by omega)]; exact h7, by rw [e 8 (by omega)]; exact h8, fun k hk => by rw [mset_ne (by omega)]; exact h9 k hk, by rw [e 9 (by omega)]; exact hcn, by rw [e 10 (by omega)]; exact h10, by rw [e 12 (by omega)]; exact h12, hsg.lt (fun k _ => by rw [mset_ne (by omega)]), fun w => by rw [mset_ne (by omega)]; exact hst w, by rw [e 14 (by omega)]; exact h14, hwa.lt (fun k _ => by rw [mset_ne (by omega)])⟩
theorem RS2.whole {M : Mem} {tx : List Int32} {fm i : Nat} {C : List ES} {T : Fm} {v : Int32} (h : RS2 M tx fm i C T) : RS2 (mset M 208 15 v) tx fm i C T := by
  obtain ⟨h1, h6, h7, h8, h9, hcn, h10, h12, hsg, hst, h14, hwa⟩ := h
  have q : QP fm M (mset M 208 15 v) := QP.s (by omega)
  have e : ∀ k, k ≠ 15 → (mset M 208 15 v).1 208 k = M.1 208 k := fun k hk => by simp [ms1, hk]
  refine ⟨h1.q q, by rw [e 6 (by omega)]; exact h6, by rw [e 7 (by omega)]; exact h7, by rw [e 8 (by omega)]; exact h8, fun k hk => by rw [mset_ne (by omega)]; exact h9 k hk, by rw [e 9 (by omega)]; exact hcn, by rw [e 10 (by omega)]; exact h10, by rw [e 12 (by omega)]; exact h12, hsg.lt (fun k _ => by rw [mset_ne (by omega)]), fun w => by rw [mset_ne (by omega)]; exact hst w, by rw [e 14 (by omega)]; exact h14, hwa.lt (fun k _ => by rw [mset_ne (by omega)])⟩
theorem rleaf {tx : List Int32} {fm i : Nat} {C : List ES} {M : Mem} {kd v : Int32} (hfm : fm ≤ 5) (h : RS2 M tx fm i C []) (ho : OC C []) (hl : (layC C).length < 30) : ∃ M', f_Md_leaf kd v M = some (1, M') ∧ RS2 M' tx fm i C [(kd, v)] ∧ M'.1 208 15 = M.1 208 15 ∧ QP fm M M' := by
  obtain ⟨h1, h6, h7, h8, h9, hcn, h10, h12, hsg, hst, h14, hwa⟩ := h
  have hle := lay_le ho.1
  rw [List.append_nil] at h8 h9 hcn
  rw [if_pos rfl, Nat.add_zero] at h12
  rw [f_Md_leaf, h12, gd_of (inbT (by omega) (by omega)), ixN (by omega), h8, bm_e, mset_ne (show (208 : Nat) ≠ 213 by omega), h12, nI_s, bm_e]
  have e8 : (mset (mset M 213 (nseg C) (nI (lay0 C).length)) 208 12 (nI (nseg C + 1))).1 208 8 = nI (lay0 C).length := by simp [ms1, h8]
  rw [e8]
  have q1 : QP fm M (mset (mset M 213 (nseg C) (nI (lay0 C).length)) 208 12 (nI (nseg C + 1))) := (QP.a (Or.inl rfl)).tr (QP.s (by omega))
  have w1 : ∀ k, k ≠ 12 → (mset (mset M 213 (nseg C) (nI (lay0 C).length)) 208 12 (nI (nseg C + 1))).1 208 k = M.1 208 k := fun k hk => by simp [ms1, hk]
  have w12 : (mset (mset M 213 (nseg C) (nI (lay0 C).length)) 208 12 (nI (nseg C + 1))).1 208 12 = nI (nseg C + 1) := by simp [ms1]
  have w13 : ∀ j, (mset (mset M 213 (nseg C) (nI (lay0 C).length)) 208 12 (nI (nseg C + 1))).1 213 j = if j = nseg C then nI (lay0 C).length else M.1 213 j := fun j => by simp [ms1]
  have w14 : (mset (mset M 213 (nseg C) (nI (lay0 C).length)) 208 12 (nI (nseg C + 1))).1 214 = M.1 214 := by rw [mset_ne (by omega), mset_ne (by omega)]
  have w2 : (mset (mset M 213 (nseg C) (nI (lay0 C).length)) 208 12 (nI (nseg C + 1))).1 212 = M.1 212 := by rw [mset_ne (by omega), mset_ne (by omega)]
  generalize mset (mset M 213 (nseg C) (nI (lay0 C).length)) 208 12 (nI (nseg C + 1)) = M1 at *
  obtain ⟨M2, u1, u2, u3, u4, u5⟩ := puts_ok (l := lay0 C) (p := (lay0 C).length) (kd := kd) (ct := v) (ct' := v) (by rw [w1 7 (by omega)]; exact h7) e8 (fun k hk => by rw [w2]; exact h9 k hk) hfm (Nat.le_refl _) (by omega) (fun _ => rfl)
  have eins : ins (lay0 C).length (kd, v) (lay0 C) = lay0 C ++ [(kd, v)] := by
    have := ins_at (l := lay0 C) (T := []) (q := (kd, v))
    rw [List.append_nil] at this
    exact this
  rw [eins] at u2
  have e9 : M2.1 208 9 = nI (layC C).length := by rw [u3, upd_ne (by omega), w1 9 (by omega)]; exact hcn
  rw [u1, bd_s, bm_e, e9, nI_s, isB1, gd_t]
  have q2 : QP fm M1 M2 := ⟨u4.mono (fun a q => by omega), fun j hj => by rw [u3, upd_ne (by omega)], u5⟩
  have q3 : QP fm M (mset M2 208 9 (nI ((layC C).length + 1))) := (q1.tr q2).tr (QP.s (by omega))
  have z : ∀ k, k ≠ 9 → k ≠ 8 → (mset M2 208 9 (nI ((layC C).length + 1))).1 208 k = M1.1 208 k := fun k z1 z2 => by
    rw [ms1, if_pos rfl, if_neg z1, u3, upd_ne z2]
  refine ⟨_, rfl, ⟨h1.q q3, by rw [z 6 (by omega) (by omega), w1 6 (by omega)]; exact h6, by rw [z 7 (by omega) (by omega), w1 7 (by omega)]; exact h7, ?_, fun k hk => by rw [mset_ne (by omega)]; exact u2 k hk, by simp [ms1], by rw [z 10 (by omega) (by omega), w1 10 (by omega)]; exact h10, by rw [z 12 (by omega) (by omega), w12, if_neg (by simp)], hsg.lt (fun j hj => ?_), fun _ => ?_, by rw [z 14 (by omega) (by omega), w1 14 (by omega)]; exact h14, hwa.lt (fun j hj => ?_)⟩, by rw [z 15 (by omega) (by omega), w1 15 (by omega)], q3⟩
  · rw [ms1, if_pos rfl, if_neg (by omega), u3]
    simp [upd]
  · rw [mset_ne (by omega), u4.1 213 (by omega), w13, if_neg (by omega)]
  · rw [mset_ne (by omega), u4.1 213 (by omega), w13, if_pos rfl]
  · rw [mset_ne (by omega), u4.1 214 (by omega), w14]
/-- what the reference does at a leaf that the reader of lists reads -/
def LfO (M : Mem) (tx : List Int32) (fm : Nat) (C : List ES) (v : Int32 × Nat) (kd : Int32) (o : Option (Int32 × Mem)) : Prop :=
  (∃ M', o = some (1, M') ∧ RS2 M' tx fm v.2 C [(kd, v.1)] ∧ M'.1 208 15 = 1 ∧ QP fm M M') ∨ (dig (sg tx v.2) ∧ ∃ M', o = some (0, M') ∧ M'.1 208 6 = nI v.2 ∧ QW M M')
theorem LfO.of {M M1 : Mem} {tx : List Int32} {fm : Nat} {C : List ES} {v : Int32 × Nat} {kd : Int32} {o : Option (Int32 × Mem)} (q : QP fm M M1) (h : LfO M1 tx fm C v kd o) : LfO M tx fm C v kd o := by
  rcases h with ⟨M', a, b, c, d⟩ | ⟨e, M', a, b, d⟩
  · exact Or.inl ⟨M', a, b, c, q.tr d⟩
  · exact Or.inr ⟨e, M', a, b, q.w.tr d⟩
theorem rnum {tx : List Int32} {fm : Nat} {C : List ES} (hx : tx.length ≤ 100) (hfm : fm ≤ 5) (ho : OC C []) (hl : (layC C).length < 30) {s : Nat} : ∀ (r n k j : Nat) (M : Mem), r ≤ 2 → r < n → j = s + (3 - r) → k < 1000 → j ≤ tx.length → RS2 M tx fm j C [] → M.1 208 15 = 1 → k < 10 ^ (3 - r) →
    LfO M tx fm C (pNum tx r (nI k) j) 0 (f_Md_number_b23 n (nI k) (nI s) M) := by
  intro r
  induction r with
  | zero =>
    intro n k j M hr hn hj hk hjl h h15 hkr
    obtain ⟨n', rfl⟩ : ∃ n', n = n' + 1 := ⟨n - 1, by omega⟩
    rw [f_Md_number_b23, here_ok h.1 h.2.1 hjl hx, bd_s, in_dig, bd_s, pNum]
    by_cases c : dig (sg tx j)
    · rw [if_pos (hs_dig.mpr c), if_neg (by decide)]
      refine Or.inr ⟨c, M, ?_, h.2.1, QW.rf⟩
      by_cases d : k = 0
      · rw [if_pos (by rw [d]; rfl), isB0, gd_t]
      · rw [if_neg (nI_ne0 (by omega) (by omega)), h.2.1, nI_sb (by omega), if_pos (by rw [hj, show s + (3 - 0) - s = 3 by omega]; rfl), isB0, gd_t]
    · rw [if_neg (fun q => c (hs_dig.mp q)), if_pos rfl]
      obtain ⟨M1, u1, u2, u3, u4⟩ := rleaf (kd := 0) (v := nI k) hfm h ho hl
      rw [u1, bd_s, isB1, gd_t]
      exact Or.inl ⟨M1, rfl, u2, by rw [u3]; exact h15, u4⟩
  | succ r ih =>
    intro n k j M hr hn hj hk hjl h h15 hkr
    obtain ⟨n', rfl⟩ : ∃ n', n = n' + 1 := ⟨n - 1, by omega⟩
    rw [f_Md_number_b23, here_ok h.1 h.2.1 hjl hx, bd_s, in_dig, bd_s, pNum]
    by_cases c : dig (sg tx j)
    · have hlt := sg_lt (dig_ne c)
      rw [if_pos (hs_dig.mpr c), if_pos c, if_neg (show ¬ (1 : Int32) = 0 by decide)]
      by_cases d : k = 0
      · rw [if_pos (show nI k = 0 by rw [d]; rfl), isB0, gd_t, if_neg (show ¬ (r = 2 ∨ ¬ nI k ≤ 0) by rw [d]; intro q; rcases q with q | q; omega; exact q (by decide))]
        exact Or.inr ⟨c, M, rfl, h.2.1, QW.rf⟩
      · have hp : ¬ nI k ≤ 0 := by rw [← nI_0]; exact nI_ge (by omega) (by omega)
        have n3 : ¬ nI (j - s) = 3 := fun q => by
          have := (nI_eq (by omega) (by omega)).mp (q.trans (show (3 : Int32) = nI 3 from rfl))
          omega
        obtain ⟨z, hz, hz10⟩ := dig_k c
        have ez : hs tx j = sg tx j := if_pos hlt
        have e : (10 : Int32) * nI k + sg tx j - 48 = nI (10 * k + z) := by
          rw [hz, show (10 : Int32) = nI 10 from rfl, nI_mul, nI_add, show (48 : Int32) = nI 48 from rfl, nI_sb (by omega)]
          congr 1; omega
        have hp10 : 10 * k + z < 10 ^ (3 - r) := by
          have : 10 ^ (3 - r) = 10 * 10 ^ (3 - (r + 1)) := by
            rw [show 3 - r = (3 - (r + 1)) + 1 by omega, Nat.pow_succ, Nat.mul_comm]
          omega
        have h1000 : 10 * k + z < 1000 := Nat.lt_of_lt_of_le hp10 (Nat.le_trans (Nat.pow_le_pow_right (by omega) (show 3 - r ≤ 3 by omega)) (by decide))
        rw [if_neg (show ¬ nI k = 0 from nI_ne0 (by omega) (by omega)), h.2.1, nI_sb (by omega), if_neg n3, here_ok h.1 h.2.1 hjl hx, bd_s, ez, e, bi_e, bm_e, h.2.1, nI_s, if_pos (Or.inr hp)]
        exact LfO.of (QP.s (by omega)) (ih n' (10 * k + z) (j + 1) (mset M 208 6 (nI (j + 1))) (by omega) (by omega) (by omega) h1000 hlt h.at (by simp [ms1, h15]) hp10)
    · rw [if_neg (fun q => c (hs_dig.mp q)), if_pos rfl, if_neg c]
      obtain ⟨M1, u1, u2, u3, u4⟩ := rleaf (kd := 0) (v := nI k) hfm h ho hl
      rw [u1, bd_s, isB1, gd_t]
      exact Or.inl ⟨M1, rfl, u2, by rw [u3]; exact h15, u4⟩
