/-! turn, on the reference's side -/
theorem r_kindAt {M : Mem} {st : St} (hS : RowS (M.1 209) 0 st) (hk : OKS st.1) {f j : Nat} (hf : f < st.1.length) (hj : j < (gf st.1 f).length) : f_Md_kindAt (nI f) (nI j) M = some ((nd (gf st.1 f) j).1, M) := by
  have h6 := hk.1.2
  have hl := (hk.2 f hf).2.1
  have q := ((hS.2.2.2 f hf).2 j hj).1
  rw [Nat.zero_add] at q
  rw [f_Md_kindAt, w60, gd_of (inbT (by omega) (by omega)), ixN (by omega), q]
theorem r_size {M : Mem} {st : St} (hS : RowS (M.1 209) 0 st) (hk : OKS st.1) {f k : Nat} (hf : f < st.1.length) {r : Fm} : ∀ (n m p : Nat), k ≤ p → p ≤ (gf st.1 f).length → (gf st.1 f).length - p < n → skp ((gf st.1 f).drop p) m = some r →
    f_Md_sizeAt_b5 n (nI f) (nI k) (nI m) (nI p) M = some (nI ((gf st.1 f).length - r.length - k), M) := by
  have hl := (hk.2 f hf).2.1
  intro n
  induction n with
  | zero => intro m p _ _ h; omega
  | succ n ih =>
    intro m p hkp hp hn hs
    rw [f_Md_sizeAt_b5]
    have hb := (skp_len hs).1
    rw [List.length_drop] at hb
    cases m with
    | zero =>
      rw [skp_0] at hs
      cases hs
      rw [nI_0, if_pos (by decide), nI_sb hkp, List.length_drop]
      congr 3
      omega
    | succ m =>
      have hpl : p < (gf st.1 f).length := by omega
      rw [skp_drop hpl] at hs
      have hn0 : ¬ nI (m + 1) ≤ 0 := by rw [← nI_0]; exact nI_ge (by omega) (by omega)
      rw [if_neg hn0, r_kindAt hS hk hf hpl, bd_s]
      by_cases c : 3 ≤ (nd (gf st.1 f) p).1
      · rw [if_pos c]
        by_cases d : (nd (gf st.1 f) p).1 = 3
        · rw [if_pos d, bi_e, bi_e, nI_z, nI_s]
          exact ih (m + 1) (p + 1) (by omega) (by omega) (by omega) (by rw [← hs, d]; rfl)
        · rw [if_neg d, bi_e, bi_e, nI_s, nI_s]
          have e : ar (nd (gf st.1 f) p).1 = 2 := by rw [ar, if_pos c, if_neg d]
          exact ih (m + 1 + 1) (p + 1) (by omega) (by omega) (by omega) (by rw [← hs, e])
      · rw [if_neg c, bi_e, bi_e, nI_p, nI_s]
        have e : ar (nd (gf st.1 f) p).1 = 0 := by rw [ar, if_neg c]
        exact ih m (p + 1) (by omega) (by omega) (by omega) (by rw [← hs, e]; rfl)
theorem wfr (a k : Nat) : nI a + (2 : Int32) * nI k + 2 = nI (a + 2 * k + 2) := by
  rw [show (2 : Int32) = nI 2 from rfl, nI_mul, nI_add, nI_add]
theorem w2L (a b : Nat) : (2 : Int32) * (nI a + nI b) = nI (2 * (a + b)) := by rw [show (2 : Int32) = nI 2 from rfl, nI_add, nI_mul]
theorem w2k (a : Nat) : (2 : Int32) * nI a = nI (2 * a) := by rw [show (2 : Int32) = nI 2 from rfl, nI_mul]
theorem turn158 {M0 : Mem} {f k B L R : Nat} {k0 : Mem → Option (Int32 × Mem)} (hk0 : ∀ M, k0 M = bd (f_Md_lays M) fun _ M1 => gd (inb (90 * nI f) 540) (some ((M1.1 219 (ix (90 * nI f))), M1))) (hL : L + R ≤ 30) (hB : B + 2 * k + 2 + 2 * (L + R) ≤ 376) : ∀ (n j : Nat) (M : Mem), j ≤ 2 * (L + R) → 2 * (L + R) - j < n → M.1 215 = M0.1 215 →
    ∃ M', f_Md_turn_b158 n (nI f) (nI k) (nI B) (nI L) (nI R) (nI j) M = k0 M' ∧ (∀ i, M'.1 209 i = if B + 2 * k + 2 + j ≤ i ∧ i < B + 2 * k + 2 + 2 * (L + R) then M0.1 215 (i - (B + 2 * k + 2)) else M.1 209 i) ∧ Off (fun a => a = 209) M M' := by
  intro n
  induction n with
  | zero => intro j M _ h; omega
  | succ n ih =>
    intro j M hj hn hm
    rw [f_Md_turn_b158, w2L]
    by_cases c : j = 2 * (L + R)
    · subst c
      rw [if_pos (nI_le (Nat.le_refl _) (by omega))]
      exact ⟨M, (hk0 M).symm, fun i => by rw [if_neg (by omega)], Off.rf⟩
    · rw [if_neg (nI_ge (by omega) (by omega)), wfr, nI_add, gd_of (inbT (by omega) (by omega)), gd_of (inbT (by omega) (by omega)), bm_e, bi_e, nI_s, ixN (by omega), ixN (by omega)]
      have o1 : Off (fun a => a = 209) M (mset M 209 (B + 2 * k + 2 + j) (M.1 215 j)) := Off.set rfl
      obtain ⟨M1, e1, e3, e4⟩ := ih (j + 1) (mset M 209 (B + 2 * k + 2 + j) (M.1 215 j)) (by omega) (by omega) (by rw [mset_ne (by omega)]; exact hm)
      refine ⟨M1, e1, fun i => ?_, o1.tr e4⟩
      rw [e3 i]
      by_cases d : B + 2 * k + 2 + (j + 1) ≤ i ∧ i < B + 2 * k + 2 + 2 * (L + R)
      · rw [if_pos d, if_pos (by omega)]
      · rw [if_neg d, ms1, if_pos rfl]
        by_cases d2 : i = B + 2 * k + 2 + j
        · rw [if_pos d2, if_pos (by omega), d2, Nat.add_sub_cancel_left, hm]
        · rw [if_neg d2, if_neg (by omega)]
theorem turn90 {f k B L R : Nat} (hL : L + R ≤ 30) (hB : B + 2 * k + 2 + 2 * (L + R) ≤ 376) : ∀ (n j : Nat) (M : Mem), j ≤ 2 * (L + R) → 2 * (L + R) - j < n →
    ∃ M', f_Md_turn_b90 n (nI f) (nI k) (nI B) (nI L) (nI R) (nI j) M = f_Md_turn_b158 FU (nI f) (nI k) (nI B) (nI L) (nI R) 0 M' ∧ (∀ i, M'.1 215 i = if j ≤ i ∧ i < 2 * (L + R) then M.1 209 (B + 2 * k + 2 + (if i < 2 * R then 2 * L + i else i - 2 * R)) else M.1 215 i) ∧ Off (fun a => a = 215) M M' := by
  intro n
  induction n with
  | zero => intro j M _ h; omega
  | succ n ih =>
    intro j M hj hn
    rw [f_Md_turn_b90, w2L]
    by_cases c : j = 2 * (L + R)
    · subst c
      rw [if_pos (nI_le (Nat.le_refl _) (by omega))]
      exact ⟨M, rfl, fun i => by rw [if_neg (by omega)], Off.rf⟩
    · rw [if_neg (nI_ge (by omega) (by omega)), wfr, w2k, w2k]
      have fin : ∀ v : Nat, v = B + 2 * k + 2 + (if j < 2 * R then 2 * L + j else j - 2 * R) → ∃ M', f_Md_turn_b90 n (nI f) (nI k) (nI B) (nI L) (nI R) (nI (j + 1)) (mset M 215 j (M.1 209 v)) = f_Md_turn_b158 FU (nI f) (nI k) (nI B) (nI L) (nI R) 0 M' ∧ (∀ i, M'.1 215 i = if j ≤ i ∧ i < 2 * (L + R) then M.1 209 (B + 2 * k + 2 + (if i < 2 * R then 2 * L + i else i - 2 * R)) else M.1 215 i) ∧ Off (fun a => a = 215) M M' := by
        intro v hv
        have o1 : Off (fun a => a = 215) M (mset M 215 j (M.1 209 v)) := Off.set rfl
        obtain ⟨M1, e1, e3, e4⟩ := ih (j + 1) (mset M 215 j (M.1 209 v)) (by omega) (by omega)
        refine ⟨M1, e1, fun i => ?_, o1.tr e4⟩
        rw [e3 i, mset_ne (show (209 : Nat) ≠ 215 by omega)]
        by_cases d : j + 1 ≤ i ∧ i < 2 * (L + R)
        · rw [if_pos d, if_pos (show j ≤ i ∧ i < 2 * (L + R) by omega)]
        · rw [if_neg d, ms1, if_pos rfl]
          by_cases d2 : i = j
          · rw [if_pos d2, if_pos (show j ≤ i ∧ i < 2 * (L + R) by omega), hv, d2]
          · rw [if_neg d2, if_neg (show ¬ (j ≤ i ∧ i < 2 * (L + R)) by omega)]
      by_cases d : j < 2 * R
      · rw [if_neg (nI_ge d (by omega)), nI_add, nI_add, gd_of (inbT (by omega) (by omega)), gd_of (inbT (by omega) (by omega)), bm_e, bi_e, nI_s, ixN (by omega), ixN (by omega)]
        exact fin _ (by rw [if_pos d])
      · rw [if_pos (nI_le (by omega) (by omega)), nI_sb (by omega), nI_add, gd_of (inbT (by omega) (by omega)), gd_of (inbT (by omega) (by omega)), bm_e, bi_e, nI_s, ixN (by omega), ixN (by omega)]
        exact fin _ (by rw [if_neg d])
theorem r_turn {M : Mem} {s : S3} (h : RepR M s) (hk : OKs s) (x y : Int32) : ∃ M', f_Md_turn x y M = some ((sp_turn x y s).1, M') ∧ RepR M' (sp_turn x y s).2 ∧ OffR M M' := by
  obtain ⟨⟨t1, t2⟩, hS, -⟩ := id h
  have hks := hk.2.2.1
  have h6 := hks.1.2
  rw [f_Md_turn, rIsF hS hks, bd_s, sp_turn]
  by_cases c : isF s.2.1.1 x = true
  · rw [if_pos c, if_pos c, if_neg (by decide)]
    obtain ⟨f, rfl, hf1, hf2, hf3⟩ := isF_k c
    rw [hf3]
    obtain ⟨w1, w2, w3⟩ := hks.2 f hf1
    have hpos := wf_len w1
    have q := (hS.2.2.2 f hf1).1
    rw [show 0 + 10 + f = 10 + f by omega] at q
    have hm : nI (gf s.2.1.1 f).length - 1 = nI ((gf s.2.1.1 f).length - 1) := by
      obtain ⟨z, hz⟩ : ∃ z, (gf s.2.1.1 f).length = z + 1 := ⟨(gf s.2.1.1 f).length - 1, by omega⟩
      rw [hz, nI_m1]; rfl
    rw [w10, gd_of (inbT (by omega) (by omega)), ixN (by omega), q, hm, in_ok, bd_s]
    by_cases cy : y < 0
    · rw [if_pos cy, if_pos rfl, if_neg (by simp [cy])]; exact ⟨M, rfl, h, OffR.rf⟩
    · obtain ⟨k, rfl, hk31⟩ := nonneg_nI cy
      rw [if_neg cy, ixN hk31]
      by_cases cz : k < (gf s.2.1.1 f).length
      · rw [if_neg (nI_nlt (by omega) (by omega)), if_neg (by decide), if_pos (by simp [cy, cz]), r_kindAt hS hks hf1 cz, bd_s]
        by_cases cop : (nd (gf s.2.1.1 f) k).1 = 4 ∨ (nd (gf s.2.1.1 f) k).1 = 6
        · rw [if_pos cop]
          have ha := ar_op cop
          have main : ∃ M', f_Md_turn_b51 (nI f) (nI k) M = some (nI (need0 (turnS s.2.1 f k) f), M') ∧ RepR M' (s.1, turnS s.2.1 f k, recH s.2.2 s.2.1) ∧ OffR M M' := by
            obtain ⟨M1, e1, e2, e3, e4⟩ := acts_ok h hk
            have s9 : M1.1 209 = M.1 209 := e4.1 209 (by omega)
            have hS1 : RowS (M1.1 209) 0 s.2.1 := by rw [s9]; exact hS
            obtain ⟨r1, r2, s1, s2, esw, b1, b2⟩ := swp_parts w1 cz ha
            have hl1 := skp_len s1
            have hl2 := skp_len s2
            rw [List.length_drop] at hl1
            have d1 : (gf s.2.1.1 f).drop ((gf s.2.1.1 f).length - r1.length) = r1 := by
              have z := hl1.2
              rw [List.drop_drop] at z
              have e9 : k + 1 + ((gf s.2.1.1 f).length - (k + 1) - r1.length) = (gf s.2.1.1 f).length - r1.length := by omega
              rw [e9] at z
              exact z
            have z1 := r_size (k := k + 1) hS1 hks hf1 FU 1 (k + 1) (by omega) (by omega) (by rw [FU_e]; omega) s1
            have z2 := r_size (k := (gf s.2.1.1 f).length - r1.length) hS1 hks hf1 FU 1 ((gf s.2.1.1 f).length - r1.length) (by omega) (by omega) (by rw [FU_e]; omega) (by rw [d1]; exact s2)
            have hb : ∃ b, b = (gf s.2.1.1 f).length - r1.length := ⟨_, rfl⟩
            have hc : ∃ c, c = (gf s.2.1.1 f).length - r2.length := ⟨_, rfl⟩
            obtain ⟨b, hb⟩ := hb
            obtain ⟨cc, hc⟩ := hc
            rw [← hb, ← hc] at esw z2
            rw [← hb] at z1
            have k1 : k + 1 ≤ b := by omega
            have k2 : b ≤ cc := by omega
            have k3 : cc ≤ (gf s.2.1.1 f).length := by omega
            rw [f_Md_turn_b51, e1, bd_s, show (16 : Int32) + 60 * nI f = nI (16 + 60 * f) by rw [show (16 : Int32) = nI 16 from rfl, show (60 : Int32) = nI 60 from rfl, nI_mul, nI_add], bi_e, nI_s, f_Md_sizeAt]
            rw [show f_Md_sizeAt_b5 FU (nI f) (nI (k + 1)) 1 (nI (k + 1)) M1 = _ from z1, bd_s, nI_add, show k + 1 + (b - (k + 1)) = b by omega, f_Md_sizeAt]
            rw [show f_Md_sizeAt_b5 FU (nI f) (nI b) 1 (nI b) M1 = _ from z2, bd_s, ← nI_0]
            obtain ⟨M2, x1, x2, x3⟩ := turn90 (f := f) (k := k) (B := 16 + 60 * f) (L := b - (k + 1)) (R := cc - b) (by omega) (by omega) FU 0 M1 (by omega) (by rw [FU_e]; omega)
            rw [x1, ← nI_0]
            obtain ⟨M3, y1, y2, y3⟩ := turn158 (f := f) (k := k) (B := 16 + 60 * f) (L := b - (k + 1)) (R := cc - b) (M0 := M2) (fun M => rfl) (by omega) (by omega) FU 0 M2 (by omega) (by rw [FU_e]; omega) rfl
            rw [y1]
            have hk2 := turnS_ok hks hf1 cz ha
            have hl2 : (turnS s.2.1 f k).1.length = s.2.1.1.length := by simp [turnS]
            -- the words of the sheet's row
            have hrow : ∀ i, M3.1 209 i = if 16 + 60 * f + 2 * k + 2 ≤ i ∧ i < 16 + 60 * f + 2 * k + 2 + 2 * (b - (k + 1) + (cc - b)) then M.1 209 (16 + 60 * f + 2 * k + 2 + (if i - (16 + 60 * f + 2 * k + 2) < 2 * (cc - b) then 2 * (b - (k + 1)) + (i - (16 + 60 * f + 2 * k + 2)) else i - (16 + 60 * f + 2 * k + 2) - 2 * (cc - b))) else M.1 209 i := by
              intro i
              rw [y2 i]
              by_cases d : 16 + 60 * f + 2 * k + 2 ≤ i ∧ i < 16 + 60 * f + 2 * k + 2 + 2 * (b - (k + 1) + (cc - b))
              · rw [if_pos (by omega), if_pos d, x2, if_pos (by omega), s9]
              · rw [if_neg (by omega), if_neg d, x3.1 209 (by omega), s9]
            have hout : ∀ i, i < 16 + 60 * f + 2 * k + 2 ∨ 16 + 60 * f + 60 ≤ i → M3.1 209 i = M.1 209 i := fun i hi => by rw [hrow, if_neg (by omega)]
            have hS3 : RowS (M3.1 209) 0 (turnS s.2.1 f k) := by
              refine ⟨by rw [hout 0 (by omega), hl2]; exact hS.1, by rw [hout (0 + 1) (by omega)]; exact hS.2.1, fun c hc => by rw [hout _ (by omega)]; exact hS.2.2.1 c hc, fun i hi => ?_⟩
              rw [hl2] at hi
              have e : gf (turnS s.2.1 f k).1 i = if i = f then swpAt (gf s.2.1.1 f) k else gf s.2.1.1 i := gf_set hf1
              rw [e]
              by_cases ci : i = f
              · subst ci
                rw [if_pos rfl, esw, swp_len k1 k2 k3]
                refine ⟨by rw [hout _ (by omega)]; exact (hS.2.2.2 i hi).1, fun t ht => ?_⟩
                rw [nd_swp k1 k2 k3]
                have hw : ∀ u, u < 2 → ∀ p, p = (if t < k + 1 then t else if t < k + 1 + (cc - b) then t + b - (k + 1) else if t < cc then t + b - cc else t) → M3.1 209 (16 + u + 60 * i + 2 * t) = M.1 209 (16 + u + 60 * i + 2 * p) := by
                  intro u hu p hp
                  rw [hrow]
                  by_cases t1 : t < k + 1
                  · rw [if_pos t1] at hp
                    rw [if_neg (by omega), hp]
                  · rw [if_neg t1] at hp
                    by_cases t2 : t < k + 1 + (cc - b)
                    · rw [if_pos t2] at hp
                      rw [if_pos (by omega), if_pos (by omega)]
                      exact congrArg (M.1 209) (by omega)
                    · rw [if_neg t2] at hp
                      by_cases t3 : t < cc
                      · rw [if_pos t3] at hp
                        rw [if_pos (by omega), if_neg (by omega)]
                        exact congrArg (M.1 209) (by omega)
                      · rw [if_neg t3] at hp
                        rw [if_neg (by omega), hp]
                generalize hp : (if t < k + 1 then t else if t < k + 1 + (cc - b) then t + b - (k + 1) else if t < cc then t + b - cc else t) = p at *
                have hpl : p < (gf s.2.1.1 i).length := by
                  rw [← hp]
                  split
                  · omega
                  · split
                    · omega
                    · split <;> omega
                have q1 := (hS.2.2.2 i hi).2 p hpl
                rw [Nat.zero_add, Nat.zero_add] at q1
                rw [Nat.zero_add, Nat.zero_add]
                exact ⟨by have := hw 0 (by omega) p rfl; rw [Nat.add_zero] at this; rw [this]; exact q1.1, fun a => by have := hw 1 (by omega) p rfl; rw [this]; exact q1.2 a⟩
              · rw [if_neg ci]
                have hli := (hks.2 i hi).2.1
                refine ⟨by rw [hout _ (by omega)]; exact (hS.2.2.2 i hi).1, fun t ht => ⟨by rw [hout _ (by omega)]; exact ((hS.2.2.2 i hi).2 t ht).1, fun a => by rw [hout _ (by omega)]; exact ((hS.2.2.2 i hi).2 t ht).2 a⟩⟩
            have ho : Off (fun a => a = 209 ∨ a = 215) M1 M3 := (x3.mono (fun a ha => Or.inr ha)).tr (y3.mono (fun a ha => Or.inl ha))
            have hR3 : RepR M3 (s.1, turnS s.2.1 f k, recH s.2.2 s.2.1) := ⟨⟨by rw [ho.1 208 (by omega), e3, upd_ne (by omega)]; exact t1, fun i hi => by rw [ho.1 211 (by omega), e4.1 211 (by omega)]; exact t2 i hi⟩, hS3, by rw [ho.1 208 (by omega)]; exact e2.1, e2.2.1, fun j hj => by rw [ho.1 210 (by omega)]; exact e2.2.2 j hj⟩
            obtain ⟨M4, v1, hE, v3⟩ := lays_ok hk2 M3 hS3
            obtain ⟨hR4, hF4⟩ := hR3.lays v3
            have g90 : inb (nI (90 * f)) 540 = true := inbT (by omega) (by omega)
            rw [v1, bd_s, w90', gd_of g90, ixN (show 90 * f < 2 ^ 31 by omega), (rrow0 hk2 hE (i := f) (by rw [hl2]; exact hf1)).1]
            exact ⟨M4, rfl, hR4, ((OffR.of e4 (fun a ha q => by omega)).tr (OffR.of ho (fun a ha q => by omega))).tr hF4⟩
          by_cases c4 : (nd (gf s.2.1.1 f) k).1 = 4
          · rw [if_pos c4]; exact main
          · rw [if_neg c4, if_pos (by rcases cop with q | q; exact absurd q c4; exact q)]; exact main
        · rw [if_neg cop, if_neg (fun q => cop (Or.inl q)), if_neg (fun q => cop (Or.inr q))]
          exact ⟨M, rfl, h, OffR.rf⟩
      · rw [if_pos (nI_lt (by omega) hk31), if_pos rfl, if_neg (by simp [cz])]; exact ⟨M, rfl, h, OffR.rf⟩
  · rw [if_neg c, if_neg c, if_pos rfl]; exact ⟨M, rfl, h, OffR.rf⟩
