theorem RSh.of {tx : List Int32} {M M1 : Mem} {o : Option (Int32 × Mem)} {r : PS} (hq : QW M M1) (hw : ∀ j, 1 ≤ j → j < 10 → M1.1 212 j = M.1 212 j) (h : RSh tx M1 o r) : RSh tx M o r := by
  obtain ⟨M', a, b, c, d⟩ := h
  exact ⟨M', a, b, hq.tr c, fun q => ⟨(d q).1, (d q).2.1, fun j h1 h2 => ((d q).2.2 j h1 h2).trans (hw j h1 h2)⟩⟩
theorem FSR.keep {M M' : Mem} {fs : List Fm} (h : FSR M fs) (e : M'.1 212 = M.1 212) : FSR M' fs := fun j hj => by
  obtain ⟨h1, h2⟩ := h j hj
  exact ⟨by rw [e]; exact h1, fun k hk => by rw [e]; exact h2 k hk⟩
theorem rsh {tx : List Int32} (hx : tx.length ≤ 100) (hch : ∀ c ∈ tx, (1 : Int32) ≤ c) : ∀ (r n i : Nat) (fs : List Fm) (M : Mem), fs.length + r = 5 → r < n → i ≤ tx.length → TX M tx → M.1 208 6 = nI i → M.1 208 7 = nI fs.length → FSR M fs → (∀ j, j < fs.length → (gf fs j).length ≤ 30) → RSh tx M (f_Md_reads_b47 n M) (pSh tx r i fs) := by
  intro r
  induction r with
  | zero =>
    intro n i fs M hl hn hi ht h6 h7 hF hlen
    obtain ⟨n', rfl⟩ : ∃ n', n = n' + 1 := ⟨n - 1, by omega⟩
    rw [f_Md_reads_b47, h7, if_pos (show (5 : Int32) ≤ nI fs.length by rw [show (5 : Int32) = nI 5 from rfl]; exact nI_le (by omega) (by omega)), pSh]
    exact rend hx hch (by omega) hi ht h6 h7 hF hlen
  | succ r ih =>
    intro n i fs M hl hn hi ht h6 h7 hF hlen
    obtain ⟨n', rfl⟩ : ∃ n', n = n' + 1 := ⟨n - 1, by omega⟩
    have e65 : (65 : Int32) + nI fs.length = nI (65 + fs.length) := by rw [show (65 : Int32) = nI 65 from rfl, nI_add]
    have x0 : nI (65 + fs.length) ≠ 0 := nI_ne0 (by omega) (by omega)
    have x9 : nI (65 + fs.length) ≠ -1000009 := fun q => by
      have z : ¬ nI (65 + fs.length) < 0 := nI_pos (by omega)
      rw [q] at z
      exact z (by decide)
    rw [f_Md_reads_b47, h7, if_neg (show ¬ (5 : Int32) ≤ nI fs.length by rw [show (5 : Int32) = nI 5 from rfl]; exact nI_ge (by omega) (by omega)), here_ok ht h6 hi hx, bd_s, h7, e65, pSh, e65]
    by_cases c : sg tx i = nI (65 + fs.length)
    · have h1 : i + 1 ≤ tx.length := sg_lt (by rw [c]; exact x0)
      rw [if_pos ((hs_eq x0 x9).mpr c), if_pos c, bm_e, h6, nI_s]
      have q1 : QW M (mset M 208 6 (nI (i + 1))) := QW.s (by omega)
      have t1 : TX (mset M 208 6 (nI (i + 1))) tx := ht.w q1
      have s1 : (mset M 208 6 (nI (i + 1))).1 208 6 = nI (i + 1) := by simp [ms1]
      rw [here_ok t1 s1 h1 hx, bd_s]
      by_cases d : sg tx (i + 1) = 61
      · have h2 : i + 2 ≤ tx.length := sg_lt (i := i + 1) (by rw [d]; decide)
        rw [if_pos ((hs_eq (by decide) (by decide)).mpr d), if_pos d, bm_e, s1, nI_s, show i + 1 + 1 = i + 2 from rfl]
        have q2 : QW M (mset (mset M 208 6 (nI (i + 1))) 208 6 (nI (i + 2))) := q1.tr (QW.s (by omega))
        have w2 : (mset (mset M 208 6 (nI (i + 1))) 208 6 (nI (i + 2))).1 212 = M.1 212 := by rw [mset_ne (by omega), mset_ne (by omega)]
        have t2 := ht.w q2
        have s6 : (mset (mset M 208 6 (nI (i + 1))) 208 6 (nI (i + 2))).1 208 6 = nI (i + 2) := by simp [ms1]
        have s7 : (mset (mset M 208 6 (nI (i + 1))) 208 6 (nI (i + 2))).1 208 7 = nI fs.length := by simp [ms1, h7]
        have f2 := hF.keep w2
        generalize mset (mset M 208 6 (nI (i + 1))) 208 6 (nI (i + 2)) = M2 at *
        have fr := fread_ok hx (by omega) h2 t2 s6 s7
        have g := top_gd (tx := tx) (fm := fs.length) (by omega) h2
        generalize pTop tx fs.length (i + 2) = p at *
        rw [FmO] at fr
        by_cases e : p.1 = true
        · have ef : ¬ p.1 = false := by rw [e]; decide
          rw [if_pos e] at fr
          rw [if_neg ef]
          rcases fr with ⟨M', a, b, dd, ee⟩ | ⟨q, M', a, b, dd⟩
          · have q3 : QW M2 (mset M' 212 (10 + fs.length) (nI p.2.2.length)) := ee.w.tr ⟨Off.set (Or.inr (Or.inl rfl)), fun k hk => by rw [mset_ne (by omega)]⟩
            have b6 : (mset M' 212 (10 + fs.length) (nI p.2.2.length)).1 208 6 = nI p.2.1 := by rw [mset_ne (by omega)]; exact b
            have b7 : (mset M' 212 (10 + fs.length) (nI p.2.2.length)).1 208 7 = nI fs.length := by rw [mset_ne (by omega), ee.2.1 7 (by omega)]; exact s7
            have bw : ∀ j, 1 ≤ j → j < 10 → (mset M' 212 (10 + fs.length) (nI p.2.2.length)).1 212 j = M.1 212 j := fun j j1 j2 => by rw [ms1, if_pos rfl, if_neg (by omega), ee.2.2 j (by omega), w2]
            have fn := fsr_next (by omega) hlen f2 ee dd g.2.2.1
            rw [a, bd_s, if_neg (show ¬ (1 : Int32) = 0 by decide)]
            generalize mset M' 212 (10 + fs.length) (nI p.2.2.length) = M3 at *
            rw [here_ok (t2.w q3) b6 g.2.1 hx, bd_s]
            by_cases u : sg tx p.2.1 = 59
            · rw [if_pos ((hs_eq (by decide) (by decide)).mpr u), if_pos u, bm_e, b6, nI_s, bm_e]
              have b72 : (mset M3 208 6 (nI (p.2.1 + 1))).1 208 7 = nI fs.length := by simp [ms1, b7]
              rw [b72, nI_s]
              have q4 : QW M3 (mset (mset M3 208 6 (nI (p.2.1 + 1))) 208 7 (nI (fs.length + 1))) := (QW.s (by omega)).tr (QW.s (by omega))
              have w4 : (mset (mset M3 208 6 (nI (p.2.1 + 1))) 208 7 (nI (fs.length + 1))).1 212 = M3.1 212 := by rw [mset_ne (by omega), mset_ne (by omega)]
              refine RSh.of ((q2.tr q3).tr q4) (fun j j1 j2 => by rw [w4]; exact bw j j1 j2) (ih n' (p.2.1 + 1) (fs ++ [p.2.2]) _ (by simp; omega) (by omega) (sg_lt (by rw [u]; decide)) (t2.w (q3.tr q4)) (by simp [ms1]) (by simp [ms1]) (fn.keep w4) (fun j hj => ?_))
              rw [List.length_append, List.length_cons, List.length_nil] at hj
              rw [gf_app]
              by_cases z : j = fs.length
              · rw [if_pos z]; exact g.2.2.1
              · rw [if_neg z]; exact hlen j (by omega)
            · rw [if_neg (fun z => u ((hs_eq (by decide) (by decide)).mp z)), if_neg u, isB0, gd_t]
              exact ⟨_, rfl, b6, q2.tr q3, fun q => by cases q⟩
          · rw [if_neg (fun z => by rw [z] at q; exact absurd q (by decide)), a, bd_s, if_pos rfl, isB0, gd_t]
            exact ⟨_, rfl, b, q2.tr dd, fun q => by cases q⟩
        · have ef : p.1 = false := by simpa using e
          rw [if_neg e] at fr
          obtain ⟨M', a, b, dd⟩ := fr
          rw [if_pos ef, a, bd_s, if_pos rfl, isB0, gd_t]
          exact ⟨_, rfl, b, q2.tr dd, fun q => by cases q⟩
      · rw [if_neg (fun z => d ((hs_eq (by decide) (by decide)).mp z)), if_neg d, isB0, gd_t]
        exact ⟨_, rfl, s1, q1, fun q => by cases q⟩
    · rw [if_neg (fun z => c ((hs_eq x0 x9).mp z)), if_neg c]
      exact rend hx hch (by omega) hi ht h6 h7 hF hlen
