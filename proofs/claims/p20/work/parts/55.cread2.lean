theorem Cok.of {tx : List Int32} {f : Nat} {M M1 : Mem} {o : Option (Int32 × Mem)} {r : PR} (h : Off (QC f) M M1) (g : Cok tx f M1 o r) : Cok tx f M o r := by
  obtain ⟨M', e1, e2, e3, e4⟩ := g
  exact ⟨M', e1, e2, e3, h.tr e4⟩
theorem readOp_ok {tx : List Int32} {f i k : Nat} {l : Fm} {M : Mem} {kd : Int32} (hf : (sh f).1 = 1) (hf6 : 6 ≤ f) (h : CT M tx i) (hF : FA M f l) (hl : l.length < ln (f + 1)) (hk : k ≤ l.length) : ∃ M', f_Reader_readOperation f (nI k) kd M = some (1, M') ∧ CT M' tx (i + 1) ∧ FA M' f (ins k (kd, 0) l) ∧ Off (QC f) M M' := by
  obtain ⟨M1, e1, e2, e3⟩ := insert_ok (a := kd) (b := 0) hf hF hl hk
  have hc := h.off hf6 e3
  rw [f_Reader_readOperation, e1, bd_s, if_neg (by decide), bm_e, hc.2.2, nI_s, isB1, gd_t]
  exact ⟨_, rfl, hc.set, e2.set1 hf6, (QC_f e3).tr (Off.set (Or.inl rfl))⟩
theorem readOp_full {tx : List Int32} {f i : Nat} {l : Fm} {M : Mem} {kd x : Int32} (hf : (sh f).1 = 1) (hf6 : 6 ≤ f) (h : CT M tx i) (hF : FA M f l) (hl : ¬ l.length < ln (f + 1)) : ∃ M', f_Reader_readOperation f x kd M = some (0, M') ∧ CT M' tx i ∧ FA M' f l ∧ Off (QC f) M M' := by
  rw [f_Reader_readOperation, insert_full hf hF hl, bd_s, if_pos rfl, bm_e, h.2.2, nI_z, isB0, gd_t]
  exact ⟨_, rfl, h.set, hF.set1 hf6, Off.set (Or.inl rfl)⟩
theorem gdB (b : Bool) {M : Mem} : (gd (isB (if b = true then 1 else 0)) (some ((if b = true then (1 : Int32) else 0), M))) = some ((if b = true then 1 else 0), M) := by
  cases b
  · rw [if_neg (by decide), isB0, gd_t]
  · rw [if_pos rfl, isB1, gd_t]
theorem proL_0 {rc : Nat → Nat → Fm → PR} {tx : List Int32} {fm dep s i : Nat} {l : Fm} : ∀ n, pProL rc tx fm dep s n (false, i, l) = (false, i, l)
  | 0 => rfl
  | n + 1 => by rw [pProL, if_pos rfl]
theorem sumL_0 {rc : Nat → Nat → Fm → PR} {tx : List Int32} {fm dep s i : Nat} {l : Fm} : ∀ n, pSumL rc tx fm dep s n (false, i, l) = (false, i, l)
  | 0 => rfl
  | n + 1 => by rw [pSumL, if_pos rfl]
theorem cproL {tx : List Int32} (hx : tx.length ≤ 100) {f fm d0 dep : Nat} {i : Nat} {l : Fm} {rc : Nat → Int32 → Int32 → Mem → Option (Int32 × Mem)} {rp : Nat → Nat → Fm → PR} (hrc : RcC tx fm f d0 rc rp) (hG : GdR tx fm rp) (hd : d0 ≤ dep + 1) (hd8 : dep ≤ 8) (hf : (sh f).1 = 1) (h30 : ln (f + 1) = 30) (hf6 : 6 ≤ f) (hfm : fm ≤ 5) : ∀ (m n : Nat) (r : PR) (M : Mem), m ≤ 30 → m < n → Gd tx fm i l r → CT M tx r.2.1 → FA M f r.2.2 →
    Cok tx f M (f_Reader_readProduct_b18 rc n f (nI fm) (nI dep) (nI l.length) (if r.1 = true then 1 else 0) (nI (30 - m)) M) (pProL rp tx fm dep l.length m r) := by
  intro m
  induction m with
  | zero =>
    intro n r M hm hn g h hF
    obtain ⟨n', rfl⟩ : ∃ n', n = n' + 1 := ⟨n - 1, by omega⟩
    rw [f_Reader_readProduct_b18, if_pos (by decide), gdB]
    exact ⟨M, rfl, h, hF, Off.rf⟩
  | succ m ih =>
    intro n r M hm hn g h hF
    obtain ⟨n', rfl⟩ : ∃ n', n = n' + 1 := ⟨n - 1, by omega⟩
    rw [f_Reader_readProduct_b18, if_neg (show ¬ (30 : Int32) ≤ nI (30 - (m + 1)) by rw [show (30 : Int32) = nI 30 from rfl]; exact nI_ge (by omega) (by omega)), gdB, pProL]
    by_cases c : r.1 = true
    · have cf : ¬ r.1 = false := by rw [c]; decide
      rw [if_neg cf, if_pos c, if_neg (show ¬ (1 : Int32) = 0 by decide), sign_ok h g.2.1 hx, bd_s]
      by_cases d : sg tx r.2.1 = 42
      · rw [if_pos d, if_pos d]
        obtain ⟨g5, T, g6, g7, g8⟩ := g.2.2.2 c
        have hll : l.length ≤ r.2.2.length := by rw [g6]; simp
        by_cases e : r.2.2.length = 30
        · rw [if_pos e]
          obtain ⟨M1, e1, e2, e3, e4⟩ := readOp_full (kd := 6) (x := nI l.length) hf hf6 h hF (by omega)
          rw [e1, bd_s, if_pos rfl, bi_e, nI_s]
          have := ih n' (false, r.2.1, r.2.2) M1 (by omega) (by omega) ⟨g.1, g.2.1, g.2.2.1, fun q => by cases q⟩ e2 e3
          rw [proL_0, show 30 - (m + 1) + 1 = 30 - m by omega] at *
          exact Cok.of e4 this
        · rw [if_neg e]
          have hlt : r.2.1 < tx.length := sg_lt (by rw [d]; decide)
          have h3 := g.2.2.1
          obtain ⟨M1, e1, e2, e3, e4⟩ := readOp_ok (kd := 6) (k := l.length) hf hf6 h hF (by omega) hll
          rw [e1, bd_s, if_neg (show ¬ (1 : Int32) = 0 by decide)]
          obtain ⟨M2, u1, u2, u3, u4⟩ := (cfac (dep := dep) (l := ins l.length (6, 0) r.2.2) hx hrc hd hd8 hf h30 hf6 hlt e2 e3 hfm).b
          have g2 := op_gd (by decide) (Or.inr (Or.inr (Or.inr ⟨Or.inr (Or.inr (Or.inr rfl)), rfl⟩))) g c (fac_gd hG hfm (dep := dep) (l := ins l.length (6, 0) r.2.2) hlt (by rw [ins_len]; omega))
          rw [u1, bd_s, bi_e, bi_e, nI_s, show 30 - (m + 1) + 1 = 30 - m by omega]
          have := ih n' _ M2 (by omega) (by omega) g2 u2 u3
          generalize pFac rp tx fm dep (r.2.1 + 1) (ins l.length (6, 0) r.2.2) = r2 at *
          by_cases z : r2.1 = true
          · rw [if_pos z] at this ⊢
            rw [if_neg (show ¬ (1 : Int32) = 0 by decide)]
            exact Cok.of (e4.tr u4) this
          · rw [if_neg z] at this ⊢
            rw [if_pos rfl]
            exact Cok.of (e4.tr u4) this
      · rw [if_neg d, if_neg d, isB1, gd_t]
        exact ⟨M, by rw [if_pos c], h, hF, Off.rf⟩
    · have cf : r.1 = false := by simpa using c
      rw [if_pos cf, if_neg c, if_pos rfl]
      exact ⟨M, by rw [if_neg c], h, hF, Off.rf⟩
theorem cpro {tx : List Int32} (hx : tx.length ≤ 100) {f fm d0 dep : Nat} {i : Nat} {l : Fm} {M : Mem} {rc : Nat → Int32 → Int32 → Mem → Option (Int32 × Mem)} {rp : Nat → Nat → Fm → PR} (hrc : RcC tx fm f d0 rc rp) (hG : GdR tx fm rp) (hd : d0 ≤ dep + 1) (hd8 : dep ≤ 8) (hf : (sh f).1 = 1) (h30 : ln (f + 1) = 30) (hf6 : 6 ≤ f) (hfm : fm ≤ 5) (hi : i ≤ tx.length) (h : CT M tx i) (hF : FA M f l) : Cok tx f M (f_Reader_readProduct rc f (nI fm) (nI dep) M) (pPro rp tx fm dep i l) := by
  have hl := hF.2.1
  rw [h30] at hl
  rw [f_Reader_readProduct, hF.1, bi_e, pPro]
  obtain ⟨M1, e1, e2, e3, e4⟩ := (cfac (dep := dep) hx hrc hd hd8 hf h30 hf6 hi h hF hfm).b
  rw [e1, bd_s]
  exact Cok.of e4 (cproL hx hrc hG hd hd8 hf h30 hf6 hfm 30 FU _ M1 (Nat.le_refl _) (by rw [FU_e]; omega) (fac_gd hG hfm hi hl) e2 e3)
theorem csumL {tx : List Int32} (hx : tx.length ≤ 100) {f fm d0 dep : Nat} {i : Nat} {l : Fm} {rc : Nat → Int32 → Int32 → Mem → Option (Int32 × Mem)} {rp : Nat → Nat → Fm → PR} (hrc : RcC tx fm f d0 rc rp) (hG : GdR tx fm rp) (hd : d0 ≤ dep + 1) (hd8 : dep ≤ 8) (hf : (sh f).1 = 1) (h30 : ln (f + 1) = 30) (hf6 : 6 ≤ f) (hfm : fm ≤ 5) : ∀ (m n : Nat) (r : PR) (M : Mem), m ≤ 30 → m < n → Gd tx fm i l r → CT M tx r.2.1 → FA M f r.2.2 →
    Cok tx f M (f_Reader_readSum_b18 rc n f (nI fm) (nI dep) (nI l.length) (if r.1 = true then 1 else 0) (nI (30 - m)) M) (pSumL rp tx fm dep l.length m r) := by
  intro m
  induction m with
  | zero =>
    intro n r M hm hn g h hF
    obtain ⟨n', rfl⟩ : ∃ n', n = n' + 1 := ⟨n - 1, by omega⟩
    rw [f_Reader_readSum_b18, if_pos (by decide), gdB]
    exact ⟨M, rfl, h, hF, Off.rf⟩
  | succ m ih =>
    intro n r M hm hn g h hF
    obtain ⟨n', rfl⟩ : ∃ n', n = n' + 1 := ⟨n - 1, by omega⟩
    rw [f_Reader_readSum_b18, if_neg (show ¬ (30 : Int32) ≤ nI (30 - (m + 1)) by rw [show (30 : Int32) = nI 30 from rfl]; exact nI_ge (by omega) (by omega)), gdB, pSumL]
    by_cases c : r.1 = true
    · have cf : ¬ r.1 = false := by rw [c]; decide
      rw [if_neg cf, if_pos c, if_neg (show ¬ (1 : Int32) = 0 by decide), sign_ok h g.2.1 hx, bd_s]
      have op : sg tx r.2.1 = 43 ∨ sg tx r.2.1 = 45 → Cok tx f M (f_Reader_readSum_b48 rc (f_Reader_readSum_b18 rc n') f (nI fm) (nI dep) (nI l.length) (nI (30 - (m + 1))) M) (if r.2.2.length = 30 then (false, r.2.1, r.2.2) else pSumL rp tx fm dep l.length m (pPro rp tx fm dep (r.2.1 + 1) (ins l.length (if sg tx r.2.1 = 43 then 4 else 5, 0) r.2.2))) := by
        intro d
        obtain ⟨g5, T, g6, g7, g8⟩ := g.2.2.2 c
        have hll : l.length ≤ r.2.2.length := by rw [g6]; simp
        have ek : f_Reader_readSum_b48 rc (f_Reader_readSum_b18 rc n') f (nI fm) (nI dep) (nI l.length) (nI (30 - (m + 1))) M = f_Reader_readSum_b62 rc (f_Reader_readSum_b18 rc n') f (nI fm) (nI dep) (nI l.length) (nI (30 - (m + 1))) (if sg tx r.2.1 = 43 then 4 else 5) M := by
          rw [f_Reader_readSum_b48, sign_ok h g.2.1 hx, bd_s]
          split <;> rfl
        have hk : okN fm ((if sg tx r.2.1 = 43 then (4 : Int32) else 5), 0) ∧ ar (if sg tx r.2.1 = 43 then (4 : Int32) else 5) = 2 := by
          split
          · exact ⟨Or.inr (Or.inr (Or.inr ⟨Or.inr (Or.inl rfl), rfl⟩)), by decide⟩
          · exact ⟨Or.inr (Or.inr (Or.inr ⟨Or.inr (Or.inr (Or.inl rfl)), rfl⟩)), by decide⟩
        rw [ek]
        generalize (if sg tx r.2.1 = 43 then (4 : Int32) else 5) = kd at *
        rw [f_Reader_readSum_b62]
        by_cases e : r.2.2.length = 30
        · rw [if_pos e]
          obtain ⟨M1, e1, e2, e3, e4⟩ := readOp_full (kd := kd) (x := nI l.length) hf hf6 h hF (by omega)
          rw [e1, bd_s, if_pos rfl, bi_e, nI_s]
          have := ih n' (false, r.2.1, r.2.2) M1 (by omega) (by omega) ⟨g.1, g.2.1, g.2.2.1, fun q => by cases q⟩ e2 e3
          rw [sumL_0, show 30 - (m + 1) + 1 = 30 - m by omega] at *
          exact Cok.of e4 this
        · rw [if_neg e]
          have hne : sg tx r.2.1 ≠ 0 := by rcases d with d | d <;> rw [d] <;> decide
          have hlt : r.2.1 < tx.length := sg_lt hne
          have h3 := g.2.2.1
          obtain ⟨M1, e1, e2, e3, e4⟩ := readOp_ok (kd := kd) (k := l.length) hf hf6 h hF (by omega) hll
          rw [e1, bd_s, if_neg (show ¬ (1 : Int32) = 0 by decide)]
          obtain ⟨M2, u1, u2, u3, u4⟩ := (cpro (dep := dep) (l := ins l.length (kd, 0) r.2.2) hx hrc hG hd hd8 hf h30 hf6 hfm hlt e2 e3).b
          have g2 := op_gd hk.2 hk.1 g c (pro_gd hG hfm (dep := dep) (l := ins l.length (kd, 0) r.2.2) hlt (by rw [ins_len]; omega))
          rw [u1, bd_s, bi_e, bi_e, nI_s, show 30 - (m + 1) + 1 = 30 - m by omega]
          have := ih n' _ M2 (by omega) (by omega) g2 u2 u3
          generalize pPro rp tx fm dep (r.2.1 + 1) (ins l.length (kd, 0) r.2.2) = r2 at *
          by_cases z : r2.1 = true
          · rw [if_pos z] at this ⊢
            rw [if_neg (show ¬ (1 : Int32) = 0 by decide)]
            exact Cok.of (e4.tr u4) this
          · rw [if_neg z] at this ⊢
            rw [if_pos rfl]
            exact Cok.of (e4.tr u4) this
      by_cases d : sg tx r.2.1 = 43
      · rw [if_pos d, if_pos (Or.inl d)]
        exact op (Or.inl d)
      · rw [if_neg d, sign_ok h g.2.1 hx, bd_s]
        by_cases d2 : sg tx r.2.1 = 45
        · rw [if_pos d2, if_pos (Or.inr d2)]
          exact op (Or.inr d2)
        · rw [if_neg d2, if_neg (fun q => by rcases q with q | q; exact d q; exact d2 q), isB1, gd_t]
          exact ⟨M, by rw [if_pos c], h, hF, Off.rf⟩
    · have cf : r.1 = false := by simpa using c
      rw [if_pos cf, if_neg c, if_pos rfl]
      exact ⟨M, by rw [if_neg c], h, hF, Off.rf⟩
theorem csum {tx : List Int32} (hx : tx.length ≤ 100) {f fm d0 dep : Nat} {i : Nat} {l : Fm} {M : Mem} {rc : Nat → Int32 → Int32 → Mem → Option (Int32 × Mem)} {rp : Nat → Nat → Fm → PR} (hrc : RcC tx fm f d0 rc rp) (hG : GdR tx fm rp) (hd : d0 ≤ dep + 1) (hd8 : dep ≤ 8) (hf : (sh f).1 = 1) (h30 : ln (f + 1) = 30) (hf6 : 6 ≤ f) (hfm : fm ≤ 5) (hi : i ≤ tx.length) (h : CT M tx i) (hF : FA M f l) : Cok tx f M (f_Reader_readSum rc f (nI fm) (nI dep) M) (pSum rp tx fm dep i l) := by
  have hl := hF.2.1
  rw [h30] at hl
  rw [f_Reader_readSum, hF.1, bi_e, pSum]
  obtain ⟨M1, e1, e2, e3, e4⟩ := (cpro (dep := dep) hx hrc hG hd hd8 hf h30 hf6 hfm hi h hF).b
  rw [e1, bd_s]
  exact Cok.of e4 (csumL hx hrc hG hd hd8 hf h30 hf6 hfm 30 FU _ M1 (Nat.le_refl _) (by rw [FU_e]; omega) (pro_gd hG hfm hi hl) e2 e3)
theorem cnest {tx : List Int32} (hx : tx.length ≤ 100) {f fm : Nat} (hf : (sh f).1 = 1) (h30 : ln (f + 1) = 30) (hf6 : 6 ≤ f) (hfm : fm ≤ 5) : ∀ n, RcC tx fm f (9 - n) (f_Reader_readNested n) (pNest tx fm n)
  | 0, dep, i, l, M, hd, hd8, hi, h, hF => by omega
  | n + 1, dep, i, l, M, hd, hd8, hi, h, hF => by
    have ih := cnest hx hf h30 hf6 hfm n
    have hG := nest_gd (tx := tx) hfm n
    have hl := hF.2.1
    rw [h30] at hl
    rw [f_Reader_readNested, f_Reader_readNested_step, pass_ok h hi hx, bd_s, pNest]
    by_cases c : sg tx i = 40
    · have hi1 : i + 1 ≤ tx.length := sg_lt (by rw [c]; decide)
      rw [if_pos c, if_pos c, if_pos c, if_neg (show ¬ (1 : Int32) = 0 by decide)]
      obtain ⟨M1, e1, e2, e3, e4⟩ := (csum (dep := dep) hx ih hG (by omega) hd8 hf h30 hf6 hfm hi1 h.set (hF.set1 (v := nI (i + 1)) hf6)).b
      have o0 : Off (QC f) M (mset M 1 2 (nI (i + 1))) := Off.set (Or.inl rfl)
      have g2 := (sum_gd hG hfm (dep := dep) (l := l) hi1 hl).2.1
      rw [e1, bd_s]
      generalize pSum (pNest tx fm n) tx fm dep (i + 1) l = r at *
      by_cases d : r.1 = true
      · have df : ¬ r.1 = false := by rw [d]; decide
        rw [if_pos d, if_neg (show ¬ (1 : Int32) = 0 by decide), if_neg df, pass_ok e2 g2 hx, bd_s]
        have o2 : ∀ v, Off (QC f) M1 (mset M1 1 2 v) := fun v => Off.set (Or.inl rfl)
        by_cases e : sg tx r.2.1 = 41
        · rw [if_pos e, if_pos e, if_neg (show ¬ (1 : Int32) = 0 by decide), if_pos e, isB1, gd_t]
          exact ⟨_, rfl, e2.set, e3.set1 hf6, (o0.tr e4).tr (o2 _)⟩
        · rw [if_neg e, if_neg e, if_pos rfl, if_neg e, isB0, gd_t]
          exact ⟨_, rfl, e2.set, e3.set1 hf6, (o0.tr e4).tr (o2 _)⟩
      · have df : r.1 = false := by simpa using d
        rw [if_neg d, if_pos rfl, if_pos df, isB0, gd_t]
        exact ⟨M1, by rw [if_neg d], e2, e3, o0.tr e4⟩
    · have h1 : CT (mset M 1 2 (nI i)) tx i := h.set
      have hF1 := hF.set1 (v := nI i) hf6
      have o0 : Off (QC f) M (mset M 1 2 (nI i)) := Off.set (Or.inl rfl)
      rw [if_neg c, if_neg c, if_neg c, if_pos rfl, isFull_ok hf hF1, bd_s, h30]
      by_cases d : l.length = 30
      · rw [if_neg (show ¬ l.length < 30 by omega), if_neg (show ¬ (1 : Int32) = 0 by decide), if_pos d, isB0, gd_t]
        exact ⟨_, rfl, h1, hF1, o0⟩
      · rw [if_pos (show l.length < 30 by omega), if_pos rfl, if_neg d, pass_ok h1 hi hx, bd_s]
        by_cases e : sg tx i = 33
        · have hi1 : i + 1 ≤ tx.length := sg_lt (by rw [e]; decide)
          rw [if_pos e, if_pos e, if_neg (show ¬ (1 : Int32) = 0 by decide), if_pos e]
          obtain ⟨M2, a1, a2, a3⟩ := add_ok (a := 3) (b := 0) hf (hF1.set1 (v := nI (i + 1)) hf6) (by omega)
          have h2 : CT M2 tx (i + 1) := (CT.set h1).off hf6 a3
          rw [a1, bd_s, if_neg (show ¬ (1 : Int32) = 0 by decide)]
          obtain ⟨M3, e1, e2, e3, e4⟩ := (cfac (dep := dep) (l := l ++ [(3, 0)]) hx ih (by omega) hd8 hf h30 hf6 hi1 h2 a2 hfm).b
          have o1 : Off (QC f) M M3 := ((o0.tr (Off.set (Or.inl rfl))).tr (QC_f a3)).tr e4
          rw [e1, bd_s]
          refine ⟨M3, ?_, e2, e3, o1⟩
          split
          · rw [if_neg (by decide), isB1, gd_t]
          · rw [if_pos rfl, isB0, gd_t]
        · rw [if_neg e, if_neg e, if_pos rfl, if_neg e, isB0, gd_t]
          exact ⟨_, rfl, h1.set, hF1.set1 hf6, o0.tr (Off.set (Or.inl rfl))⟩
