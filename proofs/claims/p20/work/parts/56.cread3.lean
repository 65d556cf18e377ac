/-! read, on the class's side -/
def GdF (i : Nat) (l : Fm) : Prop := wf l ∧ l.length ≤ 30 ∧ ∀ k, k < l.length → okN i (nd l k)
theorem gf_app {fs : List Fm} {l : Fm} {i : Nat} : gf (fs ++ [l]) i = if i = fs.length then l else gf fs i := by
  by_cases c : i = fs.length
  · subst c; simp [gf]
  · rw [if_neg c]
    rcases Nat.lt_or_ge i fs.length with q | q
    · simp [gf, List.getElem?_append_left q]
    · have : fs.length < i := by omega
      simp [gf, List.getElem?_eq_none, q, show fs.length + 1 ≤ i by omega]
theorem gdf_app {fs : List Fm} {l : Fm} (h : ∀ i, i < fs.length → GdF i (gf fs i)) (hl : GdF fs.length l) : ∀ i, i < (fs ++ [l]).length → GdF i (gf (fs ++ [l]) i) := by
  intro i hi
  rw [List.length_append, List.length_cons, List.length_nil] at hi
  rw [gf_app]
  by_cases c : i = fs.length
  · rw [if_pos c, c]; exact hl
  · rw [if_neg c]; exact h i (by omega)
theorem top_gdf {tx : List Int32} {fm i : Nat} (hfm : fm ≤ 5) (hi : i ≤ tx.length) (ht : (pTop tx fm i).1 = true) : GdF fm (pTop tx fm i).2.2 := by
  obtain ⟨g1, g2, g3, g4⟩ := top_gd (tx := tx) hfm hi
  obtain ⟨g5, T, g6, g7, g8⟩ := g4 ht
  rw [List.nil_append] at g6
  rw [g6] at g3 ⊢
  exact ⟨g7, g3, nd_mem.mpr g8⟩
theorem sh_ok {tx : List Int32} : ∀ (r i : Nat) (fs : List Fm), fs.length + r = 5 → i ≤ tx.length → (∀ i, i < fs.length → GdF i (gf fs i)) → (pSh tx r i fs).2.1 ≤ tx.length ∧ ((pSh tx r i fs).1 = true → OKS (pSh tx r i fs).2.2) := by
  have en : ∀ (i : Nat) (fs : List Fm), fs.length ≤ 5 → i ≤ tx.length → (∀ i, i < fs.length → GdF i (gf fs i)) → (pEnd tx i fs).2.1 ≤ tx.length ∧ ((pEnd tx i fs).1 = true → OKS (pEnd tx i fs).2.2) := by
    intro i fs hl hi h
    have g := top_gd (tx := tx) hl hi
    rw [pEnd]
    by_cases c : (pTop tx fs.length i).1 = true ∧ sg tx (pTop tx fs.length i).2.1 = 0
    · rw [if_pos c]
      exact ⟨g.2.1, fun _ => ⟨by simp; omega, gdf_app h (top_gdf hl hi c.1)⟩⟩
    · rw [if_neg c]
      exact ⟨g.2.1, fun q => by cases q⟩
  intro r
  induction r with
  | zero => intro i fs hl hi h; exact en i fs (by omega) hi h
  | succ r ih =>
    intro i fs hl hi h
    rw [pSh]
    by_cases c : sg tx i = 65 + nI fs.length
    · have hne : sg tx i ≠ 0 := by rw [c, show (65 : Int32) = nI 65 from rfl, nI_add]; exact nI_ne0 (by omega) (by omega)
      have h1 : i + 1 ≤ tx.length := sg_lt hne
      rw [if_pos c]
      by_cases d : sg tx (i + 1) = 61
      · have h2 : i + 2 ≤ tx.length := sg_lt (i := i + 1) (by rw [d]; decide)
        have g := top_gd (tx := tx) (fm := fs.length) (by omega) h2
        rw [if_pos d]
        by_cases e : (pTop tx fs.length (i + 2)).1 = false
        · rw [if_pos e]; exact ⟨g.2.1, fun q => by cases q⟩
        · rw [if_neg e]
          by_cases u : sg tx (pTop tx fs.length (i + 2)).2.1 = 59
          · rw [if_pos u]
            exact ih _ _ (by simp; omega) (sg_lt (by rw [u]; decide)) (gdf_app h (top_gdf (by omega) h2 (by simpa using e)))
          · rw [if_neg u]; exact ⟨g.2.1, fun q => by cases q⟩
      · rw [if_neg d]; exact ⟨h1, fun q => by cases q⟩
    · rw [if_neg c]; exact en i fs (by omega) hi h
/-- the draft's rows -/
abbrev RD : Nat → Prop := fun a => a = 1 ∨ (3 ≤ a ∧ a ≤ 23)
def DF (M : Mem) (fs : List Fm) : Prop := ∀ j, j < 6 → FA M (6 + 3 * j) (gf fs j)
theorem shD : ∀ j, j < 6 → (sh (6 + 3 * j)).1 = 1 ∧ ln (6 + 3 * j + 1) = 30 := by decide +kernel
theorem QC_D {j : Nat} (hj : j < 6) {M M' : Mem} (h : Off (QC (6 + 3 * j)) M M') : Off RD M M' := h.mono (fun a q => by rcases q with q | q | q | q <;> omega)
theorem DF.next {M M' : Mem} {fs : List Fm} {l : Fm} (hl : fs.length < 6) (h : DF M fs) (ho : Off (QC (6 + 3 * fs.length)) M M') (hF : FA M' (6 + 3 * fs.length) l) : DF M' (fs ++ [l]) := by
  intro j hj
  rw [gf_app]
  by_cases c : j = fs.length
  · rw [if_pos c, c]; exact hF
  · rw [if_neg c]
    exact (h j hj).off ho (fun a ha q => by rcases ha with w | w | w <;> rcases q with q | q | q | q <;> omega)
theorem DF.set1 {M : Mem} {fs : List Fm} {v : Int32} (h : DF M fs) : DF (mset M 1 2 v) fs := fun j hj => (h j hj).set1 (by omega)
def CSh (tx : List Int32) (M : Mem) (o : Option (Int32 × Mem)) (r : PS) : Prop := ∃ M', o = some (if r.1 = true then 1 else 0, M') ∧ CT M' tx r.2.1 ∧ (r.1 = true → M'.1 3 1 = nI r.2.2.length ∧ DF M' r.2.2) ∧ Off RD M M'
theorem CSh.of {tx : List Int32} {M M1 : Mem} {o : Option (Int32 × Mem)} {r : PS} (h : Off RD M M1) (g : CSh tx M1 o r) : CSh tx M o r := by
  obtain ⟨M', e1, e2, e3, e4⟩ := g
  exact ⟨M', e1, e2, e3, h.tr e4⟩
theorem ctop {tx : List Int32} (hx : tx.length ≤ 100) {i : Nat} {fs : List Fm} {M : Mem} (hl : fs.length ≤ 5) (hi : i ≤ tx.length) (h : CT M tx i) (hD : DF M fs) : Cok tx (6 + 3 * fs.length) M (f_Reader_readSum (f_Reader_readNested 60) (6 + 3 * ix (nI fs.length)) (nI fs.length) 0 M) (pTop tx fs.length i) := by
  obtain ⟨s1, s2⟩ := shD fs.length (by omega)
  have hF := hD fs.length (by omega)
  have e : gf fs fs.length = [] := by simp [gf]
  rw [e] at hF
  rw [ixN (by omega)]
  exact csum (dep := 0) hx (cnest hx s1 s2 (by omega) hl 60) (nest_gd hl 60) (by omega) (by omega) s1 s2 (by omega) hl hi h hF
theorem cend {tx : List Int32} (hx : tx.length ≤ 100) {i : Nat} {fs : List Fm} {M : Mem} (hl : fs.length ≤ 5) (hi : i ≤ tx.length) (h : CT M tx i) (hD : DF M fs) : CSh tx M (f_Reader_readSheet_b94 (nI fs.length) M) (pEnd tx i fs) := by
  rw [f_Reader_readSheet_b94, bm_e, nI_s, gd_of (inbT (by omega) (by omega)), pEnd]
  have o1 : Off (fun a => a = 3) M (mset M 3 1 (nI (fs.length + 1))) := Off.set rfl
  have h1 : CT (mset M 3 1 (nI (fs.length + 1))) tx i := by
    obtain ⟨q1, q2, q3⟩ := h
    exact ⟨by rw [o1.1 1 (by omega)]; exact q1, fun k hk => by rw [o1.1 2 (by omega)]; exact q2 k hk, by rw [o1.1 1 (by omega)]; exact q3⟩
  have hD1 : DF (mset M 3 1 (nI (fs.length + 1))) fs := fun j hj => (hD j hj).off o1 (fun a ha q => by rcases ha with w | w | w <;> omega)
  obtain ⟨M1, e1, e2, e3, e4⟩ := (ctop hx hl hi h1 hD1).b
  have g := top_gd (tx := tx) hl hi
  have o2 : Off RD M M1 := (o1.mono (fun a q => by omega)).tr (QC_D (by omega) e4)
  rw [e1, bd_s]
  by_cases c : (pTop tx fs.length i).1 = true
  · rw [if_pos c, if_neg (show ¬ (1 : Int32) = 0 by decide), sign_ok e2 g.2.1 hx, bd_s]
    by_cases d : sg tx (pTop tx fs.length i).2.1 = 0
    · rw [if_pos d, if_pos ⟨c, d⟩, isB1, gd_t]
      refine ⟨M1, rfl, e2, fun _ => ⟨?_, hD1.next (by omega) e4 e3⟩, o2⟩
      rw [e4.1 3 (fun q => by rcases q with q | q | q | q <;> omega)]
      simp [ms1]
    · rw [if_neg d, if_neg (fun q => d q.2), isB0, gd_t]
      exact ⟨M1, rfl, e2, fun q => (by cases q), o2⟩
  · rw [if_neg c, if_pos rfl, if_neg (fun q => c q.1), isB0, gd_t]
    exact ⟨M1, rfl, e2, fun q => (by cases q), o2⟩
theorem csh {tx : List Int32} (hx : tx.length ≤ 100) : ∀ (r n i : Nat) (fs : List Fm) (M : Mem), fs.length + r = 5 → r < n → i ≤ tx.length → CT M tx i → DF M fs → CSh tx M (f_Reader_readSheet_b34 n (nI fs.length) M) (pSh tx r i fs) := by
  intro r
  induction r with
  | zero =>
    intro n i fs M hl hn hi h hD
    obtain ⟨n', rfl⟩ : ∃ n', n = n' + 1 := ⟨n - 1, by omega⟩
    rw [f_Reader_readSheet_b34, if_pos (show (5 : Int32) ≤ nI fs.length by rw [show (5 : Int32) = nI 5 from rfl]; exact nI_le (by omega) (by omega)), pSh]
    exact cend hx (by omega) hi h hD
  | succ r ih =>
    intro n i fs M hl hn hi h hD
    obtain ⟨n', rfl⟩ : ∃ n', n = n' + 1 := ⟨n - 1, by omega⟩
    have o0 : ∀ (M : Mem) v, Off RD M (mset M 1 2 v) := fun M v => Off.set (Or.inl rfl)
    rw [f_Reader_readSheet_b34, if_neg (show ¬ (5 : Int32) ≤ nI fs.length by rw [show (5 : Int32) = nI 5 from rfl]; exact nI_ge (by omega) (by omega)), pass_ok h hi hx, bd_s, pSh]
    by_cases c : sg tx i = 65 + nI fs.length
    · have hne : sg tx i ≠ 0 := by rw [c, show (65 : Int32) = nI 65 from rfl, nI_add]; exact nI_ne0 (by omega) (by omega)
      have h1 : i + 1 ≤ tx.length := sg_lt hne
      rw [if_pos c, if_pos c, if_pos c, if_neg (show ¬ (1 : Int32) = 0 by decide), pass_ok h.set h1 hx, bd_s]
      by_cases d : sg tx (i + 1) = 61
      · have h2 : i + 2 ≤ tx.length := sg_lt (i := i + 1) (by rw [d]; decide)
        rw [if_pos d, if_pos d, if_pos d, if_neg (show ¬ (1 : Int32) = 0 by decide), gd_of (inbT (by omega) (by omega)), show i + 1 + 1 = i + 2 from rfl]
        have hc2 : CT (mset (mset M 1 2 (nI (i + 1))) 1 2 (nI (i + 2))) tx (i + 2) := CT.set h.set
        have o2 := (o0 M (nI (i + 1))).tr (o0 _ (nI (i + 2)))
        obtain ⟨M1, e1, e2, e3, e4⟩ := (ctop hx (by omega) h2 hc2 hD.set1.set1).b
        have g := top_gd (tx := tx) (fm := fs.length) (by omega) h2
        have o3 := o2.tr (QC_D (by omega) e4)
        rw [e1, bd_s]
        by_cases e : (pTop tx fs.length (i + 2)).1 = true
        · have ef : ¬ (pTop tx fs.length (i + 2)).1 = false := by rw [e]; decide
          rw [if_pos e, if_neg (show ¬ (1 : Int32) = 0 by decide), if_neg ef, pass_ok e2 g.2.1 hx, bd_s]
          have o4 := o3.tr (o0 M1 (nI (if sg tx (pTop tx fs.length (i + 2)).2.1 = 59 then (pTop tx fs.length (i + 2)).2.1 + 1 else (pTop tx fs.length (i + 2)).2.1)))
          by_cases u : sg tx (pTop tx fs.length (i + 2)).2.1 = 59
          · rw [if_pos u] at o4
            rw [if_pos u, if_pos u, if_pos u, if_neg (show ¬ (1 : Int32) = 0 by decide), bi_e, nI_s]
            have hD2 : DF M1 (fs ++ [(pTop tx fs.length (i + 2)).2.2]) := hD.set1.set1.next (by omega) e4 e3
            have := ih n' ((pTop tx fs.length (i + 2)).2.1 + 1) (fs ++ [(pTop tx fs.length (i + 2)).2.2]) (mset M1 1 2 (nI ((pTop tx fs.length (i + 2)).2.1 + 1))) (by simp; omega) (by omega) (sg_lt (by rw [u]; decide)) e2.set hD2.set1
            rw [List.length_append, List.length_cons, List.length_nil] at this
            exact CSh.of o4 this
          · rw [if_neg u] at o4
            rw [if_neg u, if_neg u, if_neg u, if_pos rfl, isB0, gd_t]
            exact ⟨_, rfl, e2.set, fun q => (by cases q), o4⟩
        · have ef : (pTop tx fs.length (i + 2)).1 = false := by simpa using e
          rw [if_neg e, if_pos rfl, if_pos ef, isB0, gd_t]
          exact ⟨M1, rfl, e2, fun q => (by cases q), o3⟩
      · rw [if_neg d, if_neg d, if_neg d, if_pos rfl, isB0, gd_t]
        exact ⟨_, rfl, CT.set h.set, fun q => (by cases q), (o0 _ _).tr (o0 _ _)⟩
    · rw [if_neg c, if_neg c, if_neg c, if_pos rfl]
      exact CSh.of (o0 _ _) (cend hx (by omega) hi h.set hD.set1)
theorem csh7 {k : Mem → Option (Int32 × Mem)} (hk : ∀ M, f_Reader_readSheet_b34 FU 0 M = k M) : ∀ (n j : Nat) (M : Mem), j ≤ 6 → 6 - j < n → (∀ i, i < j → M.1 (6 + 3 * i) 2 = nI 0) → ∃ M', f_Reader_readSheet_b7 n (nI j) M = k M' ∧ (∀ i, i < 6 → M'.1 (6 + 3 * i) 2 = nI 0) ∧ Off (fun a => 6 ≤ a ∧ a ≤ 21) M M' := by
  intro n
  induction n with
  | zero => intro j M _ h; omega
  | succ n ih =>
    intro j M hj hn h
    rw [f_Reader_readSheet_b7]
    by_cases c : j = 6
    · subst c
      rw [if_pos (by decide), hk]
      exact ⟨M, rfl, h, Off.rf⟩
    · rw [if_neg (show ¬ (6 : Int32) ≤ nI j by rw [l6]; exact nI_ge (by omega) (by omega)), gd_of (inbT (by omega) (by omega)), ixN (by omega), bm_e, bi_e, nI_s, ← nI_0]
      have o1 : Off (fun a => 6 ≤ a ∧ a ≤ 21) M (mset M (6 + 3 * j) 2 (nI 0)) := Off.set (by omega)
      obtain ⟨M1, e1, e2, e3⟩ := ih (j + 1) (mset M (6 + 3 * j) 2 (nI 0)) (by omega) (by omega) (fun i hi => by
        rw [ms1]
        by_cases d : i = j
        · subst d; rw [if_pos rfl, if_pos rfl]
        · rw [if_neg (by omega)]; exact h i (by omega))
      exact ⟨M1, e1, e2, o1.tr e3⟩
theorem oks_read {s : S3} (h : OKs s) : OKs (sp_read s).2 := by
  rw [sp_read]
  by_cases c : (pSh s.1 5 0 []).1 = true
  · rw [if_pos c]
    exact ⟨h.1, h.2.1, (sh_ok 5 0 [] rfl (Nat.zero_le _) (fun i hi => absurd hi (Nat.not_lt_zero _))).2 c, (oks_rec h).1, (oks_rec h).2⟩
  · rw [if_neg c]; exact h
theorem c_read {M : Mem} {s : S3} (h : RepC M s) (hk : OKs s) : ∃ M', f_LP_read M = some ((sp_read s).1, M') ∧ RepC M' (sp_read s).2 ∧ OffC M M' := by
  have hx := hk.1
  have hks := hk.2.2.1
  obtain ⟨ht, hS, hH, hE, h0⟩ := id h
  obtain ⟨p1, p2⟩ := sh_ok (tx := s.1) 5 0 [] rfl (Nat.zero_le _) (fun i hi => absurd hi (Nat.not_lt_zero _))
  have hc0 : CT (mset M 1 2 0) s.1 0 := ⟨by simp [ms1, ht.1], fun k hk2 => by rw [mset_ne (by omega)]; exact ht.2 k hk2, by simp [ms1, nI_0]⟩
  have o0 : Off RD M (mset M 1 2 0) := Off.set (Or.inl rfl)
  obtain ⟨M1, e1, e2, e3⟩ := csh7 (fun M => rfl) FU 0 (mset M 1 2 0) (by omega) (by rw [FU_e]; omega) (fun i hi => by omega)
  have hc1 : CT M1 s.1 0 := by
    obtain ⟨q1, q2, q3⟩ := hc0
    exact ⟨by rw [e3.1 1 (by omega)]; exact q1, fun k hk2 => by rw [e3.1 2 (by omega)]; exact q2 k hk2, by rw [e3.1 1 (by omega)]; exact q3⟩
  have hD : DF M1 [] := fun j hj => ⟨e2 j hj, Nat.zero_le _, fun i hi => absurd hi (Nat.not_lt_zero _)⟩
  obtain ⟨M2, u1, u2, u3, u4⟩ := csh hx 5 FU 0 [] M1 rfl (by rw [FU_e]; omega) (Nat.zero_le _) hc1 hD
  have o2 : Off RD M M2 := (o0.tr (e3.mono (fun a q => by omega))).tr u4
  have hR2 : RepC M2 s := ⟨⟨u2.1, fun i hi => by rw [o2.1 2 (by omega)]; exact ht.2 i hi⟩, hS.off o2 hks.1.2 (fun a ha q => by have : _ ∧ _ := ha; omega), hH.off hk.2.2.2.1 o2 (fun a ha q => by omega), hE.off o2 hks.1.2 (fun a ha q => by have : _ ∧ _ := ha; omega), h0.off o2 (fun a ha q => by have : _ ∧ _ := ha; omega)⟩
  have hC2 : OffC M M2 := OffC.of o2 (fun a ha q => by omega)
  rw [f_LP_read, f_Reader_readSheet, bm_e]
  rw [show f_Reader_readSheet_b7 FU 0 (mset M 1 2 0) = f_Reader_readSheet_b34 FU 0 M1 from e1, show f_Reader_readSheet_b34 FU 0 M1 = _ from u1, bd_s, sp_read]
  by_cases c : (pSh s.1 5 0 []).1 = true
  · rw [if_pos c, if_pos c, if_neg (show ¬ (1 : Int32) = 0 by decide)]
    obtain ⟨v1, v2⟩ := u3 c
    have hfs := p2 c
    obtain ⟨M3, r1, r2, r3, r4⟩ := rec_ok hks hR2.2.1 hR2.2.2.1 hk.2.2.2.1
    obtain ⟨⟨ht3, hS3, hE3, h03⟩, hC3⟩ := rec_rest hR2 hk r3
    obtain ⟨M4, w1, w2, w3, w4, w5⟩ := copyF_ok (S := 24) (O := 3) (fs := (pSh s.1 5 0 []).2.2) (M := M3) (by decide) (by decide) (by omega) hfs (by rw [r3.1 3 (by omega) (by omega)]; exact v1) (fun i hi => by
      have := v2 i (by have := hfs.1.2; omega)
      have e : ∀ a, F3 (3 + 3 + 3 * i) a → M3.1 a = M2.1 a := fun a ha => r3.1 a (by rcases ha with w | w | w <;> omega) (by have := hfs.1.2; rcases ha with w | w | w <;> omega)
      obtain ⟨q1, q2, q3⟩ := this
      rw [show 6 + 3 * i = 3 + 3 + 3 * i by omega] at q1 q2 q3
      exact ⟨by rw [e _ (Or.inl rfl)]; exact q1, q2, fun k hk2 => by rw [e _ (Or.inr (Or.inl rfl)), e _ (Or.inr (Or.inr rfl))]; exact q3 k hk2⟩)
    obtain ⟨M5, y1, y2, y3, y4, -⟩ := anew_rep (M := M4) (tx := s.1) (st := ((pSh s.1 5 0 []).2.2, s.2.1.2)) (hist := recH s.2.2 s.2.1)
      ⟨by rw [w5.1 1 (by omega)]; exact ht3.1, fun i hi => by rw [w5.1 2 (by omega)]; exact ht3.2 i hi⟩
      ⟨w2, w3, fun cc hcc => by rw [w5.1 26 (by omega)]; exact hS3.2.2.1 cc hcc, by rw [w4]; exact hS3.2.2.2⟩
      (r2.off r4 w5 (fun a ha q => by omega)) r4 (h03.off w5 (fun a ha q => by have : _ ∧ _ := ha; omega)) hfs
    rw [r1, bd_s, w1, bd_s, y1, bd_s, y4, w2]
    exact ⟨M5, rfl, y2, ((hC2.tr hC3).tr (OffC.of w5 (fun a ha q => by omega))).tr y3⟩
  · rw [if_neg c, if_neg c, if_pos rfl, u2.2.2]
    exact ⟨M2, rfl, hR2, hC2⟩
