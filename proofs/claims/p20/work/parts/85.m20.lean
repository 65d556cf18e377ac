/-! reads: the loop -/
abbrev S7 (g n a b hr og ap : Nat) : Nat → Prop := fun c => c = g ∨ c = n ∨ c = a ∨ c = b ∨ c = hr ∨ c = og ∨ c = ap
theorem gf_ap {fs : List Fm} {l : Fm} {i : Nat} : gf (fs ++ [l]) i = if i = fs.length then l else gf fs i := gf_app
theorem LF.app {M M' : Mem} {n a b : Nat} {fs : List Fm} {T : Fm} (h : LF M n a b fs) (hT : T.length ≤ 15) (h15 : ∀ i, i < fs.length → (gf fs i).length ≤ 15) (hN : NAB M M' n a b fs.length) (hF : TyF M' n a b fs.length T) : LF M' n a b (fs ++ [T]) := by
  intro i hi
  rw [List.length_append, List.length_singleton] at hi
  rw [gf_ap]
  by_cases c : i = fs.length
  · rw [if_pos c, c]
    exact hF
  · rw [if_neg c]
    obtain ⟨h1, h2⟩ := h i (by omega)
    have := h15 i (by omega)
    refine ⟨by rw [hN.1 i c]; exact h1, fun k hk => ?_⟩
    obtain ⟨e1, e2⟩ := hN.2 (16 * i + k) (by omega)
    rw [e1, e2]
    exact h2 k hk
/-- the sheet while it is typed -/
def RI (M : Mem) (g n a b hr og ap : Nat) (q : St × List St) (pre : List Int32) (fs : List Fm) : Prop := (RepC M (pre, q) ∧ OKs (pre, q) ∧ M.1 ap 0 = nI pre.length) ∧ ((LR M ap 1 ∧ LR M hr 16 ∧ LR M og 16) ∧ LR M n 8 ∧ LR M a 64 ∧ LR M b 64 ∧ LR M g 2) ∧ (PD pre fs ∧ pre.length ≤ 20 * fs.length) ∧ LF M n a b fs ∧ ∀ i, i < fs.length → wf (gf fs i) ∧ (gf fs i).length ≤ 15 ∧ ∀ k, k < (gf fs i).length → okN i (nd (gf fs i) k)
section RD
variable {g n a b hr og ap many : Nat} {q : St × List St}
theorem rd_end {M : Mem} {tx : List Int32} {fs : List Fm} (hC : RepC M (tx, q)) (hO : OKs (tx, q)) (hap : M.1 ap 0 = nI tx.length) (hra : LR M ap 1) (hrg : LR M g 2) (hne : g ≠ ap) (h1 : (pSh tx 5 0 []).1 = true) (h2 : (pSh tx 5 0 []).2.2 = fs) (hl : fs.length = many + 1) :
    ∃ M', f_L_reads_b198 g ap (nI many) 1 M = some (1, M') ∧ (RepC M' (tx, (fs, q.1.2), recH q.2 q.1) ∧ OKs (tx, (fs, q.1.2), recH q.2 q.1)) ∧ M'.1 g 0 = nI (many + 1) ∧ M'.1 g 1 = M.1 g 1 ∧ FrL (fun c => c = g) 0 0 M M' := by
  have hF1 : FrL (fun c => c = g) 0 0 M (mset M g 0 (nI (many + 1))) := FrL.rf.set (Or.inl rfl)
  have hC1 := hC.ck hO (CK.rf.set hrg.1 (M1 := M) (k := 0) (v := nI (many + 1)))
  obtain ⟨M2, e1, e2, e3⟩ := c_read hC1 hO
  have hsp : sp_read (tx, q) = (nI (many + 1), (tx, (fs, q.1.2), recH q.2 q.1)) := by
    rw [sp_read]
    show (if (pSh tx 5 0 []).1 = true then _ else _) = _
    rw [if_pos h1, h2, hl]
  have hO2 := oks_read hO
  rw [hsp] at e1 e2 hO2
  have hF2 : FrL (fun c => c = g) 0 0 M M2 := hF1.tr (e3.fr (S := fun c => c = g)) (fun a h => Or.inl h)
  have hg2 : M2.1 g 0 = nI (many + 1) := by rw [e3.1 g hrg.1, ms_eq]
  have hcnt : a_count (tx, q) 6 = nI tx.length := by rw [a_count, if_neg (by decide), if_neg (by decide), if_neg (by decide), if_neg (by decide), if_neg (by decide), if_neg (by decide), if_pos rfl]
  have z1 : (mset M g 0 (nI (many + 1))).1 ap (ix 0) = nI tx.length := by rw [show ix 0 = 0 from rfl, ms_a (Ne.symm hne)]; exact hap
  have z2 : M2.1 g (ix 0) = nI (many + 1) := hg2
  refine ⟨M2, ?_, ⟨e2, hO2⟩, hg2, by rw [e3.1 g hrg.1, ms_k (by omega)], hF2⟩
  rw [f_L_reads_b198, gd_of (lx_0 hrg (by omega) (by omega)), bm_e, if_neg (by decide), nI_s, show ix 0 = 0 from rfl, bk_ok (c_count hC1 hO 6) OffC.rf, gd_of (lx_0 hra.set (by omega) (by omega)), hcnt, show (mset M g 0 (nI (many + 1))).1 ap 0 = nI tx.length from z1, if_pos rfl, bk_ok e1 e3, gd_of (lx_0 (hrg.fr hF2) (by omega) (by omega)), hg2, if_pos rfl]
  rfl
theorem rd_loop {z : Nat} (hz : z < 2 ^ 31) (hmany : many ≤ 3) (ho1 : g < n ∧ n < a ∧ a < b ∧ b < hr) (ho2 : og = hr + 1 ∧ ap = hr + 2) : ∀ (fu : Nat) (M : Mem) (pre : List Int32) (fs : List Fm), fs.length ≤ many → many + 1 - fs.length < fu → RI M g n a b hr og ap q pre fs →
    ∃ M' fs' tx, f_L_reads_b34 fu g n a b (nI z) hr og ap (nI many) 1 (nI fs.length) M = some (1, M') ∧ (RepC M' (tx, (fs', q.1.2), recH q.2 q.1) ∧ OKs (tx, (fs', q.1.2), recH q.2 q.1)) ∧ (OKL fs' ∧ LF M' n a b fs' ∧ fs'.length = many + 1) ∧ M'.1 g 0 = nI (many + 1) ∧ M'.1 g 1 = M.1 g 1 ∧ FrL (S7 g n a b hr og ap) (many + 1 - fs.length) (64 * (many + 1 - fs.length)) M M' := by
  intro fu
  induction fu with
  | zero => intro M pre fs _ h; omega
  | succ fu ih =>
    intro M pre fs hfm hfu hI
    obtain ⟨⟨i1, i2, i3⟩, ⟨⟨r1, r2, r3⟩, r4, r5, r6, r7⟩, ⟨p1, p2⟩, l1, l2⟩ := hI
    have lap := r1.lt
    obtain ⟨r, hr1, er⟩ := low_ok (nI z * ((2 * nI fs.length) + 3)) (n := 100000000) (by omega) (by omega) M
    have er' : f_L_low (nI z * ((2 * nI fs.length) + 3)) 100000000 M = some (nI r, M) := er
    have go : ∀ D, D ≤ 3 → (fs.length < many → D ≤ 2) → (many = 3 → D ≤ 2) → ∃ M' fs' tx, f_L_reads_b99 (f_L_reads_b34 fu) g n a b (nI z) hr og ap (nI many) (nI fs.length) (nI D) (nI r) og hr M = some (1, M') ∧ (RepC M' (tx, (fs', q.1.2), recH q.2 q.1) ∧ OKs (tx, (fs', q.1.2), recH q.2 q.1)) ∧ (OKL fs' ∧ LF M' n a b fs' ∧ fs'.length = many + 1) ∧ M'.1 g 0 = nI (many + 1) ∧ M'.1 g 1 = M.1 g 1 ∧ FrL (S7 g n a b hr og ap) (many + 1 - fs.length) (64 * (many + 1 - fs.length)) M M' := by
      intro D hD hD2 hD3
      obtain ⟨M1, g1, g2, g3, g4⟩ := grow_ok (x2 := nI r) (M := M) (a0 := hr) (a1 := og) (D := D) (kn := fs.length) hD (by omega) (by omega) r2 r3
      have hH : HPf (M1.1 hr) (M1.1 og) D fs.length := g2
      generalize hhk : M1.1 hr = hk at hH
      generalize hho : M1.1 og = ho at hH
      have k2 : ∀ c, K2 hr og c → S7 g n a b hr og ap c := fun c h => by rcases h with h | h; exact Or.inr (Or.inr (Or.inr (Or.inr (Or.inl h)))); exact Or.inr (Or.inr (Or.inr (Or.inr (Or.inr (Or.inl h)))))
      have hF1 : FrL (S7 g n a b hr og ap) 0 0 M M1 := g3.mono (fun c h => Or.inl (k2 c h)) (Nat.le_refl _) (Nat.le_refl _)
      have nk : ∀ c, c < hr ∨ c = ap → ¬ K2 hr og c := fun c h h2 => by rcases h2 with h2 | h2 <;> omega
      have m1 : M1.1 ap = M.1 ap := g3.row r1.lt (nk _ (Or.inr rfl))
      have m2 : M1.1 n = M.1 n := g3.row r4.lt (nk _ (Or.inl (by omega)))
      have m3 : M1.1 a = M.1 a := g3.row r5.lt (nk _ (Or.inl (by omega)))
      have m4 : M1.1 b = M.1 b := g3.row r6.lt (nk _ (Or.inl (by omega)))
      have m5 : M1.1 g = M.1 g := g3.row r7.lt (nk _ (Or.inl (by omega)))
      have hC1 := i1.ck i2 g4
      have hXl := (hX_len (hk := hk) (ho := ho) D 0).2
      have hTl := (hT_len (hk := hk) (ho := ho) D 0).2
      have h8 : 2 ^ D ≤ 2 ^ 3 := Nat.pow_le_pow_right (by omega) hD
      obtain ⟨w1, w2⟩ := hT_wf hH hD D 0 ⟨by omega, by show D ≤ D + 0; omega⟩
      have w3 : ∀ k, k < (hT hk ho D 0).length → okN fs.length (nd (hT hk ho D 0) k) := fun k hk0 => w2 _ (nd_in hk0)
      have hl2 : ∀ i, i < (fs ++ [hT hk ho D 0]).length → wf (gf (fs ++ [hT hk ho D 0]) i) ∧ (gf (fs ++ [hT hk ho D 0]) i).length ≤ 15 ∧ ∀ k, k < (gf (fs ++ [hT hk ho D 0]) i).length → okN i (nd (gf (fs ++ [hT hk ho D 0]) i) k) := by
        intro i hi
        rw [List.length_append, List.length_singleton] at hi
        rw [gf_ap]
        by_cases c : i = fs.length
        · rw [if_pos c, c]; exact ⟨w1, by omega, w3⟩
        · rw [if_neg c]; exact l2 i (by omega)
      have k4 : ∀ c, K4b ap n a b c → S7 g n a b hr og ap c := fun c h => by
        rcases h with h | h | h | h
        · exact Or.inr (Or.inr (Or.inr (Or.inr (Or.inr (Or.inr h)))))
        · exact Or.inr (Or.inl h)
        · exact Or.inr (Or.inr (Or.inl h))
        · exact Or.inr (Or.inr (Or.inr (Or.inl h)))
      have kap : ∀ c, c = ap → S7 g n a b hr og ap c := fun c h => Or.inr (Or.inr (Or.inr (Or.inr (Or.inr (Or.inr h)))))
      rw [f_L_reads_b99, g1, bd_s]
      by_cases c : fs.length = many
      · -- the result
        have hX100 : pre.length + (hX hk ho D 0).length ≤ 100 := by
          by_cases c3 : many = 3
          · have h4 : 2 ^ D ≤ 2 ^ 2 := Nat.pow_le_pow_right (by omega) (hD3 c3)
            omega
          · omega
        have h51 : M1.2 5 = M.2 5 := by have := g3.2.2.1; omega
        obtain ⟨M2, t1, ⟨t2, t3, t4⟩, t5, t6, t7⟩ := types_ok (s := (pre, q)) (M := M1) (f := fs.length) (ap := ap) (hr := hr) (og := og) (n := n) (a := a) (b := b) hH hD (by omega) (by omega) ⟨⟨by omega, by omega, by omega, by omega, by omega, by omega⟩, ⟨by omega, by omega, by omega, by omega, by omega⟩, ⟨by omega, by omega, by omega, by omega⟩, ⟨by omega, by omega, by omega⟩, by omega, by omega⟩ hC1 i2 (by rw [m1]; exact i3) ⟨⟨r1.fr g3, r2.fr g3, r3.fr g3⟩, r4.fr g3, r5.fr g3, r6.fr g3⟩ (fun k _ => ⟨by rw [hhk], by rw [hho]⟩) hX100
        have hLF := (l1.rows m2 m3 m4).app (by omega) (fun i hi => (l2 i hi).2.1) t6 t5
        obtain ⟨f1, f2⟩ := p1.fin (by omega) hH hD
        obtain ⟨M3, x1, x2, x3, x4, x5⟩ := rd_end (many := many) (g := g) (ap := ap) (q := q) (tx := pre ++ hX hk ho D 0) (fs := fs ++ [hT hk ho D 0]) t2 t3 t4 ((r1.fr g3).fr t7) ((r7.fr g3).fr t7) (by omega) f1 f2 (by rw [List.length_append, List.length_singleton]; omega)
        have hrow : ∀ c m, LR M2 c m → c ≠ g → M3.1 c = M2.1 c := fun c m hc hcg => x5.row hc.lt hcg
        obtain ⟨fu', rfl⟩ : ∃ z, fu = z + 1 := ⟨fu - 1, by omega⟩
        refine ⟨M3, fs ++ [hT hk ho D 0], pre ++ hX hk ho D 0, ?_, x2, ⟨⟨⟨by rw [List.length_append, List.length_singleton]; omega, by rw [List.length_append, List.length_singleton]; omega⟩, hl2⟩, hLF.rows (hrow n 8 ((r4.fr g3).fr t7) (by omega)) (hrow a 64 ((r5.fr g3).fr t7) (by omega)) (hrow b 64 ((r6.fr g3).fr t7) (by omega)), by rw [List.length_append, List.length_singleton]; omega⟩, x3, ?_, ?_⟩
        · rw [c, if_pos rfl, f_L_reads_b136, f_L_reads_b141, if_neg (by decide), ← c, t1, bd_s, if_neg (by decide), c, if_pos rfl, bi_e, nI_s, f_L_reads_b34, if_pos (nI_lt (by omega) (by omega))]
          exact x1
        · rw [x4, t7.row (r7.fr g3).lt (fun h => by rcases h with h | h | h | h <;> omega), m5]
        · exact ((hF1.tr t7 (fun c h => Or.inl (k4 c h))).tr x5 (fun c h => Or.inl (Or.inl h))).mono (fun a h => Or.inl h) (by omega) (by omega)
      · -- a definition
        have hfl : fs.length < many := by omega
        have hD2' := hD2 hfl
        have h4 : 2 ^ D ≤ 2 ^ 2 := Nat.pow_le_pow_right (by omega) hD2'
        have ec : (65 : Int32) + nI fs.length = nI (65 + fs.length) := by rw [show (65 : Int32) = nI 65 from rfl, nI_add]
        have hc65 := chr_ok (c := 65 + fs.length) (by omega) (by omega)
        obtain ⟨M2, a1, a2, a3, a4, a5⟩ := lput_ok (c := 65 + nI fs.length) hC1 i2 (r1.fr g3) (by rw [m1]; exact i3) (by rw [ec]; exact hc65.1) (by rw [ec]; exact hc65.2) (by show pre.length < 100; omega)
        obtain ⟨M3, b1, b2, b3, b4, b5⟩ := lput_ok (c := 61) a2 a3 ((r1.fr g3).fr a5) (by rw [a4, List.length_append, List.length_singleton]) (by decide) (by decide) (by show (pre ++ [65 + nI fs.length]).length < 100; rw [List.length_append, List.length_singleton]; omega)
        have hF12 := a5.tr b5 (fun c h => Or.inl h)
        have rr : ∀ c m, LR M1 c m → c ≠ ap → M3.1 c = M1.1 c := fun c m hc hne => hF12.row hc.lt hne
        have h51 : M3.2 5 = M.2 5 := by have := g3.2.2.1; have := hF12.2.2.1; omega
        obtain ⟨M4, t1, ⟨t2, t3, t4⟩, t5, t6, t7⟩ := types_ok (s := ((pre ++ [65 + nI fs.length]) ++ [61], q)) (M := M3) (f := fs.length) (ap := ap) (hr := hr) (og := og) (n := n) (a := a) (b := b) hH hD (by omega) (by omega) ⟨⟨by omega, by omega, by omega, by omega, by omega, by omega⟩, ⟨by omega, by omega, by omega, by omega, by omega⟩, ⟨by omega, by omega, by omega, by omega⟩, ⟨by omega, by omega, by omega⟩, by omega, by omega⟩ b2 b3 (by rw [b4]; congr 1; simp) ⟨⟨(r1.fr g3).fr hF12, (r2.fr g3).fr hF12, (r3.fr g3).fr hF12⟩, (r4.fr g3).fr hF12, (r5.fr g3).fr hF12, (r6.fr g3).fr hF12⟩ (fun k _ => ⟨by rw [rr hr 16 (r2.fr g3) (by omega), hhk], by rw [rr og 16 (r3.fr g3) (by omega), hho]⟩) (by show ((pre ++ [65 + nI fs.length]) ++ [61]).length + _ ≤ 100; rw [List.length_append, List.length_append, List.length_singleton, List.length_singleton]; omega)
        obtain ⟨M5, c1, c2, c3, c4, c5⟩ := lput_ok (c := 59) t2 t3 (((r1.fr g3).fr hF12).fr t7) t4 (by decide) (by decide) (by show (((pre ++ [65 + nI fs.length]) ++ [61]) ++ hX hk ho D 0).length < 100; rw [List.length_append, List.length_append, List.length_append, List.length_singleton, List.length_singleton]; omega)
        have e0 : (((pre ++ [65 + nI fs.length]) ++ [61]) ++ hX hk ho D 0) ++ [59] = pre ++ ((65 + nI fs.length) :: 61 :: (hX hk ho D 0 ++ [59])) := by simp
        have hl3 := l1.rows ((rr n 8 (r4.fr g3) (by omega)).trans m2) ((rr a 64 (r5.fr g3) (by omega)).trans m3) ((rr b 64 (r6.fr g3) (by omega)).trans m4)
        have hl4 := hl3.app (T := hT hk ho D 0) (by omega) (fun i hi => (l2 i hi).2.1) t6 t5
        have r4' := ((r4.fr g3).fr hF12).fr t7
        have r5' := ((r5.fr g3).fr hF12).fr t7
        have r6' := ((r6.fr g3).fr hF12).fr t7
        have r7' := ((r7.fr g3).fr hF12).fr t7
        have hl5 := hl4.rows (c5.row r4'.lt (by omega)) (c5.row r5'.lt (by omega)) (c5.row r6'.lt (by omega))
        have hlen1 : (fs ++ [hT hk ho D 0]).length = fs.length + 1 := by rw [List.length_append, List.length_singleton]
        have c2' : RepC M5 (pre ++ ((65 + nI fs.length) :: 61 :: (hX hk ho D 0 ++ [59])), q) := by rw [← e0]; exact c2
        have c3' : OKs (pre ++ ((65 + nI fs.length) :: 61 :: (hX hk ho D 0 ++ [59])), q) := by rw [← e0]; exact c3
        have c4' : M5.1 ap 0 = nI (pre ++ ((65 + nI fs.length) :: 61 :: (hX hk ho D 0 ++ [59]))).length := by
          rw [← e0, c4, List.length_append (as := ((pre ++ [65 + nI fs.length]) ++ [61]) ++ hX hk ho D 0), List.length_singleton]
        obtain ⟨M6, fs', tx, j1, j2, j3, j4, j5, j6⟩ := ih M5 (pre ++ ((65 + nI fs.length) :: 61 :: (hX hk ho D 0 ++ [59]))) (fs ++ [hT hk ho D 0]) (by omega) (by omega) ⟨⟨c2', c3', c4'⟩, ⟨⟨(((r1.fr g3).fr hF12).fr t7).fr c5, (((r2.fr g3).fr hF12).fr t7).fr c5, (((r3.fr g3).fr hF12).fr t7).fr c5⟩, r4'.fr c5, r5'.fr c5, r6'.fr c5, r7'.fr c5⟩, ⟨p1.step (by omega) hH hD, by simp; omega⟩, hl5, hl2⟩
        rw [hlen1] at j1 j6
        refine ⟨M6, fs', tx, ?_, j2, j3, j4, ?_, ?_⟩
        · rw [if_neg (fun w => c ((nI_eq (by omega) (by omega)).mp w)), a1, bd_s, if_neg (by decide), b1, bd_s, if_neg (by decide), f_L_reads_b136, f_L_reads_b141, if_neg (by decide), t1, bd_s, if_neg (by decide), if_neg (fun w => c ((nI_eq (by omega) (by omega)).mp w)), c1, bd_s, if_neg (by decide), bi_e, nI_s]
          exact j1
        · rw [j5, c5.row r7'.lt (by omega), t7.row ((r7.fr g3).fr hF12).lt (fun h => by rcases h with h | h | h | h <;> omega), rr g 2 (r7.fr g3) (by omega), m5]
        · exact ((((hF1.tr hF12 (fun c h => Or.inl (kap c h))).tr t7 (fun c h => Or.inl (k4 c h))).tr c5 (fun c h => Or.inl (kap c h))).tr j6 (fun c h => Or.inl h)).mono (fun a h => Or.inl h) (by omega) (by omega)
    rw [f_L_reads_b34, if_neg (nI_nlt hfm (by omega)), if_neg (by decide), er', bd_s]
    by_cases c : many ≤ fs.length
    · rw [if_pos (nI_le c (by omega))]
      by_cases c3 : 3 ≤ many
      · rw [if_pos (show (3 : Int32) ≤ nI many from nI_le (a := 3) c3 (by omega))]
        exact go 2 (by omega) (fun _ => by omega) (fun _ => by omega)
      · rw [if_neg (show ¬ (3 : Int32) ≤ nI many from nI_ge (b := 3) (by omega) (by omega))]
        exact go 3 (by omega) (fun h => by omega) (fun h => by omega)
    · rw [if_neg (nI_ge (by omega) (by omega))]
      split
      · exact go 2 (by omega) (fun _ => by omega) (fun _ => by omega)
      · exact go 1 (by omega) (fun _ => by omega) (fun _ => by omega)
end RD
