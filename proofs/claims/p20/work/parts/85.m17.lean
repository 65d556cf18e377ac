/-! types: the loop -/
theorem apr (a : List Int32) (c : Int32) (x : List Int32) : (a ++ [c]) ++ x = a ++ c :: x := by simp
section TYR
variable {ap hr og n a b sr f D kn : Nat} {hk ho : Nat → Int32}
/-- a number's digits -/
theorem num_c : ∀ h, h < 40 → (nI h / 10 = nI (h / 10)) ∧ (nI h - nI h / 10 * 10 = nI (h % 10)) ∧ 48 + nI (h / 10) = nI (48 + h / 10) ∧ 48 + nI (h % 10) = nI (48 + h % 10) := by decide +kernel
theorem ty139 {k18 : Nat → Nat → Nat → Nat → Nat → Nat → Int32 → Nat → Int32 → Int32 → Mem → Option (Int32 × Mem)} {s : S3} {l : Fm} {M : Mem} {k h : Nat} {y : Int32} (hS : TS M ap hr og n a b sr f hk ho s l) (hd : DI ap hr og n a b sr) (hk15 : k < 15) (hv : ho k = nI h) (h40 : h < 40) (hl : s.1.length < 100) :
    ∃ M', f_L_types_b139 k18 ap hr og n a b (nI f) sr y (nI k) M = k18 ap hr og n a b (nI f) sr y 1 M' ∧ TS M' ap hr og n a b sr f hk ho (s.1 ++ [48 + (ho k - ho k / 10 * 10)], s.2) l ∧ FrL (fun z => z = ap) 0 0 M M' := by
  obtain ⟨n1, n2, n3, n4⟩ := num_c h h40
  have hc : ¬ (48 + (ho k - ho k / 10 * 10)) < 1 ∧ (48 + (ho k - ho k / 10 * 10)) ≤ 255 := by
    rw [hv, n2, n4]
    exact chr_ok (by omega) (by omega)
  obtain ⟨M', e1, e2, e3⟩ := hS.put hd hc hl
  refine ⟨M', ?_, e2, e3⟩
  rw [f_L_types_b139, gd_of (lx_ok hS.2.1.1.2.2 (by omega) (by omega)), ixN (by omega), (hS.2.2.1 k hk15).2, e1, bd_s, if_neg (by decide)]
theorem ty_run (hH : HPf hk ho D kn) (hD : D ≤ 3) (hkn : kn ≤ 5) (hf : f < 4) (hd : DI ap hr og n a b sr) : ∀ (fu : Nat) (S : List SE) (s : S3) (l : Fm) (M : Mem), stpS hk S < fu → SV D S → stpS hk S ≤ 40 → TS M ap hr og n a b sr f hk ho s l → SR M sr S → s.1.length + (rndS hk ho S).length ≤ 100 → l.length + (prsS hk ho S).length ≤ 15 →
    TyEnd (f_L_types_b18 fu ap hr og n a b (nI f) sr (nI S.length) 1 M) M ap hr og n a b sr f hk ho s l (rndS hk ho S) (prsS hk ho S) := by
  intro fu
  induction fu with
  | zero => intro S s l M h; omega
  | succ fu ih =>
    intro S s l M hfu hV hst hS hR htx hln
    cases S with
    | nil =>
      refine ⟨M, ?_, by rw [show rndS hk ho [] = [] from rfl, show prsS hk ho [] = [] from rfl, List.append_nil, List.append_nil]; exact hS, NAB.of rfl rfl rfl, FrL.rf⟩
      rw [f_L_types_b18, if_pos (by decide +kernel)]
      rfl
    | cons e S =>
      obtain ⟨d, k⟩ := e
      have hV' : SV D S := fun x hx => hV x (List.mem_cons_of_mem _ hx)
      have hlen := stpS_len (hk := hk) (S := S)
      rw [stpS] at hfu hst
      rw [rndS_c, List.length_append] at htx
      rw [prsS_c, List.length_append] at hln
      obtain ⟨⟨r1, r2, r3⟩, r4, r5, r6, r7⟩ := hS.2.1
      have hSl : S.length < 64 := by omega
      have hR' := hR.2
      have hfu1 : 1 ≤ stp hk (d, k) := by
        rw [stp]
        have := (hm_le (hk := hk) d k).1
        split <;> omega
      rw [List.length_cons, f_L_types_b18, if_neg (nI_nle (by omega) (by omega)), if_neg (by decide), bi_e, nI_p, gd_of (lx_ok r7 (by omega) (by omega)), bi_e, ixN (by omega), show M.1 sr S.length = nI k from hR.1]
      rw [rndS_c, prsS_c]
      rcases hV (d, k) List.mem_cons_self with ⟨v1, v2, v3⟩ | ⟨v1, v2⟩
      · -- a character
        have hk1 : 99 < k := v1
        have hk2 : 101 ≤ k := v2
        have hk3 : k ≤ 355 := v3
        have er : rnd hk ho (d, k) = [nI (k - 100)] := if_pos v1
        have ep : prs hk ho (d, k) = [] := if_pos v1
        rw [er] at htx ⊢
        rw [ep] at hln ⊢
        rw [List.length_singleton] at htx
        obtain ⟨M1, e1, e2, e3⟩ := hS.put hd (chr_ok (c := k - 100) (by omega) (by omega)) (by omega)
        obtain ⟨z1, z2, z3⟩ := ap_nab hS hd e3
        rw [if_neg (by rw [show (99 : Int32) = nI 99 from rfl]; exact nI_ge hk1 (by omega)), show nI k - 100 = nI (k - 100) from nI_sb (b := 100) (by omega), e1, bd_s]
        exact (ih S (s.1 ++ [nI (k - 100)], s.2) l M1 (by omega) hV' (by omega) e2 (hR'.row z3) (by show (s.1 ++ [nI (k - 100)]).length + _ ≤ 100; rw [List.length_append, List.length_singleton]; omega) (by rw [List.length_nil] at hln; omega)).of (by show (s.1 ++ [nI (k - 100)]) ++ _ = _; rw [List.append_assoc]) rfl rfl z1 z2
      · -- a node
        have hk1 : ¬ 99 < k := v1
        have er : rnd hk ho (d, k) = hX hk ho d k := if_neg v1
        have ep : prs hk ho (d, k) = hT hk ho d k := if_neg v1
        have es : stp hk (d, k) = hm hk d k := if_neg v1
        have hk15 : k < 15 := v2.1
        rw [er] at htx ⊢
        rw [ep] at hln ⊢
        rw [es] at hfu hst
        have hX1 := (hX_len (hk := hk) (ho := ho) d k).1
        have hT1 := (hT_len (hk := hk) (ho := ho) d k).1
        have hHk := hH k hk15
        obtain ⟨c1, c2⟩ := hS.2.2.1 k hk15
        obtain ⟨f1, f2⟩ := hS.2.2.2
        obtain ⟨N1, N2, N3, N4⟩ := hS.node (q := nod hk ho k) hd (by omega)
        have hbc : bc (nod hk ho k) = ho k := bc_nod hHk
        rw [hbc] at N1 N2 N3 N4
        generalize hM5 : mnode M n a b f l.length (nod hk ho k).1 (ho k) = M5 at N1 N2 N3 N4
        have gn : lx M n (nI f) = true := lx_ok r4 (by omega) (by omega)
        have gh : lx M hr (nI k) = true := lx_ok r2 (by omega) (by omega)
        have gidx : 16 * f + l.length < 64 := by omega
        have iidx : ix (nI (16 * f + l.length)) = 16 * f + l.length := ixN (by omega)
        have iff' : ix (nI f) = f := ixN (by omega)
        have ikk : ix (nI k) = k := ixN (by omega)
        have ga : lx M a (nI (16 * f + l.length)) = true := lx_ok r5 gidx (by omega)
        obtain ⟨⟨d1, d2, d3, d4, d5, d6⟩, ⟨e1, e2, e3, e4, e5⟩, ⟨g1, g2, g3, g4⟩, ⟨q1, q2, q3⟩, w1, w2⟩ := id hd
        rw [if_pos (by rw [show (99 : Int32) = nI 99 from rfl]; exact nI_le (by omega) (by omega)), gd_of gn, gd_of gh, iff', f1, ad16, gd_of ga, bm_e, iidx, ikk, c1]
        rw [gd_of (lx_ok r4.set (by omega) (by omega)), gd_of (lx_ok r3.set (by omega) (by omega)), ms_a e3, f1, ad16, gd_of (lx_ok r6.set gidx (by omega)), bm_e, iidx, ms_a (Ne.symm g2), c2]
        rw [gd_of (lx_ok r4.set.set (by omega) (by omega)), gd_of (lx_ok r4.set.set (by omega) (by omega)), bm_e, ms_a e4, ms_a e3, f1, nI_s]
        have hM5' : mset (mset (mset M a (16 * f + l.length) (hk k)) b (16 * f + l.length) (ho k)) n f (nI (l.length + 1)) = M5 := hM5
        rw [hM5']
        obtain ⟨⟨t1, t2, t3⟩, t4, t5, t6, t7⟩ := N1.2.1
        obtain ⟨c3, c4⟩ := N1.2.2.1 k hk15
        have ghr : lx M5 hr (nI k) = true := lx_ok t2 (by omega) (by omega)
        have gog : lx M5 og (nI k) = true := lx_ok t3 (by omega) (by omega)
        have hR5 := hR'.row N4
        rw [gd_of ghr, gd_of ghr, gd_of ghr, gd_of ghr, c3, c4]
        by_cases h3 : hk k < 3
        · -- a leaf
          rw [hX_0 h3] at htx ⊢
          rw [hT_0 h3] at hln ⊢
          rw [hm_0 h3] at hfu hst
          rw [List.length_singleton] at hln
          have after : ∀ (M6 : Mem) (tx : List Int32), TS M6 ap hr og n a b sr f hk ho (s.1 ++ tx, s.2) (l ++ [nod hk ho k]) → NAB M5 M6 n a b f → FrL (T5 ap n a b sr) 0 0 M5 M6 → M6.1 sr = M5.1 sr → tx = lfX hk ho k → TyEnd (f_L_types_b18 fu ap hr og n a b (nI f) sr (nI S.length) 1 M6) M ap hr og n a b sr f hk ho s l (lfX hk ho k ++ rndS hk ho S) ([nod hk ho k] ++ prsS hk ho S) := by
            intro M6 tx a1 a2 a3 a4 a5
            subst a5
            exact (ih S _ _ M6 (by omega) hV' (by omega) a1 (hR5.row a4) (by show (s.1 ++ lfX hk ho k).length + _ ≤ 100; rw [List.length_append]; omega) (by rw [List.length_append, List.length_singleton]; omega)).of (by show (s.1 ++ lfX hk ho k) ++ _ = _; rw [List.append_assoc]) rfl (by rw [List.append_assoc]) (N2.tr a2) (N3.tr a3 (fun a h => Or.inl h))
          have hl100 : s.1.length + (lfX hk ho k).length ≤ 100 := by omega
          rcases HN_lf hHk h3 with ⟨k0, h, h40, hv⟩ | ⟨k0, c, hc8, hv⟩ | ⟨k0, c, hck, hv⟩
          · obtain ⟨n1, n2, n3, n4⟩ := num_c h h40
            have elf : lfX hk ho k = numX (ho k) := by rw [lfX, if_pos k0]
            rw [if_pos k0, gd_of gog, gd_of gog]
            by_cases c10 : ho k < 10
            · have enx : numX (ho k) = [48 + (ho k - ho k / 10 * 10)] := by rw [numX, if_pos c10]
              rw [elf, enx, List.length_singleton] at hl100
              obtain ⟨M6, x1, x2, x3⟩ := ty139 (k18 := f_L_types_b18 fu) (y := nI S.length) N1 hd hk15 hv h40 (by omega)
              obtain ⟨z1, z2, z3⟩ := ap_nab N1 hd x3
              rw [if_pos c10, x1]
              exact after M6 _ x2 z1 z2 z3 (by rw [elf, enx])
            · have enx : numX (ho k) = [48 + ho k / 10, 48 + (ho k - ho k / 10 * 10)] := by rw [numX, if_neg c10]
              rw [elf, enx] at hl100
              have hl100 : s.1.length + 2 ≤ 100 := hl100
              have hc : ¬ (48 + ho k / 10) < 1 ∧ (48 + ho k / 10) ≤ 255 := by
                rw [hv, n1, n3]
                exact chr_ok (by omega) (by omega)
              obtain ⟨M6, x1, x2, x3⟩ := N1.put hd hc (by omega)
              obtain ⟨z1, z2, z3⟩ := ap_nab N1 hd x3
              obtain ⟨M7, y1, y2, y3⟩ := ty139 (k18 := f_L_types_b18 fu) (y := nI S.length) x2 hd hk15 hv h40 (by show (s.1 ++ [48 + ho k / 10]).length < 100; rw [List.length_append, List.length_singleton]; omega)
              obtain ⟨z4, z5, z6⟩ := ap_nab x2 hd y3
              rw [if_neg c10, x1, bd_s, if_neg (by decide), y1]
              refine after M7 [48 + ho k / 10, 48 + (ho k - ho k / 10 * 10)] ?_ (z1.tr z4) (z2.tr z5 (fun a h => Or.inl h)) (z6.trans z3) (by rw [elf, enx])
              have e : (s.1 ++ [48 + ho k / 10]) ++ [48 + (ho k - ho k / 10 * 10)] = s.1 ++ [48 + ho k / 10, 48 + (ho k - ho k / 10 * 10)] := by simp
              rw [← e]
              exact y2
          · have elf : lfX hk ho k = [97 + ho k] := by rw [lfX, if_neg (by rw [k0]; decide), if_pos k0]
            rw [elf, List.length_singleton] at hl100
            have hc : ¬ (97 + ho k) < 1 ∧ (97 + ho k) ≤ 255 := by
              rw [hv, show (97 : Int32) = nI 97 from rfl, nI_add]
              exact chr_ok (by omega) (by omega)
            obtain ⟨M6, x1, x2, x3⟩ := N1.put hd hc (by omega)
            obtain ⟨z1, z2, z3⟩ := ap_nab N1 hd x3
            rw [if_neg (by rw [k0]; decide), if_neg (by rw [k0]; decide), if_pos k0, f_L_types_b192, gd_of gog, ikk, c4, x1, bd_s]
            exact after M6 _ x2 z1 z2 z3 elf.symm
          · have elf : lfX hk ho k = [65 + ho k] := by rw [lfX, if_neg (by rw [k0]; decide), if_neg (by rw [k0]; decide)]
            rw [elf, List.length_singleton] at hl100
            have hc : ¬ (65 + ho k) < 1 ∧ (65 + ho k) ≤ 255 := by
              rw [hv, show (65 : Int32) = nI 65 from rfl, nI_add]
              exact chr_ok (by omega) (by omega)
            obtain ⟨M6, x1, x2, x3⟩ := N1.put hd hc (by omega)
            obtain ⟨z1, z2, z3⟩ := ap_nab N1 hd x3
            rw [if_neg (by rw [k0]; decide), if_neg (by rw [k0]; decide), if_neg (by rw [k0]; decide), f_L_types_b192, gd_of gog, ikk, c4, x1, bd_s]
            exact after M6 _ x2 z1 z2 z3 elf.symm
        · -- a node with parts
          obtain ⟨d', rfl, vl, vr⟩ := VD_s hH hD v2 h3
          have hk0 : ¬ hk k = 0 := fun q => h3 (by rw [q]; decide)
          have hge : (3 : Int32) ≤ hk k := Int32.not_lt.mp h3
          have lXl := hX_len (hk := hk) (ho := ho) d' (2 * k + 1)
          have svl : SV D [(d', 2 * k + 1)] := fun x hx => Or.inr (by rw [List.mem_singleton.mp hx]; exact ⟨by show ¬ 99 < 2 * k + 1; have := vl.1; omega, vl⟩)
          rw [if_neg hk0, if_pos hge]
          by_cases h33 : hk k = 3
          · have eX : hX hk ho (d' + 1) k = 33 :: hX hk ho d' (2 * k + 1) := by rw [hX, if_neg h3, if_pos h33]
            have eT : hT hk ho (d' + 1) k = nod hk ho k :: hT hk ho d' (2 * k + 1) := by rw [hT, if_neg h3, if_pos h33]
            have em : hm hk (d' + 1) k = 1 + hm hk d' (2 * k + 1) := by rw [hm, if_neg h3, if_pos h33]
            rw [eX, List.length_cons] at htx
            rw [eT, List.length_cons] at hln
            rw [em] at hfu hst
            obtain ⟨M6, x1, x2, x3⟩ := N1.put hd (c := 33) (by decide) (by omega)
            obtain ⟨z1, z2, z3⟩ := ap_nab N1 hd x3
            obtain ⟨z4, z5⟩ := sr_nab (M := M6) (f := f) hd (j := S.length) (v := nI (2 * k + 1))
            rw [if_pos h33, x1, bd_s, gd_of (lx_ok x2.2.1.2.2.2.2 (by omega) (by omega)), bm_e, bi_e, nI_s, show 2 * nI k + 1 = nI (2 * k + 1) by rw [show (2 : Int32) = nI 2 from rfl, nI_mul, nI_s]]
            have hSR : SR (mset M6 sr S.length (nI (2 * k + 1))) sr ((d', 2 * k + 1) :: S) := ⟨ms_eq, (hR5.row z3).set (Nat.le_refl _)⟩
            have sl : stp hk (d', 2 * k + 1) = hm hk d' (2 * k + 1) := if_neg (by show ¬ 99 < 2 * k + 1; have := vl.1; omega)
            have rl : rnd hk ho (d', 2 * k + 1) = hX hk ho d' (2 * k + 1) := if_neg (by show ¬ 99 < 2 * k + 1; have := vl.1; omega)
            have pl : prs hk ho (d', 2 * k + 1) = hT hk ho d' (2 * k + 1) := if_neg (by show ¬ 99 < 2 * k + 1; have := vl.1; omega)
            refine (ih ((d', 2 * k + 1) :: S) _ _ _ (by rw [stpS, sl]; omega) (fun x hx => ?_) (by rw [stpS, sl]; omega) (x2.push hd) hSR ?_ ?_).of ?_ rfl ?_ ((N2.tr z1).tr z4) ((N3.tr z2 (fun a h => Or.inl h)).tr z5 (fun a h => Or.inl h))
            · rcases List.mem_cons.mp hx with q | q
              · exact svl x (by rw [q]; exact List.mem_singleton.mpr rfl)
              · exact hV' x q
            · show (s.1 ++ [33]).length + _ ≤ 100
              rw [rndS_c, rl, List.length_append, List.length_append, List.length_singleton]
              omega
            · rw [prsS_c, pl, List.length_append, List.length_append, List.length_singleton]
              omega
            · show (s.1 ++ [33]) ++ _ = _
              rw [rndS_c, rl, eX, apr, List.cons_append]
            · rw [prsS_c, pl, eT]
              simp
          · have eX : hX hk ho (d' + 1) k = 40 :: (hX hk ho d' (2 * k + 1) ++ opc (hk k) :: (hX hk ho d' (2 * k + 2) ++ [41])) := by rw [hX, if_neg h3, if_neg h33]
            have eT : hT hk ho (d' + 1) k = nod hk ho k :: (hT hk ho d' (2 * k + 1) ++ hT hk ho d' (2 * k + 2)) := by rw [hT, if_neg h3, if_neg h33]
            have em : hm hk (d' + 1) k = 3 + hm hk d' (2 * k + 1) + hm hk d' (2 * k + 2) := by rw [hm, if_neg h3, if_neg h33]
            rw [eX, List.length_cons, List.length_append, List.length_cons, List.length_append, List.length_singleton] at htx
            rw [eT, List.length_cons, List.length_append] at hln
            rw [em] at hfu hst
            obtain ⟨M6, x1, x2, x3⟩ := N1.put hd (c := 40) (by decide) (by omega)
            obtain ⟨z1, z2, z3⟩ := ap_nab N1 hd x3
            have rsr : LR M6 sr 64 := x2.2.1.2.2.2.2
            have rhr : LR M6 hr 16 := x2.2.1.1.2.1
            have hlm := hm_le (hk := hk) d' (2 * k + 1)
            have hlm2 := hm_le (hk := hk) d' (2 * k + 2)
            have lvl := vl.1
            have lvr := vr.1
            -- what is pushed
            have fin : ∀ op : Nat, opc (hk k) = nI op → (op = 43 ∨ op = 45 ∨ op = 42) → TyEnd (f_L_types_b18 fu ap hr og n a b (nI f) sr (nI (S.length + 4)) 1 (mset (mset (mset (mset M6 sr S.length 141) sr (S.length + 1) (nI (2 * k + 2))) sr (S.length + 2) (nI (100 + op))) sr (S.length + 3) (nI (2 * k + 1)))) M ap hr og n a b sr f hk ho s l (hX hk ho (d' + 1) k ++ rndS hk ho S) (hT hk ho (d' + 1) k ++ prsS hk ho S) := by
              intro op hop hop2
              obtain ⟨y1, y2⟩ := sr_nab (M := M6) (f := f) hd (j := S.length) (v := 141)
              obtain ⟨y3, y4⟩ := sr_nab (M := mset M6 sr S.length 141) (f := f) hd (j := S.length + 1) (v := nI (2 * k + 2))
              obtain ⟨y5, y6⟩ := sr_nab (M := mset (mset M6 sr S.length 141) sr (S.length + 1) (nI (2 * k + 2))) (f := f) hd (j := S.length + 2) (v := nI (100 + op))
              obtain ⟨y7, y8⟩ := sr_nab (M := mset (mset (mset M6 sr S.length 141) sr (S.length + 1) (nI (2 * k + 2))) sr (S.length + 2) (nI (100 + op))) (f := f) hd (j := S.length + 3) (v := nI (2 * k + 1))
              have sl : stp hk (d', 2 * k + 1) = hm hk d' (2 * k + 1) := if_neg (by show ¬ 99 < 2 * k + 1; omega)
              have rl : rnd hk ho (d', 2 * k + 1) = hX hk ho d' (2 * k + 1) := if_neg (by show ¬ 99 < 2 * k + 1; omega)
              have pl : prs hk ho (d', 2 * k + 1) = hT hk ho d' (2 * k + 1) := if_neg (by show ¬ 99 < 2 * k + 1; omega)
              have s2 : stp hk (d', 2 * k + 2) = hm hk d' (2 * k + 2) := if_neg (by show ¬ 99 < 2 * k + 2; omega)
              have r2' : rnd hk ho (d', 2 * k + 2) = hX hk ho d' (2 * k + 2) := if_neg (by show ¬ 99 < 2 * k + 2; omega)
              have p2 : prs hk ho (d', 2 * k + 2) = hT hk ho d' (2 * k + 2) := if_neg (by show ¬ 99 < 2 * k + 2; omega)
              have so : stp hk (0, 100 + op) = 1 := if_pos (by show 99 < 100 + op; omega)
              have ro : rnd hk ho (0, 100 + op) = [nI op] := by
                rw [rnd, if_pos (by show 99 < 100 + op; omega), show (0, 100 + op).2 - 100 = op from by show 100 + op - 100 = op; omega]
              have po : prs hk ho (0, 100 + op) = [] := if_pos (by show 99 < 100 + op; omega)
              have sc : stp hk (0, 141) = 1 := rfl
              have rc : rnd hk ho (0, 141) = [41] := rfl
              have pc' : prs hk ho (0, 141) = [] := rfl
              have hst2 : stpS hk ((d', 2 * k + 1) :: (0, 100 + op) :: (d', 2 * k + 2) :: (0, 141) :: S) = hm hk d' (2 * k + 1) + (1 + (hm hk d' (2 * k + 2) + (1 + stpS hk S))) := by rw [stpS, stpS, stpS, stpS, sl, so, s2, sc]
              have hrn : rndS hk ho ((d', 2 * k + 1) :: (0, 100 + op) :: (d', 2 * k + 2) :: (0, 141) :: S) = hX hk ho d' (2 * k + 1) ++ nI op :: (hX hk ho d' (2 * k + 2) ++ 41 :: rndS hk ho S) := by
                rw [rndS_c, rndS_c, rndS_c, rndS_c, rl, ro, r2', rc]
                simp
              have hpr : prsS hk ho ((d', 2 * k + 1) :: (0, 100 + op) :: (d', 2 * k + 2) :: (0, 141) :: S) = hT hk ho d' (2 * k + 1) ++ (hT hk ho d' (2 * k + 2) ++ prsS hk ho S) := by
                rw [prsS_c, prsS_c, prsS_c, prsS_c, pl, po, p2, pc']
                simp
              have hSR6 := hR5.row z3
              have hSR : SR (mset (mset (mset (mset M6 sr S.length 141) sr (S.length + 1) (nI (2 * k + 2))) sr (S.length + 2) (nI (100 + op))) sr (S.length + 3) (nI (2 * k + 1))) sr ((d', 2 * k + 1) :: (0, 100 + op) :: (d', 2 * k + 2) :: (0, 141) :: S) :=
                ⟨ms_eq, by show (mset _ sr (S.length + 3) _).1 sr (S.length + 2) = _; rw [ms_k (by omega)]; exact ms_eq, by show (mset _ sr (S.length + 3) _).1 sr (S.length + 1) = _; rw [ms_k (by omega), ms_k (by omega)]; exact ms_eq, by show (mset _ sr (S.length + 3) _).1 sr S.length = _; rw [ms_k (by omega), ms_k (by omega), ms_k (by omega)]; exact ms_eq, (((hSR6.set (Nat.le_refl _)).set (by omega)).set (by omega)).set (by omega)⟩
              refine (ih ((d', 2 * k + 1) :: (0, 100 + op) :: (d', 2 * k + 2) :: (0, 141) :: S) _ _ _ (by rw [hst2]; omega) (fun x hx => ?_) (by rw [hst2]; omega) ((((x2.push hd).push hd).push hd).push hd) hSR ?_ ?_).of ?_ rfl ?_ (((((N2.tr z1).tr y1).tr y3).tr y5).tr y7) ((((((N3.tr z2 (fun a h => Or.inl h)).tr y2 (fun a h => Or.inl h)).tr y4 (fun a h => Or.inl h)).tr y6 (fun a h => Or.inl h)).tr y8 (fun a h => Or.inl h)))
              · rcases List.mem_cons.mp hx with q | q
                · exact svl x (by rw [q]; exact List.mem_singleton.mpr rfl)
                · rcases List.mem_cons.mp q with q | q
                  · rw [q]; exact Or.inl ⟨by show 99 < 100 + op; omega, by show 101 ≤ 100 + op; omega, by show 100 + op ≤ 355; omega⟩
                  · rcases List.mem_cons.mp q with q | q
                    · rw [q]; exact Or.inr ⟨by show ¬ 99 < 2 * k + 2; omega, vr⟩
                    · rcases List.mem_cons.mp q with q | q
                      · rw [q]; exact Or.inl ⟨by decide, by decide, by decide⟩
                      · exact hV' x q
              · show (s.1 ++ [40]).length + _ ≤ 100
                rw [hrn, List.length_append, List.length_append, List.length_singleton, List.length_cons, List.length_append, List.length_cons]
                omega
              · rw [hpr, List.length_append, List.length_append, List.length_singleton, List.length_append]
                omega
              · show (s.1 ++ [40]) ++ _ = _
                rw [hrn, apr, eX, hop]
                simp
              · rw [hpr, eT]
                simp
            have i0 : ix (nI S.length) = S.length := ixN (by omega)
            have i1 : ix (nI (S.length + 1)) = S.length + 1 := ixN (by omega)
            have i2 : ix (nI (S.length + 2)) = S.length + 2 := ixN (by omega)
            have i3 : ix (nI (S.length + 3)) = S.length + 3 := ixN (by omega)
            have ek2 : 2 * nI k + 2 = nI (2 * k + 2) := by rw [show (2 : Int32) = nI 2 from rfl, nI_mul, nI_add]
            have ek1 : 2 * nI k + 1 = nI (2 * k + 1) := by rw [show (2 : Int32) = nI 2 from rfl, nI_mul, nI_s]
            have p2 : nI S.length + 2 = nI (S.length + 2) := nI_add _ 2
            have p3 : nI S.length + 3 = nI (S.length + 3) := nI_add _ 3
            have p4 : nI S.length + 4 = nI (S.length + 4) := nI_add _ 4
            have b305 : ∀ (M8 : Mem) (t0 : Int32) (op : Nat), LR M8 sr 64 → (100 : Int32) + t0 = nI (100 + op) → f_L_types_b305 (f_L_types_b18 fu) ap hr og n a b (nI f) sr (nI S.length) 1 (nI k) t0 100 (nI S.length + 2) sr M8 = f_L_types_b18 fu ap hr og n a b (nI f) sr (nI (S.length + 4)) 1 (mset (mset M8 sr (S.length + 2) (nI (100 + op))) sr (S.length + 3) (nI (2 * k + 1))) := by
              intro M8 t0 op hr8 ht
              rw [f_L_types_b305, p2, gd_of (lx_ok hr8 (by omega) (by omega)), bm_e, p3, gd_of (lx_ok hr8.set (by omega) (by omega)), bm_e, bi_e, p4, i2, i3, ek1, ht]
            have hkd8 : (mset (mset M6 sr S.length 141) sr (S.length + 1) (nI (2 * k + 2))).1 hr k = hk k := by
              rw [ms_a (Ne.symm w1), ms_a (Ne.symm w1)]
              exact (x2.2.2.1 k hk15).1
            have g8 : lx (mset (mset M6 sr S.length 141) sr (S.length + 1) (nI (2 * k + 2))) hr (nI k) = true := lx_ok rhr.set.set (by omega) (by omega)
            rw [if_neg h33, x1, bd_s, gd_of (lx_ok rsr (by omega) (by omega)), bm_e, nI_s, gd_of (lx_ok rsr.set (by omega) (by omega)), bm_e, i1, ek2, gd_of g8, gd_of g8, hkd8]
            by_cases q4 : hk k = 4
            · rw [if_pos q4, b305 _ 43 43 rsr.set.set rfl]
              exact fin 43 (by rw [opc, if_pos q4]; rfl) (Or.inl rfl)
            · rw [if_neg q4]
              by_cases q5 : hk k = 5
              · rw [if_pos q5, b305 _ 45 45 rsr.set.set rfl]
                exact fin 45 (by rw [opc, if_neg q4, if_pos q5]; rfl) (Or.inr (Or.inl rfl))
              · rw [if_neg q5, b305 _ 42 42 rsr.set.set rfl]
                exact fin 42 (by rw [opc, if_neg q4, if_neg q5]; rfl) (Or.inr (Or.inr rfl))
end TYR
