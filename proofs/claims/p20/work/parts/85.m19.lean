/-! reads: the sheet is typed, read and held -/
abbrev K4b (ap n a b : Nat) : Nat → Prop := fun c => c = ap ∨ c = n ∨ c = a ∨ c = b
section TYO
variable {ap hr og n a b f D kn : Nat} {hk ho : Nat → Int32} {s : S3} {M : Mem}
theorem types_ok (hH : HPf hk ho D kn) (hD : D ≤ 3) (hkn : kn ≤ 5) (hf : f < 4) (hd : DI ap hr og n a b (M.2 5)) (hC : RepC M s) (hO : OKs s) (hap : M.1 ap 0 = nI s.1.length) (hrows : (LR M ap 1 ∧ LR M hr 16 ∧ LR M og 16) ∧ LR M n 8 ∧ LR M a 64 ∧ LR M b 64) (hTy : TyH M hr og hk ho) (htx : s.1.length + (hX hk ho D 0).length ≤ 100) :
    ∃ M', f_L_types ap hr og n a b (nI f) M = some (1, M') ∧ (RepC M' (s.1 ++ hX hk ho D 0, s.2) ∧ OKs (s.1 ++ hX hk ho D 0, s.2) ∧ M'.1 ap 0 = nI (s.1 ++ hX hk ho D 0).length) ∧ TyF M' n a b f (hT hk ho D 0) ∧ NAB M M' n a b f ∧ FrL (K4b ap n a b) 1 64 M M' := by
  obtain ⟨⟨r1, r2, r3⟩, r4, r5, r6⟩ := hrows
  have h5 : 208 ≤ M.2 5 := by have := r1.lt; omega
  have hF1 : FrL (fun c => c = n) (0 + 1) (0 + 64) M (mnew M 64) := FrL.rf.nw
  have hF2 : FrL (fun c => c = n) (0 + 1) (0 + 64) M (mset (mnew M 64) n f 0) := hF1.set (Or.inl rfl)
  have hsr : LR (mnew M 64) (M.2 5) 64 := LR.nw h5
  obtain ⟨⟨d1, d2, d3, d4, d5, d6⟩, ⟨e1, e2, e3, e4, e5⟩, ⟨g1, g2, g3, g4⟩, ⟨q1, q2, q3⟩, w1, w2⟩ := id hd
  have hS : TS (mset (mnew M 64) n f 0) ap hr og n a b (M.2 5) f hk ho s [] := by
    refine ⟨⟨hC.ck hO ((CK.rf.nw h5).set r4.1), hO, by rw [hF2.row r1.lt d3]; exact hap⟩, ⟨⟨r1.fr hF2, r2.fr hF2, r3.fr hF2⟩, r4.fr hF2, r5.fr hF2, r6.fr hF2, hsr⟩, fun k hk15 => by rw [hF2.row r2.lt (Ne.symm e1), hF2.row r3.lt (Ne.symm e2)]; exact hTy k hk15, ms_eq, fun k hk0 => absurd hk0 (Nat.not_lt_zero _)⟩
  have hm29 := (hm_le (hk := hk) D 0).2
  have hT15 := (hT_len (hk := hk) (ho := ho) D 0).2
  have hp3 : 2 ^ D ≤ 2 ^ 3 := Nat.pow_le_pow_right (by omega) hD
  have es : stpS hk [(D, 0)] = hm hk D 0 := by rw [stpS, stpS, stp, if_neg (by show ¬ 99 < 0; omega)]; rfl
  have er : rndS hk ho [(D, 0)] = hX hk ho D 0 := by rw [rndS_c, rnd, if_neg (by show ¬ 99 < 0; omega)]; exact List.append_nil _
  have ep : prsS hk ho [(D, 0)] = hT hk ho D 0 := by rw [prsS_c, prs, if_neg (by show ¬ 99 < 0; omega)]; exact List.append_nil _
  have hrow : (mset (mnew M 64) n f 0).1 (M.2 5) = fun _ => 0 := by rw [mset_ne (Ne.symm e5)]; exact mnew_1
  obtain ⟨M', x1, x2, x3, x4⟩ := ty_run hH hD hkn hf hd FU [(D, 0)] s [] (mset (mnew M 64) n f 0) (by rw [es, FU_e]; omega) (fun x hx => by
    rw [List.mem_singleton.mp hx]
    exact Or.inr ⟨by show ¬ 99 < 0; omega, by show 0 < 15; omega, by show D ≤ D + 0; omega⟩) (by rw [es]; omega) hS ⟨by rw [hrow]; rfl, trivial⟩ (by rw [er]; exact htx) (by rw [ep, List.length_nil]; omega)
  rw [er, ep] at x2
  obtain ⟨y1, y2, y3, y4⟩ := x2
  refine ⟨M', ?_, y1, y4, ?_, ?_⟩
  · have g0 : lx (mnew M 64) n (nI f) = true := lx_ok (r4.fr hF1) (by omega) (by omega)
    rw [f_L_types, bN_64, gd_of g0, bm_e, ixN (by omega)]
    exact x1
  · refine NAB.tr ⟨fun i hi => ?_, fun p hp => ⟨?_, ?_⟩⟩ x3
    · rw [ms_k hi, mnew_ne (Nat.ne_of_lt r4.lt.2)]
    · rw [hF2.row r5.lt (Ne.symm e3)]
    · rw [hF2.row r6.lt (Ne.symm e4)]
  · exact (hF2.mono (S' := K4b ap n a b) (fun c h => Or.inl (Or.inr (Or.inl h))) (Nat.le_refl _) (Nat.le_refl _)).tr x4 (fun c h => by
      rcases h with h | h | h | h | h
      · exact Or.inl (Or.inl h)
      · exact Or.inl (Or.inr (Or.inl h))
      · exact Or.inl (Or.inr (Or.inr (Or.inl h)))
      · exact Or.inl (Or.inr (Or.inr (Or.inr h)))
      · exact Or.inr (by omega))
end TYO
/-- definitions that are read already -/
def PD (pre : List Int32) (fs : List Fm) : Prop := ∀ (rest : List Int32) (r : Nat), fs.length + r = 5 → pSh (pre ++ rest) 5 0 [] = pSh (pre ++ rest) r pre.length fs
theorem PD.nil : PD [] [] := fun rest r h => by
  have : r = 5 := by rw [List.length_nil] at h; omega
  subst this
  rfl
section PDS
variable {pre : List Int32} {fs : List Fm} {hk ho : Nat → Int32} {D : Nat}
theorem PD.step (h : PD pre fs) (hf : fs.length ≤ 4) (hH : HPf hk ho D fs.length) (hD : D ≤ 3) : PD (pre ++ ((65 + nI fs.length) :: 61 :: (hX hk ho D 0 ++ [59]))) (fs ++ [hT hk ho D 0]) := by
  intro rest r hr
  rw [List.length_append, List.length_singleton] at hr
  have ht : (pre ++ ((65 + nI fs.length) :: 61 :: (hX hk ho D 0 ++ [59]))) ++ rest = pre ++ ((65 + nI fs.length) :: 61 :: (hX hk ho D 0 ++ 59 :: rest)) := by simp
  rw [ht, h _ (r + 1) (by omega), pSh]
  have d0 : (pre ++ ((65 + nI fs.length) :: 61 :: (hX hk ho D 0 ++ 59 :: rest))).drop pre.length = (65 + nI fs.length) :: 61 :: (hX hk ho D 0 ++ 59 :: rest) := List.drop_left
  obtain ⟨s1, s2⟩ := sg_c d0
  obtain ⟨s3, s4⟩ := sg_c s2
  obtain ⟨p1, p2⟩ := par_top (fm := fs.length) hH hD (by omega) s4 (Or.inl rfl)
  have p2' : sg (pre ++ ((65 + nI fs.length) :: 61 :: (hX hk ho D 0 ++ 59 :: rest))) (pre.length + 2 + (hX hk ho D 0).length) = 59 := p2
  have p1' : pTop (pre ++ ((65 + nI fs.length) :: 61 :: (hX hk ho D 0 ++ 59 :: rest))) fs.length (pre.length + 2) = (true, pre.length + 2 + (hX hk ho D 0).length, hT hk ho D 0) := p1
  rw [if_pos s1, if_pos s3, p1', if_neg (by intro h; cases h), if_pos p2']
  congr 1
  simp
  omega
theorem PD.fin (h : PD pre fs) (hf : fs.length ≤ 4) (hH : HPf hk ho D fs.length) (hD : D ≤ 3) : (pSh (pre ++ hX hk ho D 0) 5 0 []).1 = true ∧ (pSh (pre ++ hX hk ho D 0) 5 0 []).2.2 = fs ++ [hT hk ho D 0] := by
  obtain ⟨r, hr⟩ : ∃ r, fs.length + (r + 1) = 5 := ⟨4 - fs.length, by omega⟩
  obtain ⟨c, x, hc, hne⟩ := hX_first (hk := hk) (ho := ho) (D := D) (fm := fs.length) hH hf
  have d0 : (pre ++ hX hk ho D 0).drop pre.length = c :: x := by rw [List.drop_left, hc]
  obtain ⟨s1, s2⟩ := sg_c d0
  obtain ⟨p1, p2⟩ := par_top (tx := pre ++ hX hk ho D 0) (i := pre.length) (rest := []) (fm := fs.length) hH hD (by omega) (by rw [List.drop_left, List.append_nil]) (Or.inr rfl)
  have p2' : sg (pre ++ hX hk ho D 0) (pre.length + (hX hk ho D 0).length) = 0 := p2
  rw [h _ (r + 1) hr, pSh, if_neg (by rw [s1]; exact hne), pEnd, p1, if_pos ⟨rfl, p2'⟩]
  exact ⟨rfl, rfl⟩
end PDS
