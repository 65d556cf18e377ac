/-! acts: one act of the law -/
section AW
variable {g x n a b : Nat} {M : Mem}
theorem LST.off (h : LST M g x n a b) {s : S3} {M' : Mem} (hL : LAW M g x n a b s) (hC : RepC M' s) (hO : OKs s) (hV : OKV s.2.1) (hc : OffC M M') : LST M' g x n a b :=
  ⟨s, hL.fr (hc.fr (S := fun _ => False)) id id id id id, hC, hO, hV⟩
theorem b130_ok (hd : DG g x n a b) (h : LST M g x n a b) {t r : Nat} (ht : 0 < t) (ht7 : t ≤ 7) (hr : r < 10000000) : ∃ M', f_L_acts_b130 g (M.1 g 1) (nI t) (nI r - nI r / 7 * 7) 2 1 g M = some (1, M') ∧ LST M' g x n a b ∧ FrL (S5 g x n a b) 200 2000 M M' := by
  have h7 : r % 7 < 7 := Nat.mod_lt _ (by omega)
  have h7t : r % 7 % t ≤ r % 7 := Nat.mod_le _ _
  obtain ⟨v, M', e1, e2, e3, e4, e5⟩ := setPlaces_law hd h (p := 2 + r % 7 % t) (by omega) (by omega)
  obtain ⟨s, hL, -⟩ := id h
  have hg : LR M g 2 := hL.1.1.1.1
  have hz : nz (nI t) = true := by
    rw [nz, Bool.not_eq_true', decide_eq_false_iff_not]
    exact nI_ne0 ht (by omega)
  have e7 : nI r - nI r / 7 * 7 = nI (r % 7) := pk_rem (d := 7) (by omega) (by omega) (by omega)
  have et : nI (r % 7) - nI (r % 7) / nI t * nI t = nI (r % 7 % t) := pk_rem (by omega) ht (by omega)
  have ep : (2 : Int32) + nI (r % 7 % t) = nI (2 + r % 7 % t) := nI_add 2 _
  refine ⟨M', ?_, e4, e5.mono (fun c h => Or.inl h) (by omega) (by omega)⟩
  rw [f_L_acts_b130, gd_of hz, gd_of (lx_1 hg (by omega) (by omega)), bm_e, e7, et, ep, show ix 1 = 1 from rfl, gd_of (lx_1 hg.set (by omega) (by omega)), ms_eq, bk_ok e1 e3, e2, if_pos rfl]
  rfl
set_option maxHeartbeats 1000000 in
theorem acts_law (hd : DG g x n a b) (h : LST M g x n a b) (x6 : Int32) : ∃ M', f_L_acts g x n a b x6 M = some (1, M') ∧ LST M' g x n a b ∧ FrL (S5 g x n a b) 200 2000 M M' := by
  obtain ⟨r, hr, er⟩ := low_ok (x6 >>> (5 &&& 31)) (n := 10000000) (by omega) (by omega) M
  obtain ⟨w, hw, ew⟩ := low_ok x6 (n := 12) (by omega) (by omega) M
  have er' : f_L_low (x6 >>> (5 &&& 31)) 10000000 M = some (nI r, M) := er
  have ew' : f_L_low x6 12 M = some (nI w, M) := ew
  have c3 : (3 : Int32) = nI 3 := rfl
  have c6 : (6 : Int32) = nI 6 := rfl
  have c8 : (8 : Int32) = nI 8 := rfl
  rw [f_L_acts, er', bd_s, ew', bd_s]
  by_cases h3 : 3 ≤ w
  · rw [if_pos (show (3 : Int32) ≤ nI w from nI_le (a := 3) h3 (by omega))]
    by_cases h6 : 6 ≤ w
    · rw [if_pos (show (6 : Int32) ≤ nI w from nI_le (a := 6) h6 (by omega))]
      by_cases h8 : 8 ≤ w
      · -- turn
        rw [if_pos (show (8 : Int32) ≤ nI w from nI_le (a := 8) h8 (by omega))]
        obtain ⟨s, hL, hC, hO, hV⟩ := id h
        obtain ⟨⟨⟨⟨q1, q2, q3, q4⟩, g0, lf⟩, q5, cx⟩, g1⟩ := id hL
        have h4 := hV.1.1
        have hks := hO.2.2.1
        have hlen0 : 0 < s.2.1.1.length := h4.1
        have ef : nI r - nI r / nI s.2.1.1.length * nI s.2.1.1.length = nI (r % s.2.1.1.length) := pk_rem (by omega) hlen0 (by omega)
        have hf : r % s.2.1.1.length < s.2.1.1.length := Nat.mod_lt _ hlen0
        generalize r % s.2.1.1.length = f at ef hf
        have h15 := (hV.1.2 f hf).2.1
        have e4 : nI r / 4 = nI (r / 4) := pk_div (d := 4) (by omega) (by omega) (by omega)
        have hk : r / 4 % ((gf s.2.1.1 f).length + 1) < (gf s.2.1.1 f).length + 1 := Nat.mod_lt _ (by omega)
        have ek : nI (r / 4) - nI (r / 4) / nI ((gf s.2.1.1 f).length + 1) * nI ((gf s.2.1.1 f).length + 1) = nI (r / 4 % ((gf s.2.1.1 f).length + 1)) := pk_rem (by omega) (by omega) (by omega)
        generalize r / 4 % ((gf s.2.1.1 f).length + 1) = k at ek hk
        have hz1 : nz (nI s.2.1.1.length) = true := by
          rw [nz, Bool.not_eq_true', decide_eq_false_iff_not]
          exact nI_ne0 hlen0 (by omega)
        have hz2 : nz (nI ((gf s.2.1.1 f).length + 1)) = true := by
          rw [nz, Bool.not_eq_true', decide_eq_false_iff_not]
          exact nI_ne0 (by omega) (by omega)
        have gn : lx M n (nI f) = true := lx_ok q2 (by omega) (by omega)
        have hif : ix (nI f) = f := ixN (by omega)
        have hik : ix (nI k) = k := ixN (by omega)
        have hisF : isF s.2.1.1 (nI f) = true := isF_nI hf (by omega)
        have z0 : M.1 g (ix 0) = nI s.2.1.1.length := g0
        have zn : M.1 n (ix (nI f)) = nI (gf s.2.1.1 f).length := by rw [hif]; exact (lf f hf).1
        rw [gd_of (lx_0 q1 (by omega) (by omega)), z0, gd_of hz1, bi_e, ef, gd_of gn, zn, nI_s, gd_of hz2, bi_e, e4, ek, gd_of gn, bi_e]
        by_cases ck : k = (gf s.2.1.1 f).length
        · -- no such node
          obtain ⟨M7, y1, y2, y3⟩ := c_turn hC hO (nI f) (nI k)
          have hsp : sp_turn (nI f) (nI k) s = (-1000001, s) := by
            rw [sp_turn, if_pos hisF, if_neg (by rw [hif, hik, Bool.and_eq_true, decide_eq_true_eq]; omega)]
          rw [hsp] at y1 y2
          have f7 : FrL (fun _ => False) 0 0 M M7 := y3.fr
          have q17 : LR M7 g 2 := q1.fr f7
          have z7 : M7.1 g (ix 0) = nI s.2.1.1.length := by rw [show ix 0 = 0 from rfl, f7.row q1.lt id]; exact g0
          obtain ⟨M8, w1, w2, w3⟩ := c_turn y2 hO (nI s.2.1.1.length) 0
          have hsp2 : sp_turn (nI s.2.1.1.length) 0 s = (-1000001, s) := by
            rw [sp_turn, if_neg (by rw [isF_out (by omega)]; decide)]
          rw [hsp2] at w1 w2
          have f8 : FrL (fun _ => False) 0 0 M7 M8 := w3.fr
          have f78 : FrL (S5 g x n a b) 0 0 M M8 := (f7.mono (S' := S5 g x n a b) (fun c h => absurd h id) (Nat.le_refl _) (Nat.le_refl _)).tr f8 (fun c h => absurd h id)
          refine ⟨M8, ?_, ⟨s, (hL.fr f7 id id id id id).fr f8 id id id id id, w2, hO, hV⟩, f78.mono (fun c h => Or.inl h) (by omega) (by omega)⟩
          rw [if_pos (by rw [ck]), bk_ok y1 y3, if_pos rfl, gd_of (lx_0 q17 (by omega) (by omega)), z7, bk_ok w1 w3, if_pos rfl]
          rfl
        · have hkl : k < (gf s.2.1.1 f).length := by omega
          have e16 : (16 : Int32) * nI f = nI (16 * f) := nI_mul 16 f
          have ga : lx M a (nI (16 * f + k)) = true := lx_ok q3 (by omega) (by omega)
          have za : M.1 a (ix (nI (16 * f + k))) = (nd (gf s.2.1.1 f) k).1 := by rw [ixN (by omega)]; exact ((lf f hf).2 k hkl).1
          rw [if_neg (fun q => ck ((nI_eq (by omega) (by omega)).mp q)), e16, nI_add, gd_of ga, za]
          by_cases h4' : (nd (gf s.2.1.1 f) k).1 = 4
          · rw [if_pos h4']
            exact turn_law hd hL hC hO hV hf hkl (Or.inl h4')
          · rw [if_neg h4', gd_of ga]
            by_cases h6' : (nd (gf s.2.1.1 f) k).1 = 6
            · rw [if_pos h6']
              exact turn_law hd hL hC hO hV hf hkl (Or.inr h6')
            · obtain ⟨M7, y1, y2, y3⟩ := c_turn hC hO (nI f) (nI k)
              have hsp : sp_turn (nI f) (nI k) s = (-1000002, s) := by
                rw [sp_turn, if_pos hisF, if_pos (isop_k hks hf hkl), hif, hik, if_neg (by rintro (q | q); exact h4' q; exact h6' q)]
              rw [hsp] at y1 y2
              have f7 : FrL (S5 g x n a b) 0 0 M M7 := y3.fr
              refine ⟨M7, ?_, ⟨s, hL.fr (y3.fr (S := fun _ => False)) id id id id id, y2, hO, hV⟩, f7.mono (fun c h => Or.inl h) (by omega) (by omega)⟩
              rw [if_neg h6', bk_ok y1 y3, if_pos rfl]
              rfl
      · -- setPlaces
        rw [if_neg (show ¬ (8 : Int32) ≤ nI w from nI_ge (b := 8) (by omega) (by omega))]
        obtain ⟨s, hL, -⟩ := id h
        rw [gd_of (lx_1 hL.1.1.1.1 (by omega) (by omega)), bi_e]
        split
        · exact b130_ok hd h (t := 7) (by omega) (by omega) hr
        · exact b130_ok hd h (t := 3) (by omega) (by omega) hr
    · -- setCell
      rw [if_neg (show ¬ (6 : Int32) ≤ nI w from nI_ge (b := 6) (by omega) (by omega))]
      have hc : r % 8 < 8 := Nat.mod_lt _ (by omega)
      have hm : r / 8 % 1999 < 1999 := Nat.mod_lt _ (by omega)
      obtain ⟨v, M', e1, e2, e3, e4, e5⟩ := setCell_law hd h hc hm
      obtain ⟨s, hL, -⟩ := id h
      have hx : LR M x 8 := hL.1.2.1
      have k8 : nI r - nI r / 8 * 8 = nI (r % 8) := pk_rem (d := 8) (by omega) (by omega) (by omega)
      have d8 : nI r / 8 = nI (r / 8) := pk_div (d := 8) (by omega) (by omega) (by omega)
      have m9 : nI (r / 8) - nI (r / 8) / 1999 * 1999 = nI (r / 8 % 1999) := pk_rem (d := 1999) (by omega) (by omega) (by omega)
      have ic : ix (nI (r % 8)) = r % 8 := ixN (by omega)
      have gx : lx M x (nI (r % 8)) = true := lx_ok hx hc (by omega)
      have gx' : ∀ z, lx (mset M x (r % 8) z) x (nI (r % 8)) = true := fun z => lx_ok hx.set hc (by omega)
      refine ⟨M', ?_, e4, e5.mono (fun c h => Or.inl h) (by omega) (by omega)⟩
      rw [k8, bi_e, gd_of gx, bi_e, gd_of gx, bm_e, d8, m9, ic, gd_of (gx' _), ms_eq, bk_ok e1 e3, e2, if_pos rfl]
      rfl
  · -- reads
    rw [if_neg (show ¬ (3 : Int32) ≤ nI w from nI_ge (b := 3) (by omega) (by omega))]
    obtain ⟨M', e1, e2, e3⟩ := reads_ok hd h (z := r) (by omega)
    refine ⟨M', ?_, e2, e3.mono (fun c h => Or.inl h) (by omega) (by omega)⟩
    rw [e1, bd_s]
    rfl
end AW
