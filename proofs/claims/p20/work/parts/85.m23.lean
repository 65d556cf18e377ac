/-! turn: the law's rows, the class, its answer -/
section TU
variable {g x n a b f k : Nat} {M : Mem}
theorem OKL_turn {st : St} (hk : OKL st.1) (hf : f < st.1.length) (hkl : k < (gf st.1 f).length) (ha : ar (nd (gf st.1 f) k).1 = 2) : OKL (turnS st f k).1 := by
  obtain ⟨w1, w2, w3⟩ := swp_ok (hk.2 f hf).1 hkl ha
  have hlen : (turnS st f k).1.length = st.1.length := by simp [turnS]
  refine ⟨by rw [hlen]; exact hk.1, fun i hi => ?_⟩
  rw [hlen] at hi
  have e : gf (turnS st f k).1 i = if i = f then swpAt (gf st.1 f) k else gf st.1 i := gf_set hf
  rw [e]
  by_cases c : i = f
  · rw [if_pos c, c]
    refine ⟨w1, by rw [w2]; exact (hk.2 f hf).2.1, fun j hj => ?_⟩
    exact nd_mem.mp (hk.2 f hf).2.2 _ (w3 _ (nd_in hj))
  · rw [if_neg c]
    exact hk.2 i hi
theorem isop_k {s : S3} (hk : OKS s.2.1.1) (hf : f < s.2.1.1.length) (hkl : k < (gf s.2.1.1 f).length) : (!decide (nI k < 0) && decide (ix (nI k) < (gf s.2.1.1 (ix (nI f))).length)) = true := by
  have h6 := hk.1.2
  have h30 := (hk.2 f hf).2.1
  rw [ixN (by omega), ixN (by omega), Bool.and_eq_true, Bool.not_eq_true', decide_eq_false_iff_not, decide_eq_true_eq]
  exact ⟨nI_pos (by omega), hkl⟩
set_option maxHeartbeats 1000000 in
theorem turn_law {s : S3} (hd : DG g x n a b) (hL : LAW M g x n a b s) (hC : RepC M s) (hO : OKs s) (hV : OKV s.2.1) (hf : f < s.2.1.1.length) (hkl : k < (gf s.2.1.1 f).length) (hop : (nd (gf s.2.1.1 f) k).1 = 4 ∨ (nd (gf s.2.1.1 f) k).1 = 6) :
    ∃ M', f_L_acts_b264 g x n a b (nI f) (nI k) (nI (16 * f)) M = some (1, M') ∧ LST M' g x n a b ∧ FrL (S5 g x n a b) 200 2000 M M' := by
  have h4 := hV.1.1.2
  have hks := hO.2.2.1
  have h15 := (hV.1.2 f hf).2.1
  have har : ar (nd (gf s.2.1.1 f) k).1 = 2 := ar_op hop
  obtain ⟨d1, d2, d3, d4⟩ := hd
  obtain ⟨⟨l1, l2, l3, l4, l5⟩, h5⟩ := hL.1.lt
  obtain ⟨⟨⟨⟨q1, q2, q3, q4⟩, g0, lf⟩, q5, cx⟩, g1⟩ := id hL
  obtain ⟨r1, r2, s1, s2, s3, s4, s5⟩ := swp_parts (hV.1.2 f hf).1 hkl har
  have hA : ∀ j, j < (gf s.2.1.1 f).length → M.1 a (16 * f + j) = (nd (gf s.2.1.1 f) j).1 := fun j hj => ((lf f hf).2 j hj).1
  have hdrop : (gf s.2.1.1 f).drop ((gf s.2.1.1 f).length - r1.length) = r1 := by
    obtain ⟨z1, z2⟩ := skp_len s1
    rw [List.length_drop, List.drop_drop] at z2
    rw [List.length_drop] at z1
    rw [show (gf s.2.1.1 f).length - r1.length = k + 1 + ((gf s.2.1.1 f).length - (k + 1) - r1.length) by omega]
    exact z2
  generalize hle : (gf s.2.1.1 f).length - r1.length = le at s3 s4 s5 hdrop
  generalize hen : (gf s.2.1.1 f).length - r2.length = en at s3 s5
  have hen2 : en ≤ (gf s.2.1.1 f).length := by omega
  have p1 : f_L_part a (nI (16 * f)) (nI k + 1) M = some (nI le, M) := by
    rw [nI_s, ← hle]
    exact part_ok q3 (by omega) h15 hA (by omega) s1
  have p2 : f_L_part a (nI (16 * f)) (nI le) M = some (nI en, M) := by
    rw [← hen]
    exact part_ok q3 (by omega) h15 hA (by omega) (by rw [hdrop]; exact s2)
  -- the exchange
  have hF4 : FrL (fun _ => False) 2 (64 * 2) M (mnw M 2) := mnw_fr 2
  have k0 : LR (mnw M 2) (M.2 5) 64 := mnw_lr h5 (i := 0) (by omega)
  have k1 : LR (mnw M 2) (M.2 5 + 1) 64 := mnw_lr h5 (i := 1) (by omega)
  have hABM : ∀ i, i < (gf s.2.1.1 f).length → (mnw M 2).1 a (16 * f + i) = (nd (gf s.2.1.1 f) i).1 ∧ (mnw M 2).1 b (16 * f + i) = bc (nd (gf s.2.1.1 f) i) := fun i hi => by rw [hF4.row q3.lt id, hF4.row q4.lt id]; exact (lf f hf).2 i hi
  have hnek : M.2 5 ≠ M.2 5 + 1 ∧ M.2 5 ≠ a ∧ M.2 5 ≠ b ∧ M.2 5 + 1 ≠ a ∧ M.2 5 + 1 ≠ b := ⟨by omega, by omega, by omega, by omega, by omega⟩
  obtain ⟨M5, e1, e2, e3, e4⟩ := ro306 (g := g) (x := x) (n := n) (a := a) (b := b) (f := f) (k := k) (le := le) (en := en) (kd := M.2 5) (nb := M.2 5 + 1) (by omega) h15 ⟨s4, s5, hen2⟩ hnek FU (k + 1) (mnw M 2) (Nat.le_refl _) (by omega) (by rw [FU_e]; omega) (q3.fr hF4) (q4.fr hF4) k0 k1 hABM (fun i h1 h2 => by omega)
  have hK5 := tox_nd ⟨s4, s5, hen2⟩ e2
  rw [← s3] at hK5
  have hF5 : FrL (fun _ => False) (2 + 0) (64 * 2 + 0) M M5 := hF4.tr e3 (fun c h => Or.inr (by rcases h with h | h <;> omega))
  obtain ⟨fu', M6, b1, b2, b3, b4, b5⟩ := bk381 (g := g) (x := x) (n := n) (a := a) (b := b) (f := f) (k := k) (en := en) (kd := M.2 5) (nb := M.2 5 + 1) (L := swpAt (gf s.2.1.1 f) k) (by omega) (by omega) hnek (by omega) FU (k + 1) M5 (by omega) (by rw [FU_e]; omega) (q3.fr hF5) (q4.fr hF5) (k0.fr e3) (k1.fr e3) hK5
  have hF6 : FrL (S5 g x n a b) (2 + 0 + 0) (64 * 2 + 0 + 0) M M6 := (hF5.mono (S' := S5 g x n a b) (fun c h => absurd h id) (Nat.le_refl _) (Nat.le_refl _)).tr b4 (fun c h => by rcases h with h | h; exact Or.inl (Or.inr (Or.inr (Or.inr (Or.inl h)))); exact Or.inl (Or.inr (Or.inr (Or.inr (Or.inr h)))))
  -- the new sheet
  have hO1 := OKL_turn hV.1 hf hkl har
  have hlen1 : (turnS s.2.1 f k).1.length = s.2.1.1.length := by simp [turnS]
  obtain ⟨w1, w2, w3⟩ := swp_ok (hV.1.2 f hf).1 hkl har
  have ne6 : ∀ q m', LR M q m' → q ≠ a → q ≠ b → M6.1 q = M.1 q := fun q m' hq z1 z2 => by rw [b4.row (hq.fr hF5).lt (fun h => by rcases h with h | h; exact z1 h; exact z2 h), hF5.row hq.lt id]
  have hLF6 : LF M6 n a b (turnS s.2.1 f k).1 := by
    intro i hi
    rw [hlen1] at hi
    have e : gf (turnS s.2.1 f k).1 i = if i = f then swpAt (gf s.2.1.1 f) k else gf s.2.1.1 i := gf_set hf
    rw [e, ne6 n 8 q2 (by omega) (by omega)]
    by_cases c : i = f
    · rw [if_pos c, c, w2]
      refine ⟨(lf f hf).1, fun p hp => ?_⟩
      by_cases cp : k + 1 ≤ p ∧ p < en
      · exact b2 p cp.1 cp.2
      · obtain ⟨z1, z2⟩ := b3 (16 * f + p) (by omega)
        have hsame : nd (swpAt (gf s.2.1.1 f) k) p = nd (gf s.2.1.1 f) p := by
          rw [s3, nd_swp s4 s5 hen2]
          by_cases cq : p < k + 1
          · rw [if_pos cq]
          · rw [if_neg cq, if_neg (by omega), if_neg (by omega)]
        rw [z1, z2, hsame, hF5.row q3.lt id, hF5.row q4.lt id]
        exact (lf f hf).2 p hp
    · rw [if_neg c]
      refine ⟨(lf i hi).1, fun p hp => ?_⟩
      have := (hV.1.2 i hi).2.1
      obtain ⟨z1, z2⟩ := b3 (16 * i + p) (by omega)
      rw [z1, z2, hF5.row q3.lt id, hF5.row q4.lt id]
      exact (lf i hi).2 p hp
  have hL6 : LSX M6 g x n a b (turnS s.2.1 f k) := ⟨⟨⟨q1.fr hF6, q2.fr hF6, q3.fr hF6, q4.fr hF6⟩, by rw [ne6 g 2 q1 (by omega) (by omega), hlen1]; exact g0, hLF6⟩, q5.fr hF6, fun c hc => by rw [ne6 x 8 q5 (by omega) (by omega)]; exact cx c hc⟩
  have hg16 : M6.1 g 1 = s.2.1.2.2 := by rw [ne6 g 2 q1 (by omega) (by omega)]; exact g1
  have h56 : M6.2 5 = M.2 5 + 2 := by have a1 := hF6.2.2.1; have a2 := e3.2.2.1; have a3 := b4.2.2.1; rw [mnw_5] at a2; omega
  -- its expanded form
  have fA : FrL (fun _ => False) 1 (64 * 1) M6 (mnw M6 1) := mnw_fr 1
  have hL7 := hL6.fr fA id id id id id
  have kd6 : LR M6 (M.2 5) 64 := (k0.fr e3).fr b4
  have nb6 : LR M6 (M.2 5 + 1) 64 := (k1.fr e3).fr b4
  have ne7 : LR (mnw M6 1) (M6.2 5) 64 := mnw_lr (by omega) (i := 0) (by omega)
  obtain ⟨M8, x1, x2, x3, x4⟩ := expand_ok (st := turnS s.2.1 f k) (g := g) (n := n) (a := a) (b := b) (f := f) (kd := M.2 5) (nb := M.2 5 + 1) (M := mnw M6 1) hO1 (by rw [hlen1]; exact hf) ⟨by omega, ⟨by omega, by omega, by omega, by omega⟩, ⟨by omega, by omega, by omega, by omega⟩⟩ hL7.1 (kd6.fr fA) (nb6.fr fA) (by rw [mnw_5]; omega)
  have h58 : M6.2 5 + 1 ≤ M8.2 5 := by have := x3.2.2.1.1; rw [mnw_5] at this; exact this
  have fB : FrL (fun _ => False) (0 + 1) (0 + 8) M8 (mnew M8 8) := FrL.rf.nw
  have e58 : (mnew M8 8).2 5 = M8.2 5 + 1 := mnew_5
  have fC : FrL (fun _ => False) 3 (64 * 3) (mnew M8 8) (mnw (mnew M8 8) 3) := mnw_fr 3
  have fD : FrL (fun _ => False) (0 + 1 + 3) (0 + 8 + 64 * 3) M8 (mnw (mnew M8 8) 3) := fB.tr fC (fun c h => Or.inl h)
  have wr8 : LR (mnew M8 8) (M8.2 5) 8 := LR.nw (by omega)
  have wz : (mnw (mnew M8 8) 3).1 (M8.2 5) = fun _ => 0 := by rw [fC.row wr8.lt id]; exact mnew_1
  have hL8 := hL7.fr x3 (fun h => by rcases h with h | h <;> omega) (fun h => by rcases h with h | h <;> omega) (fun h => by rcases h with h | h <;> omega) (fun h => by rcases h with h | h <;> omega) (fun h => by rcases h with h | h <;> omega)
  have hL9 := hL8.fr fD id id id id id
  have kd8 : LR M8 (M.2 5) 64 := (kd6.fr fA).fr x3
  have nb8 : LR M8 (M.2 5 + 1) 64 := (nb6.fr fA).fr x3
  have ne8 : LR M8 (M6.2 5) 64 := ne7.fr x3
  have hK9 : KR (mnw (mnew M8 8) 3) (M.2 5) (M.2 5 + 1) (XX (turnS s.2.1 f k) f).1 := fun p hp => by rw [fD.row kd8.lt id, fD.row nb8.lt id]; exact x2 p hp
  have hf1 : f < (turnS s.2.1 f k).1.length := by rw [hlen1]; exact hf
  obtain ⟨u1, u2, u3, u4⟩ := XX_ok hO1.s hf1
  have hleaf : ∀ i, i < (XX (turnS s.2.1 f k) f).1.length → ar (nd (XX (turnS s.2.1 f k) f).1 i).1 = 0 → vb (lvf s.2.1.2.1 (fun _ => 0) (nd (XX (turnS s.2.1 f k) f).1 i)) := by
    intro i hi h0
    rw [lvf]
    rcases u3 _ (nd_in hi) with ⟨k1, k2, k3⟩ | ⟨k1, cc, k2, k3⟩ | ⟨k1, cc, k2, k3⟩ | ⟨k1, k2⟩
    · rw [k1, if_neg (by decide), if_neg (by decide)]
      have e1 := Int32.le_iff_toInt_le.mp k2
      have e2 := Int32.lt_iff_toInt_lt.mp k3
      have e3 : (0 : Int32).toInt = 0 := by decide +kernel
      have e4 : (1000 : Int32).toInt = 1000 := by decide +kernel
      rw [e3] at e1
      rw [e4] at e2
      exact ⟨by omega, by omega⟩
    · rw [k1, if_pos rfl, k3, ixN (by omega)]
      exact hV.2 cc k2
    · rw [k1, if_neg (by decide), if_pos rfl]
      exact ⟨by decide +kernel, by decide +kernel⟩
    · exfalso
      rcases k1 with k1 | k1 | k1 | k1 <;> rw [k1] at h0 <;> revert h0 <;> decide
  have c9 : 208 ≤ (mnew M8 8).2 5 := by omega
  have z0 : LR (mnw (mnew M8 8) 3) (M8.2 5 + 1) 64 := by have := mnw_lr c9 (k := 3) (i := 0) (by omega); rw [e58] at this; exact this
  have z1 : LR (mnw (mnew M8 8) 3) (M8.2 5 + 2) 64 := by have := mnw_lr c9 (k := 3) (i := 1) (by omega); rw [e58] at this; exact this
  have z2 : LR (mnw (mnew M8 8) 3) (M8.2 5 + 3) 64 := by have := mnw_lr c9 (k := 3) (i := 2) (by omega); rw [e58] at this; exact this
  obtain ⟨M10, t1, t2, t3, t4⟩ := tell_ok (x := x) (w := M8.2 5) (kd := M.2 5) (nb := M.2 5 + 1) (f := f) (cells := s.2.1.2.1) (vals := fun _ => 0) (sz := M8.2 5 + 1) (ne := M6.2 5) (dp := M8.2 5 + 2) (vl := M8.2 5 + 3) (M := mnw (mnew M8 8) 3) u1 u2 (by omega) u3 hleaf ⟨⟨by omega, by omega, by omega⟩, ⟨by omega, by omega⟩, by omega⟩ (fun c h => by rcases h with h | h | h | h <;> exact ⟨by omega, by omega, by omega, by omega⟩) ⟨⟨hL9.2.1, wr8.fr fC, kd8.fr fD, nb8.fr fD⟩, hK9, hL9.2.2, fun c _ => by rw [wz]⟩ ⟨z0, ne8.fr fD, z1, z2⟩
  have hneed : M10.1 (M6.2 5) 0 = nI (need0 (turnS s.2.1 f k) f) := by
    rw [(t2 0 (Nat.le_refl _) (wf_len u1)).2.1, need0, (tr_nd (lv := lvf s.2.1.2.1 fun _ => 0) (lv' := lvS (turnS s.2.1 f k) f) ((XX (turnS s.2.1 f k) f).1.length + 1) 0 (by omega)).2]
  have hL10 := hL9.fr t3 (fun h => by rcases h with h | h | h | h <;> omega) (fun h => by rcases h with h | h | h | h <;> omega) (fun h => by rcases h with h | h | h | h <;> omega) (fun h => by rcases h with h | h | h | h <;> omega) (fun h => by rcases h with h | h | h | h <;> omega)
  -- the class
  have hCK : CK M M10 := (((((((mnw_ck h5 2).tr e4).tr b5).tr (mnw_ck (by omega) 1)).tr x4).tr (CK.rf.nw (by omega))).tr (mnw_ck c9 3)).tr t4
  have hC10 := hC.ck hO hCK
  obtain ⟨M11, y1, y2, y3⟩ := c_turn hC10 hO (nI f) (nI k)
  have hO11 := oks_turn hO (nI f) (nI k)
  have hisF : isF s.2.1.1 (nI f) = true := isF_nI hf (by omega)
  have hif : ix (nI f) = f := ixN (by omega)
  have hik : ix (nI k) = k := ixN (by omega)
  have hsp : sp_turn (nI f) (nI k) s = (nI (need0 (turnS s.2.1 f k) f), (s.1, turnS s.2.1 f k, recH s.2.2 s.2.1)) := by
    rw [sp_turn, if_pos hisF, if_pos (isop_k hks hf hkl), hif, hik, if_pos hop]
  rw [hsp] at y1 y2 hO11
  have f11 : FrL (fun _ => False) 0 0 M10 M11 := y3.fr
  have hF8 : FrL (S5 g x n a b) (2 + 0 + 0 + 1 + 60 * f) (64 * 2 + 0 + 0 + 64 * 1 + 480 * f) M M8 := (hF6.tr fA (fun c h => absurd h id)).tr x3 (fun c h => Or.inr (by rcases h with h | h <;> omega))
  have hF11 : FrL (S5 g x n a b) (2 + 0 + 0 + 1 + 60 * f + (0 + 1 + 3) + 0 + 0) (64 * 2 + 0 + 0 + 64 * 1 + 480 * f + (0 + 8 + 64 * 3) + 0 + 0) M M11 := ((hF8.tr fD (fun c h => absurd h id)).tr t3 (fun c h => Or.inr (by rcases h with h | h | h | h <;> omega))).tr f11 (fun c h => absurd h id)
  have hg110 : M11.1 g 1 = s.2.1.2.2 := by
    rw [f11.row hL10.1.1.1.lt id, t3.row hL9.1.1.1.lt (fun h => by rcases h with h | h | h | h <;> omega), fD.row hL8.1.1.1.lt id, x3.row hL7.1.1.1.lt (fun h => by rcases h with h | h <;> omega), fA.row hL6.1.1.1.lt id]
    exact hg16
  have neL : LR M11 (M6.2 5) 64 := ((ne8.fr fD).fr t3).fr f11
  have hneed11 : M11.1 (M6.2 5) 0 = nI (need0 (turnS s.2.1 f k) f) := by rw [f11.row ((ne8.fr fD).fr t3).lt id]; exact hneed
  refine ⟨M11, ?_, ⟨(s.1, turnS s.2.1 f k, recH s.2.2 s.2.1), ⟨hL10.fr f11 id id id id id, hg110⟩, y2, hO11, hO1, hV.2⟩, hF11.mono (fun c h => Or.inl h) (by omega) (by omega)⟩
  have e1' : f_L_acts_b306 FU g x n a b (nI f) (nI k) (nI (16 * f)) (nI le) (nI en) (M.2 5) ((mnew M 64).2 5) (nI (k + 1)) (mnew (mnew M 64) 64) = _ := e1
  have x1' : f_L_expand g n a b (nI f) (M.2 5) (M.2 5 + 1) (mnew M6 64) = some (nI (XX (turnS s.2.1 f k) f).1.length, M8) := x1
  have t1' : f_L_tell x (M8.2 5) (M.2 5) (M.2 5 + 1) (nI (XX (turnS s.2.1 f k) f).1.length) ((mnew M8 8).2 5) (M6.2 5) ((mnew (mnew M8 8) 64).2 5) ((mnew (mnew (mnew M8 8) 64) 64).2 5) (mnew (mnew (mnew (mnew M8 8) 64) 64) 64) = some ((), M10) := t1
  rw [f_L_acts_b264, p1, bd_s, p2, bd_s, bN_64, bN_64, bi_e, nI_s, e1', b1, f_L_acts_b381, if_pos (nI_le (Nat.le_refl _) (by omega)), bN_64, x1', bd_s, bN_8, bN_64, bN_64, bN_64, t1', bd_s, bk_ok y1 y3, gd_of (lx_0 neL (by omega) (by omega)), show ix 0 = 0 from rfl, hneed11, if_pos rfl]
  rfl
end TU
