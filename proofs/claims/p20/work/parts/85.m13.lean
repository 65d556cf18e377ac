/-! isSo answers 1 -/
/-- the law's rows agree with the class's state -/
def LAW (M : Mem) (g x n a b : Nat) (s : S3) : Prop := LSX M g x n a b s.2.1 ∧ M.1 g 1 = s.2.1.2.2
theorem LAW.fr {S : Nat → Prop} {c w g x n a b : Nat} {s : S3} {M M' : Mem} (h : LAW M g x n a b s) (hf : FrL S c w M M') (h1 : ¬ S g) (h2 : ¬ S n) (h3 : ¬ S a) (h4 : ¬ S b) (h5 : ¬ S x) : LAW M' g x n a b s := ⟨h.1.fr hf h1 h2 h3 h4 h5, by rw [hf.row h.1.1.1.1.lt h1]; exact h.2⟩
theorem UR.fr {S : Nat → Prop} {c w u : Nat} {F : Nat → Nat} {M M' : Mem} (h : UR M u F) (hr : LR M u 8) (hf : FrL S c w M M') (h1 : ¬ S u) : UR M' u F := fun c hc => by rw [hf.row hr.lt h1]; exact h c hc
theorem WV.fr {S : Nat → Prop} {c w0 w k : Nat} {st : St} {M M' : Mem} (h : WV M w st k) (hr : LR M w 8) (hf : FrL S c w0 M M') (h1 : ¬ S w) : WV M' w st k := fun c hc => by rw [hf.row hr.lt h1]; exact h c hc
section SO2
variable {s : S3} {g x n a b w u : Nat}
theorem so39 (hk : OKV s.2.1) (hO : OKs s) (hne : u ≠ g ∧ u ≠ n ∧ u ≠ a ∧ u ≠ b ∧ u ≠ x ∧ u ≠ w) : ∀ (fu f : Nat) (M : Mem), f ≤ s.2.1.1.length → s.2.1.1.length - f < fu → LAW M g x n a b s → LR M w 8 → WV M w s.2.1 s.2.1.1.length → LR M u 8 → UR M u (fun c => sumN (usF s.2.1 c) f) → RepC M s →
    ∃ M', f_L_isSo_b39 fu g x n a b w u (nI (sumN (chN s.2.1) f)) (nI (sumN (fun i => (gf s.2.1.1 i).length) f)) (nI (maxN (ndF s.2.1) f)) 1 (nI f) M = some (1, M') ∧ RepC M' s ∧ FrL (fun c => c = u) (380 * (s.2.1.1.length - f)) (3700 * (s.2.1.1.length - f)) M M' := by
  have h4 := hk.1.1.2
  have hks := hO.2.2.1
  intro fu
  induction fu with
  | zero => intro f M _ h; omega
  | succ fu ih =>
    intro f M hfl hfu hL hRw hW hRu hU hC
    obtain ⟨⟨l1, l2, l3, l4, l5⟩, h5⟩ := hL.1.lt
    have lw := hRw.lt
    have lu := hRu.lt
    rw [f_L_isSo_b39, gd_of (lx_0 hL.1.1.1.1 (by omega) (by omega)), show M.1 g (ix 0) = nI s.2.1.1.length from hL.1.1.2.1]
    by_cases c : f = s.2.1.1.length
    · subst c
      rw [if_pos (nI_le (Nat.le_refl _) (by omega)), f_L_isSo_b245]
      refine ⟨M, ?_, hC, FrL.rf.mono (fun a h => Or.inl h) (Nat.zero_le _) (Nat.zero_le _)⟩
      exact so248 hk.1 hC hO hL.1.1.1.1 hL.1.1.2.1 hRu hU (so293 hC hL.1.2.1 hL.1.2.2 (so331 hk.1 hC hO hL.1.1.1.1 hL.1.1.2.1 hL.2) FU 0 (Nat.zero_le _) (by rw [FU_e]; omega)) FU 0 (Nat.zero_le _) (by rw [FU_e]; omega)
    · have hf : f < s.2.1.1.length := by omega
      have hF3 : FrL (fun c => c = u) 3 192 M (mnw M 3) := mnw_fr 3
      have hF3' : FrL (fun _ => False) 3 192 M (mnw M 3) := mnw_fr 3
      have hL3 := hL.fr hF3' id id id id id
      obtain ⟨w1, w2, w3, w4⟩ := XX_ok hks hf
      obtain ⟨v1, v2⟩ := lvS_vb hk f hf
      have hw0 := wf_len w1
      obtain ⟨M4, e1, e2, e3, e4⟩ := expand_ok (kd := M.2 5) (nb := M.2 5 + 1) (M := mnw M 3) hk.1 hf ⟨by omega, ⟨by omega, by omega, by omega, by omega⟩, ⟨by omega, by omega, by omega, by omega⟩⟩ hL3.1.1 (mnw_lr h5 (i := 0) (by omega)) (mnw_lr h5 (i := 1) (by omega)) (by rw [mnw_5]; omega)
      have h45 : M.2 5 + 3 ≤ M4.2 5 := by
        have := e3.2.2.1.1
        rw [mnw_5] at this
        exact this
      have hL4 := hL3.fr e3 (fun h => by rcases h with h | h <;> omega) (fun h => by rcases h with h | h <;> omega) (fun h => by rcases h with h | h <;> omega) (fun h => by rcases h with h | h <;> omega) (fun h => by rcases h with h | h <;> omega)
      obtain ⟨M5, c1, c2, c3⟩ := isCheap_ok (d := f) (M := M4) hk.1 hf hL4.1.1 (by omega)
      have h55 : M.2 5 + 3 ≤ M5.2 5 := Nat.le_trans h45 c2.2.2.1.1
      have hL5 := hL4.fr c2 id id id id id
      have hF4 : FrL (fun c => c = u) (3 + 60 * f) (192 + 480 * f) M M4 := hF3.tr e3 (fun a h => Or.inr (by rcases h with h | h <;> omega))
      have hF5 : FrL (fun c => c = u) (3 + 60 * f + 1) (192 + 480 * f + 8) M M5 := hF4.tr c2 (fun a h => absurd h id)
      have f3 : FrL (fun _ => False) 3 (64 * 3) M5 (mnw M5 3) := mnw_fr 3
      have hF8 : FrL (fun c => c = u) (3 + 60 * f + 1 + 3) (192 + 480 * f + 8 + 64 * 3) M (mnw M5 3) := hF5.tr f3 (fun a h => absurd h id)
      have hL8 := hL5.fr f3 id id id id id
      -- rows seen through these steps
      have thru : ∀ q m, LR M q m → q ≠ M.2 5 ∧ q ≠ M.2 5 + 1 → LR (mnw M5 3) q m ∧ (mnw M5 3).1 q = M.1 q := by
        intro q m hq hqn
        have q3 := hq.fr hF3'
        have q4 := q3.fr e3
        have q5 := q4.fr c2
        exact ⟨q5.fr f3, by rw [f3.row q5.lt id, c2.row q4.lt id, e3.row q3.lt (fun h => by rcases h with h | h; exact hqn.1 h; exact hqn.2 h), hF3'.row hq.lt id]⟩
      obtain ⟨hRw8, hrw8⟩ := thru w 8 hRw ⟨by omega, by omega⟩
      obtain ⟨hRu8, hru8⟩ := thru u 8 hRu ⟨by omega, by omega⟩
      have kr5 : ∀ i, i < 3 → LR M5 (M.2 5 + i) 64 := fun i hi => ((mnw_lr h5 (k := 3) hi).fr e3).fr c2
      have k0 : LR M5 (M.2 5) 64 := kr5 0 (by omega)
      have k1 : LR M5 (M.2 5 + 1) 64 := kr5 1 (by omega)
      have k2 : LR M5 (M.2 5 + 2) 64 := kr5 2 (by omega)
      have k04 : LR M4 (M.2 5) 64 := (mnw_lr h5 (k := 3) (i := 0) (by omega)).fr e3
      have k14 : LR M4 (M.2 5 + 1) 64 := (mnw_lr h5 (k := 3) (i := 1) (by omega)).fr e3
      have hK8 : KR (mnw M5 3) (M.2 5) (M.2 5 + 1) (XX s.2.1 f).1 := fun p hp => by
        rw [f3.row k0.lt id, f3.row k1.lt id, c2.row k04.lt id, c2.row k14.lt id]
        exact e2 p hp
      obtain ⟨M9, t1, t2, t3, t4⟩ := tell_ok (sz := M5.2 5) (ne := M.2 5 + 2) (dp := M5.2 5 + 1) (vl := M5.2 5 + 2) w1 w2 (by omega) w3 v1 ⟨⟨by omega, by omega, by omega⟩, ⟨by omega, by omega⟩, by omega⟩ (fun c h => by rcases h with h | h | h | h <;> exact ⟨by omega, by omega, by omega, by omega⟩) (tin_of hL8.1 hRw8 (fun c hc => by rw [hrw8]; exact hW c (by omega)) (k0.fr f3) (k1.fr f3) hK8) ⟨mnw_lr (by omega) (i := 0) (by omega), k2.fr f3, mnw_lr (by omega) (i := 1) (by omega), mnw_lr (by omega) (i := 2) (by omega)⟩
      have notK : ∀ q, q < M.2 5 → ¬ K4 (M5.2 5) (M.2 5 + 2) (M5.2 5 + 1) (M5.2 5 + 2) q := fun q hq h => by rcases h with h | h | h | h <;> omega
      have hF9 : FrL (fun c => c = u) (3 + 60 * f + 1 + 3 + 0) (192 + 480 * f + 8 + 64 * 3 + 0) M M9 := hF8.tr t3 (fun a h => Or.inr (by rcases h with h | h | h | h <;> omega))
      have hL9 := hL8.fr t3 (notK _ l1) (notK _ l2) (notK _ l3) (notK _ l4) (notK _ l5)
      have hRw9 := hRw8.fr t3
      have hRu9 := hRu8.fr t3
      have hrw9 : M9.1 w = M.1 w := by rw [t3.row hRw8.lt (notK _ lw.2), hrw8]
      have hru9 : M9.1 u = M.1 u := by rw [t3.row hRu8.lt (notK _ lu.2), hru8]
      have hW9 : WV M9 w s.2.1 s.2.1.1.length := fun c hc => by rw [hrw9]; exact hW c hc
      have hU9 : UR M9 u (fun c => sumN (usF s.2.1 c) f) := fun c hc => by rw [hru9]; exact hU c hc
      have hC9 : RepC M9 s := hC.ck hO (((((mnw_ck h5 3).tr e4).tr c3).tr (mnw_ck (by omega) 3)).tr t4)
      have k09 : LR M9 (M.2 5) 64 := (k0.fr f3).fr t3
      have k19 : LR M9 (M.2 5 + 1) 64 := (k1.fr f3).fr t3
      have k29 : LR M9 (M.2 5 + 2) 64 := (k2.fr f3).fr t3
      have hK9 : KR M9 (M.2 5) (M.2 5 + 1) (XX s.2.1 f).1 := fun p hp => by
        rw [t3.row (k0.fr f3).lt (fun h => by rcases h with h | h | h | h <;> omega), t3.row (k1.fr f3).lt (fun h => by rcases h with h | h | h | h <;> omega)]
        exact hK8 p hp
      have hneed : M9.1 (M.2 5 + 2) 0 = nI (need0 s.2.1 f) := (t2 0 (Nat.le_refl _) hw0).2.1
      have hnf : ∀ M10 : Mem, LAW M10 g x n a b s → M10.1 n (ix (nI f)) = nI (gf s.2.1.1 f).length ∧ lx M10 n (nI f) = true := fun M10 h => ⟨by rw [ixN (by omega)]; exact (h.1.1.2.2 f hf).1, lx_ok h.1.1.1.2.1 (by omega) (by omega)⟩
      have hsz1 : sumN (fun i => (gf s.2.1.1 i).length) (f + 1) = sumN (fun i => (gf s.2.1.1 i).length) f + (gf s.2.1.1 f).length := rfl
      -- the rest of a round
      have rest : ∀ M10 : Mem, FrL (fun c => c = u) 0 0 M9 M10 → UR M10 u (fun c => sumN (usF s.2.1 c) (f + 1)) → RepC M10 s → ∃ M', f_L_isSo_b220 (f_L_isSo_b39 fu) g x n a b w u (nI (sumN (chN s.2.1) (f + 1))) (nI (sumN (fun i => (gf s.2.1.1 i).length) (f + 1))) (nI f) (nI (maxN (ndF s.2.1) (f + 1))) M10 = some (1, M') ∧ RepC M' s ∧ FrL (fun c => c = u) (380 * (s.2.1.1.length - f)) (3700 * (s.2.1.1.length - f)) M M' := by
        intro M10 hF hU10 hC10
        have hL10 := hL9.fr hF (Ne.symm hne.1) (Ne.symm hne.2.1) (Ne.symm hne.2.2.1) (Ne.symm hne.2.2.2.1) (Ne.symm hne.2.2.2.2.1)
        have hRw10 := hRw9.fr hF
        have hW10 := hW9.fr hRw9 hF (Ne.symm hne.2.2.2.2.2)
        have hRu10 := hRu9.fr hF
        obtain ⟨M11, i1, i2, i3⟩ := isFormula_law hk hC10 hO hf hL10.1 hRw10 hW10
        rw [f_L_isSo_b220, i1, bd_s, bi_e, nI_s]
        obtain ⟨M', j1, j2, j3⟩ := ih (f + 1) M11 (by omega) (by omega) (hL10.fr i3 id id id id id) (hRw10.fr i3) (hW10.fr hRw10 i3 id) (hRu10.fr i3) (hU10.fr hRu10 i3 id) i2
        exact ⟨M', j1, j2, (((hF9.tr hF (fun a h => Or.inl h)).tr i3 (fun a h => absurd h id)).tr j3 (fun a h => Or.inl h)).mono (fun a h => Or.inl h) (by omega) (by omega)⟩
      rw [if_neg (nI_ge hf (by omega)), if_neg (by decide), bN_64, bN_64, bN_64]
      have e1' : f_L_expand g n a b (nI f) (M.2 5) ((mnew M 64).2 5) (mnew (mnew (mnew M 64) 64) 64) = some (nI (XX s.2.1 f).1.length, M4) := e1
      have t1' : f_L_tell x w (M.2 5) ((mnew M 64).2 5) (nI (XX s.2.1 f).1.length) (M5.2 5) ((mnew (mnew M 64) 64).2 5) ((mnew M5 64).2 5) ((mnew (mnew M5 64) 64).2 5) (mnew (mnew (mnew M5 64) 64) 64) = some ((), M9) := t1
      rw [e1', bd_s, c1, bd_s, bN_64, bN_64, bN_64, t1', bd_s, lch_ok hks hf]
      have hch1 : sumN (chN s.2.1) (f + 1) = sumN (chN s.2.1) f + chN s.2.1 f := rfl
      have hmx1 : maxN (ndF s.2.1) (f + 1) = max (maxN (ndF s.2.1) f) (ndF s.2.1 f) := rfl
      have hus1 : ∀ c, sumN (usF s.2.1 c) (f + 1) = sumN (usF s.2.1 c) f + usF s.2.1 c f := fun c => rfl
      cases hc : (XX s.2.1 f).2.1 with
      | true =>
        obtain ⟨M', r1, r2, r3⟩ := rest M9 FrL.rf (fun c hc7 => by
          show M9.1 u c = nI (sumN (usF s.2.1 c) (f + 1))
          rw [hus1, usF, if_pos hc]
          exact hU9 c hc7) hC9
        refine ⟨M', ?_, r2, r3⟩
        obtain ⟨z1, z2⟩ := hnf M9 hL9
        rw [hch1, chN, if_pos hc, hsz1, hmx1, ndF, if_pos hc, Nat.max_zero] at r1
        rw [FU_e, f_L_isSo_b129, if_neg (show ¬ nI (XX s.2.1 f).1.length ≤ 0 from nI_nle hw0 (by omega)), bI_t, if_neg (by decide), f_L_isSo_b173, if_neg (by decide), f_L_isSo_b185, bi_e, gd_of z2, bi_e, z1, if_neg (by decide), f_L_isSo_b218, nI_s, nI_add]
        exact r1
      | false =>
        obtain ⟨M10, o1, o2, o3, o4⟩ := so129 (g := g) (x := x) (n := n) (a := a) (b := b) (w := w) (u := u) (k39 := f_L_isSo_b39 fu) (x8 := nI (sumN (chN s.2.1) f)) (x9 := nI (sumN (fun i => (gf s.2.1.1 i).length) f)) (x10 := nI (maxN (ndF s.2.1) f)) (kd := M.2 5) (nb := M.2 5 + 1) (sn := M.2 5 + 2) (f := f) (l := (XX s.2.1 f).1) (F := fun c => sumN (usF s.2.1 c) f) w2 (by omega) w3 ⟨by omega, by omega⟩ FU 0 M9 (Nat.zero_le _) (by rw [FU_e]; omega) k09 k19 hK9 hRu9 (fun c hc7 => by
          show M9.1 u c = nI (sumN (usF s.2.1 c) f + 0)
          exact hU9 c hc7)
        have o1' : f_L_isSo_b129 (f_L_isSo_b39 fu) FU g x n a b w u (nI (sumN (chN s.2.1) f)) (nI (sumN (fun i => (gf s.2.1.1 i).length) f)) (nI (maxN (ndF s.2.1) f)) (nI f) (M.2 5) ((mnew M 64).2 5) ((mnew (mnew M 64) 64).2 5) (nI (XX s.2.1 f).1.length) (bI false) 0 M9 = f_L_isSo_b173 (f_L_isSo_b39 fu) g x n a b w u (nI (sumN (chN s.2.1) f)) (nI (sumN (fun i => (gf s.2.1.1 i).length) f)) (nI (maxN (ndF s.2.1) f)) (nI f) (M.2 5 + 2) 0 M10 := o1
        obtain ⟨M', r1, r2, r3⟩ := rest M10 o3 (fun c hc7 => by
          show M10.1 u c = nI (sumN (usF s.2.1 c) (f + 1))
          rw [hus1, usF, hc, if_neg (by decide)]
          exact o2 c hc7) (hC9.ck hO o4)
        refine ⟨M', ?_, r2, r3⟩
        have hL10 := hL9.fr o3 (Ne.symm hne.1) (Ne.symm hne.2.1) (Ne.symm hne.2.2.1) (Ne.symm hne.2.2.2.1) (Ne.symm hne.2.2.2.2.1)
        obtain ⟨z1, z2⟩ := hnf M10 hL10
        have g3 : lx M10 (M.2 5 + 2) 0 = true := lx_0 (k29.fr o3) (by omega) (by omega)
        have hneed10 : M10.1 (M.2 5 + 2) (ix 0) = nI (need0 s.2.1 f) := by
          rw [show ix 0 = 0 from rfl, o3.row k29.lt (by omega)]
          exact hneed
        rw [hch1, chN, hc, if_neg (by decide), hsz1, hmx1, ndF, hc, if_neg (by decide), Nat.add_zero] at r1
        have hnb := need_b hks hf
        have hmb : maxN (ndF s.2.1) f ≤ 60 := maxN_le _ (fun i hi => by
          rw [ndF]
          split
          · omega
          · exact need_b hks (by omega))
        rw [o1', f_L_isSo_b173, if_pos rfl, f_L_isSo_b185, bi_e, gd_of z2, bi_e, z1, if_pos rfl, gd_of g3, gd_of g3, hneed10, nI_z, nI_add]
        by_cases d : need0 s.2.1 f ≤ maxN (ndF s.2.1) f
        · rw [if_pos (nI_le d (by omega)), f_L_isSo_b218]
          rw [Nat.max_eq_left d] at r1
          exact r1
        · rw [if_neg (nI_ge (by omega) (by omega))]
          rw [Nat.max_eq_right (by omega)] at r1
          exact r1
theorem isSo_law {M : Mem} (hk : OKV s.2.1) (hO : OKs s) (hC : RepC M s) (hL : LAW M g x n a b s) :
    ∃ M', f_L_isSo g x n a b M = some (1, M') ∧ RepC M' s ∧ FrL (fun _ => False) 2300 23000 M M' := by
  have h4 := hk.1.1.2
  obtain ⟨⟨l1, l2, l3, l4, l5⟩, h5⟩ := hL.1.lt
  have hA : FrL (fun _ => False) (0 + 1) (0 + 8) M (mnew M 8) := FrL.rf.nw
  have hB : FrL (fun _ => False) (0 + 1 + 1) (0 + 8 + 8) M (mnew (mnew M 8) 8) := hA.nw
  have r1 : LR (mnew M 8) (M.2 5) 8 := LR.nw h5
  have r2 : LR (mnew (mnew M 8) 8) ((mnew M 8).2 5) 8 := LR.nw (by rw [mnew_5]; omega)
  have r1' : LR (mnew (mnew M 8) 8) (M.2 5) 8 := r1.fr (FrL.rf (S := fun _ => False) (M := mnew M 8)).nw
  have hL2 := hL.fr hB id id id id id
  have e5 : (mnew M 8).2 5 = M.2 5 + 1 := mnew_5
  rw [e5] at r2
  obtain ⟨M3, w1, w2, w3, w4⟩ := worths_ok (w := M.2 5) hk ⟨by omega, by omega, by omega, by omega, by omega⟩ hL2.1 r1'
  have hF3 : FrL (fun _ => False) (0 + 1 + 1 + 760) (0 + 8 + 8 + 8000) M M3 := hB.tr w3 (fun a h => Or.inr (by omega))
  have hC3 : RepC M3 s := hC.ck hO (((CK.rf.nw h5).nw (by rw [mnew_5]; omega)).tr w4)
  have hu0 : (mnew (mnew M 8) 8).1 (M.2 5 + 1) = fun _ => 0 := by rw [← e5]; exact mnew_1
  obtain ⟨M', j1, j2, j3⟩ := so39 (w := M.2 5) (u := M.2 5 + 1) (g := g) (x := x) (n := n) (a := a) (b := b) hk hO ⟨by omega, by omega, by omega, by omega, by omega, by omega⟩ FU 0 M3 (Nat.zero_le _) (by rw [FU_e]; omega) (hL.fr hF3 id id id id id) (r1'.fr w3) w2 (r2.fr w3) (fun c hc => by
    rw [w3.row r2.lt (by omega), hu0]
    rfl) hC3
  refine ⟨M', ?_, j2, (hF3.tr j3 (fun a h => Or.inr (by omega))).mono (fun a h => Or.inl h) (by omega) (by omega)⟩
  rw [f_L_isSo, bN_8, bN_8, w1, bd_s]
  exact j1
end SO2
