/-! values stay in their bounds; worths -/
def OKV (st : St) : Prop := OKL st.1 ∧ ∀ c, c < 8 → vb (st.2.1 c)
theorem lvS_vb {st : St} (h : OKV st) (f : Nat) : f < st.1.length → (∀ k, k < (XX st f).1.length → ar (nd (XX st f).1 k).1 = 0 → vb (lvS st f (nd (XX st f).1 k))) ∧ vb (XX st f).2.2 := by
  induction f using Nat.strongRecOn with
  | _ f ih =>
    intro hf
    have hks := h.1.s
    have h4 := h.1.1.2
    obtain ⟨w1, w2, w3, w4⟩ := XX_ok hks hf
    have hleaf : ∀ k, k < (XX st f).1.length → ar (nd (XX st f).1 k).1 = 0 → vb (lvS st f (nd (XX st f).1 k)) := by
      intro k hk h0
      rw [lvS, lvf]
      rcases w3 _ (nd_in hk) with ⟨k1, k2, k3⟩ | ⟨k1, cc, k2, k3⟩ | ⟨k1, cc, k2, k3⟩ | ⟨k1, k2⟩
      · rw [k1, if_neg (by decide), if_neg (by decide)]
        have e1 := Int32.le_iff_toInt_le.mp k2
        have e2 := Int32.lt_iff_toInt_lt.mp k3
        have e3 : (0 : Int32).toInt = 0 := by decide +kernel
        have e4 : (1000 : Int32).toInt = 1000 := by decide +kernel
        rw [e3] at e1
        rw [e4] at e2
        exact ⟨by omega, by omega⟩
      · rw [k1, if_pos rfl, k3, ixN (by omega)]
        exact h.2 cc k2
      · rw [k1, if_neg (by decide), if_pos rfl, k3, ixN (by omega), vls, XFd k2]
        exact (ih cc k2 (by omega)).2
      · exfalso
        rcases k1 with k1 | k1 | k1 | k1 <;> rw [k1] at h0 <;> revert h0 <;> decide
    exact ⟨hleaf, tr_vb w1 hleaf ((XX st f).1.length + 1) 0 (by omega) (wf_len w1)⟩
/-- some rows of 64 are made -/
def mnw (M : Mem) : Nat → Mem
  | 0 => M
  | k + 1 => mnew (mnw M k) 64
theorem mnw_5 {M : Mem} : ∀ k, (mnw M k).2 5 = M.2 5 + k
  | 0 => rfl
  | k + 1 => by rw [mnw, mnew_5, mnw_5]; rfl
theorem mnw_fr {S : Nat → Prop} {M : Mem} : ∀ k, FrL S k (64 * k) M (mnw M k)
  | 0 => FrL.rf
  | k + 1 => by
    have := (mnw_fr (S := S) (M := M) k).nw (n := 64)
    rw [show 64 * k + 64 = 64 * (k + 1) by omega] at this
    exact this
theorem mnw_ck {M : Mem} (h : 208 ≤ M.2 5) : ∀ k, CK M (mnw M k)
  | 0 => CK.rf
  | k + 1 => (mnw_ck h k).nw (by rw [mnw_5]; omega)
theorem mnw_lr {M : Mem} (h : 208 ≤ M.2 5) : ∀ {k i : Nat}, i < k → LR (mnw M k) (M.2 5 + i) 64
  | 0, i, hi => by omega
  | k + 1, i, hi => by
    by_cases c : i = k
    · subst c
      have := LR.nw (M := mnw M i) (n := 64) (by rw [mnw_5]; omega)
      rw [mnw_5] at this
      exact this
    · exact (mnw_lr h (show i < k by omega)).fr (FrL.rf (S := fun _ => False) (M := mnw M k)).nw
def WV (M : Mem) (w : Nat) (st : St) (n : Nat) : Prop := ∀ c, c < n → M.1 w c = (XX st c).2.2
/-- the law's rows, with the cells -/
def LSX (M : Mem) (g x n a b : Nat) (st : St) : Prop := LSR M g n a b st.1 ∧ LR M x 8 ∧ ∀ c, c < 8 → M.1 x c = st.2.1 c
theorem LSX.fr {S : Nat → Prop} {c w g x n a b : Nat} {st : St} {M M' : Mem} (h : LSX M g x n a b st) (hf : FrL S c w M M') (h1 : ¬ S g) (h2 : ¬ S n) (h3 : ¬ S a) (h4 : ¬ S b) (h5 : ¬ S x) : LSX M' g x n a b st :=
  ⟨h.1.fr hf h1 h2 h3 h4, h.2.1.fr hf, fun c hc => by rw [hf.row h.2.1.lt h5]; exact h.2.2 c hc⟩
theorem LSX.lt {g x n a b : Nat} {st : St} {M : Mem} (h : LSX M g x n a b st) : (g < M.2 5 ∧ n < M.2 5 ∧ a < M.2 5 ∧ b < M.2 5 ∧ x < M.2 5) ∧ 208 ≤ M.2 5 := by
  obtain ⟨⟨⟨r1, r2, r3, r4⟩, -⟩, r5, -⟩ := h
  have := r1.lt
  exact ⟨⟨r1.lt.2, r2.lt.2, r3.lt.2, r4.lt.2, r5.lt.2⟩, by omega⟩
section WO
variable {st : St} {g x n a b w f : Nat}
/-- what tell is given for the form f -/
theorem tin_of {M : Mem} {kd nb : Nat} (hL : LSX M g x n a b st) (hw : LR M w 8) (hW : WV M w st f) (hk : LR M kd 64) (hn : LR M nb 64) (hK : KR M kd nb (XX st f).1) : TIn M x w kd nb f (XX st f).1 st.2.1 (vls (XF st.1 st.2.1 f)) :=
  ⟨⟨hL.2.1, hw, hk, hn⟩, hK, hL.2.2, fun c hc => by rw [vls, XFd hc]; exact hW c hc⟩
theorem wo_loop (hk : OKV st) (hne : w ≠ g ∧ w ≠ n ∧ w ≠ a ∧ w ≠ b ∧ w ≠ x) : ∀ (fu f : Nat) (M : Mem), f ≤ st.1.length → st.1.length - f < fu → LSX M g x n a b st → LR M w 8 → WV M w st f →
    ∃ M', f_L_worths_b3 fu g x n a b w (nI f) M = some ((), M') ∧ WV M' w st st.1.length ∧ FrL (fun c => c = w) (190 * (st.1.length - f)) (2000 * (st.1.length - f)) M M' ∧ CK M M' := by
  have h4 := hk.1.1.2
  intro fu
  induction fu with
  | zero => intro f M _ h; omega
  | succ fu ih =>
    intro f M hfl hfu hL hR hW
    obtain ⟨⟨l1, l2, l3, l4, l5⟩, h5⟩ := hL.lt
    have lw := hR.lt
    rw [f_L_worths_b3, gd_of (lx_0 hL.1.1.1 (by omega) (by omega)), show M.1 g (ix 0) = nI st.1.length from hL.1.2.1]
    by_cases c : f = st.1.length
    · subst c
      rw [if_pos (nI_le (Nat.le_refl _) (by omega))]
      exact ⟨M, rfl, hW, FrL.rf.mono (fun a h => Or.inl h) (Nat.zero_le _) (Nat.zero_le _), CK.rf⟩
    · have hf : f < st.1.length := by omega
      rw [if_neg (nI_ge hf (by omega)), bN_64, bN_64, bN_64, bN_64]
      have hF4 : FrL (fun c => c = w) 4 256 M (mnw M 4) := mnw_fr 4
      have hL4 := hL.fr (mnw_fr (S := fun _ => False) 4) id id id id id
      obtain ⟨M5, e1, e2, e3, e4⟩ := expand_ok (kd := M.2 5) (nb := M.2 5 + 1) (M := mnw M 4) hk.1 hf ⟨by omega, ⟨by omega, by omega, by omega, by omega⟩, ⟨by omega, by omega, by omega, by omega⟩⟩ hL4.1 (mnw_lr h5 (i := 0) (by omega)) (mnw_lr h5 (i := 1) (by omega)) (by rw [mnw_5]; omega)
      have e1' : f_L_expand g n a b (nI f) (M.2 5) ((mnew M 64).2 5) (mnew (mnew (mnew (mnew M 64) 64) 64) 64) = some (nI (XX st f).1.length, M5) := e1
      rw [e1', bd_s, bN_64, bN_64]
      have h55 : M.2 5 + 4 ≤ M5.2 5 := by
        have := e3.2.2.1.1
        rw [mnw_5] at this
        exact this
      have hF5 : FrL (fun c => c = w) (4 + 60 * f) (256 + 480 * f) M M5 := hF4.tr e3 (fun a h => Or.inr (by rcases h with h | h <;> omega))
      have hF7 : FrL (fun c => c = w) (4 + 60 * f + 2) (256 + 480 * f + 64 * 2) M (mnw M5 2) := hF5.tr (mnw_fr (S := fun c => c = w) 2) (fun a h => Or.inl h)
      have hL5 := hL4.fr e3 (fun h => by rcases h with h | h <;> omega) (fun h => by rcases h with h | h <;> omega) (fun h => by rcases h with h | h <;> omega) (fun h => by rcases h with h | h <;> omega) (fun h => by rcases h with h | h <;> omega)
      have hL7 := hL5.fr (mnw_fr (S := fun _ => False) 2) id id id id id
      have hRw4 : LR (mnw M 4) w 8 := hR.fr hF4
      have hRw5 : LR M5 w 8 := hRw4.fr e3
      have hrow4 : (mnw M 4).1 w = M.1 w := (mnw_fr (S := fun _ => False) 4).row hR.lt id
      have hrow5 : M5.1 w = (mnw M 4).1 w := e3.row hRw4.lt (fun h => by rcases h with h | h <;> omega)
      have hrow7 : (mnw M5 2).1 w = M5.1 w := (mnw_fr (S := fun _ => False) 2).row hRw5.lt id
      have hW7 : WV (mnw M5 2) w st f := fun c hc => by rw [hrow7, hrow5, hrow4]; exact hW c hc
      have k1 : LR M5 (M.2 5) 64 := (mnw_lr h5 (k := 4) (i := 0) (by omega)).fr e3
      have k2 : LR M5 (M.2 5 + 1) 64 := (mnw_lr h5 (k := 4) (i := 1) (by omega)).fr e3
      have k3 : LR M5 (M.2 5 + 2) 64 := (mnw_lr h5 (k := 4) (i := 2) (by omega)).fr e3
      have k4 : LR M5 (M.2 5 + 3) 64 := (mnw_lr h5 (k := 4) (i := 3) (by omega)).fr e3
      have f2 : FrL (fun _ => False) 2 (64 * 2) M5 (mnw M5 2) := mnw_fr 2
      have hK7 : KR (mnw M5 2) (M.2 5) (M.2 5 + 1) (XX st f).1 := fun p hp => by rw [f2.row k1.lt id, f2.row k2.lt id]; exact e2 p hp
      obtain ⟨w1, w2, w3, w4⟩ := XX_ok hk.1.s hf
      obtain ⟨v1, v2⟩ := lvS_vb hk f hf
      obtain ⟨M8, t1, t2, t3, t4⟩ := tell_ok (sz := M.2 5 + 2) (ne := M5.2 5) (dp := M5.2 5 + 1) (vl := M.2 5 + 3) w1 w2 (by omega) w3 v1 ⟨⟨by omega, by omega, by omega⟩, ⟨by omega, by omega⟩, by omega⟩ (fun c h => by rcases h with h | h | h | h <;> exact ⟨by omega, by omega, by omega, by omega⟩) (tin_of hL7 (hRw5.fr f2) hW7 (k1.fr f2) (k2.fr f2) hK7) ⟨k3.fr f2, mnw_lr (by omega) (i := 0) (by omega), mnw_lr (by omega) (i := 1) (by omega), k4.fr f2⟩
      have t1' : f_L_tell x w (M.2 5) ((mnew M 64).2 5) (nI (XX st f).1.length) ((mnew (mnew M 64) 64).2 5) (M5.2 5) ((mnew M5 64).2 5) ((mnew (mnew (mnew M 64) 64) 64).2 5) (mnew (mnew M5 64) 64) = some ((), M8) := t1
      rw [t1', bd_s]
      have hvl : LR M8 (M.2 5 + 3) 64 := (k4.fr f2).fr t3
      have hRw8 : LR M8 w 8 := (hRw5.fr f2).fr t3
      have hval : M8.1 (M.2 5 + 3) 0 = (XX st f).2.2 := (t2 0 (Nat.zero_le _) (wf_len w1)).2.2.2
      have g1 : lx M8 ((mnew (mnew (mnew M 64) 64) 64).2 5) 0 = true := lx_0 hvl (by omega) (by omega)
      rw [gd_of g1, gd_of (lx_ok hRw8 (by omega) (by omega)), bm_e, bi_e, nI_s, ixN (by omega), show M8.1 ((mnew (mnew (mnew M 64) 64) 64).2 5) (ix 0) = (XX st f).2.2 from hval]
      have hF8 : FrL (fun c => c = w) (4 + 60 * f + 2 + 0) (256 + 480 * f + 64 * 2 + 0) M M8 := hF7.tr t3 (fun a h => Or.inr (by rcases h with h | h | h | h <;> omega))
      have hrow8 : M8.1 w = (mnw M5 2).1 w := t3.row (hRw5.fr f2).lt (fun h => by rcases h with h | h | h | h <;> omega)
      have hF9 : FrL (fun c => c = w) 0 0 M8 (mset M8 w f (XX st f).2.2) := FrL.rf.set (Or.inl rfl)
      have hL8 := hL7.fr t3 (fun h => by rcases h with h | h | h | h <;> omega) (fun h => by rcases h with h | h | h | h <;> omega) (fun h => by rcases h with h | h | h | h <;> omega) (fun h => by rcases h with h | h | h | h <;> omega) (fun h => by rcases h with h | h | h | h <;> omega)
      have hL9 := hL8.fr hF9 (Ne.symm hne.1) (Ne.symm hne.2.1) (Ne.symm hne.2.2.1) (Ne.symm hne.2.2.2.1) (Ne.symm hne.2.2.2.2)
      obtain ⟨M', j1, j2, j3, j4⟩ := ih (f + 1) (mset M8 w f (XX st f).2.2) (by omega) (by omega) hL9 (hRw8.fr hF9) (fun c hc => by
        rw [ms_k']
        by_cases q : c = f
        · rw [if_pos q, q]
        · rw [if_neg q, hrow8]; exact hW7 c (by omega))
      refine ⟨M', j1, j2, ((hF8.tr hF9 (fun a h => Or.inl h)).tr j3 (fun a h => Or.inl h)).mono (fun a h => Or.inl h) (by omega) (by omega), ?_⟩
      exact ((((mnw_ck h5 4).tr e4).tr (mnw_ck (by omega) 2)).tr t4).tr ((CK.rf.set hR.1).tr j4)
theorem worths_ok {M : Mem} (hk : OKV st) (hne : w ≠ g ∧ w ≠ n ∧ w ≠ a ∧ w ≠ b ∧ w ≠ x) (hL : LSX M g x n a b st) (hR : LR M w 8) :
    ∃ M', f_L_worths g x n a b w M = some ((), M') ∧ WV M' w st st.1.length ∧ FrL (fun c => c = w) 760 8000 M M' ∧ CK M M' := by
  have h4 := hk.1.1.2
  obtain ⟨M', h1, h2, h3, h5⟩ := wo_loop hk hne FU 0 M (Nat.zero_le _) (by rw [FU_e]; omega) hL hR (fun c hc => absurd hc (Nat.not_lt_zero _))
  exact ⟨M', h1, h2, h3.mono (fun a h => Or.inl h) (by omega) (by omega), h5⟩
end WO
