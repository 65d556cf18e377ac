/-! isCheap: how often each definition stands in a full expansion -/
def bI (b : Bool) : Int32 := if b = true then 1 else 0
theorem bI_t : bI true = 1 := rfl
theorem bI_f : bI false = 0 := rfl
theorem bI_isB (b : Bool) : isB (bI b) = true := by cases b <;> decide
theorem ad16 (e k : Nat) : 16 * nI e + nI k = nI (16 * e + k) := by
  rw [show (16 : Int32) = nI 16 from rfl, nI_mul, nI_add]
theorem lx_0 {M : Mem} {a n : Nat} (h : LR M a n) (h0 : 0 < n) (hn : n ≤ 1000) : lx M a 0 = true := lx_ok (k := 0) h h0 hn
theorem lx_1 {M : Mem} {a n : Nat} (h : LR M a n) (h0 : 1 < n) (hn : n ≤ 1000) : lx M a 1 = true := lx_ok (k := 1) h h0 hn
/-- no star so far, nodes, how often -/
abbrev CS : Type := Bool × Nat × (Nat → Nat)
def cst (m : Nat) (q : Nd) (s : CS) : CS := (s.1 && !(q.1 == 6), s.2.1 + (if q.1 = 2 then 0 else m), if q.1 = 2 then (fun c => if c = ix q.2 then s.2.2 c + m else s.2.2 c) else s.2.2)
def cfo (m : Nat) (l : Fm) (s : CS) : CS := l.foldl (fun s q => cst m q s) s
def clv (fs : List Fm) (e : Nat) (s : CS) : CS := if s.2.2 e = 0 then s else cfo (s.2.2 e) (gf fs e) s
def ccs (fs : List Fm) : Nat → CS → CS
  | 0, s => s
  | e + 1, s => ccs fs e (clv fs e s)
def CB8 (s : CS) (T : Nat) : Prop := s.2.1 ≤ T ∧ ∀ c, s.2.2 c ≤ T
theorem cst_b {m : Nat} {q : Nd} {s : CS} {T : Nat} (h : CB8 s T) : CB8 (cst m q s) (T + m) := by
  obtain ⟨h1, h2⟩ := h
  refine ⟨?_, fun c => ?_⟩
  · show s.2.1 + (if q.1 = 2 then 0 else m) ≤ _
    split <;> omega
  · show (if q.1 = 2 then (fun c => if c = ix q.2 then s.2.2 c + m else s.2.2 c) else s.2.2) c ≤ _
    have := h2 c
    split
    · show (if c = ix q.2 then s.2.2 c + m else s.2.2 c) ≤ _
      split <;> omega
    · omega
theorem cfo_b {m : Nat} : ∀ {l : Fm} {s : CS} {T : Nat}, CB8 s T → CB8 (cfo m l s) (T + l.length * m)
  | [], s, T, h => by rw [cfo, List.foldl_nil, List.length_nil, Nat.zero_mul]; exact h
  | q :: l, s, T, h => by
    rw [cfo, List.foldl_cons, List.length_cons]
    have := cfo_b (m := m) (l := l) (cst_b (m := m) (q := q) h)
    rw [show T + (l.length + 1) * m = T + m + l.length * m by rw [Nat.add_mul]; omega]
    exact this
/-- the row of how often -/
def CR (M : Mem) (a8 : Nat) (s : CS) : Prop := ∀ c, c < 8 → M.1 a8 c = nI (s.2.2 c)
section IC
variable {k42 : Nat → Nat → Nat → Int32 → Int32 → Int32 → Nat → Int32 → Mem → Option (Int32 × Mem)} {k55 : Nat → Nat → Nat → Int32 → Int32 → Int32 → Nat → Int32 → Int32 → Mem → Option (Int32 × Mem)} {fs : List Fm} {g n a b a8 e : Nat} {x5 : Int32}
theorem b91_ok {s : CS} {k : Nat} {t0 : Int32} {M : Mem} (hl : lx M a (nI (16 * e + k)) = true) :
    f_L_isCheap_b91 k42 k55 n a b x5 (nI s.2.1) (bI s.1) a8 (nI e) (nI k) t0 M = f_L_isCheap_b118 k42 k55 n a b x5 (nI s.2.1) a8 (nI e) (nI k) t0 (bI (s.1 && !(M.1 a (ix (nI (16 * e + k))) == 6))) M := by
  rw [f_L_isCheap_b91, ad16]
  cases h : s.1 with
  | false => rw [bI_f, if_pos rfl, f_L_isCheap_b117]; rfl
  | true =>
    rw [bI_t, if_neg (by decide), gd_of hl]
    by_cases c : M.1 a (ix (nI (16 * e + k))) = 6
    · rw [if_pos c, f_L_isCheap_b117, c]; rfl
    · rw [if_neg c, Bool.true_and, show (M.1 a (ix (nI (16 * e + k))) == 6) = false from by simpa using c]; rfl
theorem ic_in (hk : OKL fs) (he : e < fs.length) {m : Nat} (hm : 0 < m) (hne : a8 ≠ g ∧ a8 ≠ n ∧ a8 ≠ a ∧ a8 ≠ b) : ∀ (fu k : Nat) (s : CS) (T : Nat) (M : Mem), k ≤ (gf fs e).length → (gf fs e).length - k < fu → LSR M g n a b fs → LR M a8 8 → CR M a8 s → s.2.2 e = m → CB8 s T → T + ((gf fs e).length - k) * m < 2 ^ 30 →
    ∃ M', f_L_isCheap_b55 k42 fu n a b x5 (nI s.2.1) (bI s.1) a8 (nI e) (nI k) M = k42 n a b x5 (nI (cfo m ((gf fs e).drop k) s).2.1) (bI (cfo m ((gf fs e).drop k) s).1) a8 (nI e + (-1)) M' ∧ CR M' a8 (cfo m ((gf fs e).drop k) s) ∧ FrL (fun c => c = a8) 0 0 M M' ∧ CK M M' := by
  have h4 := hk.1.2
  have h15 := (hk.2 e he).2.1
  intro fu
  induction fu with
  | zero => intro k s T M _ h; omega
  | succ fu ih =>
    intro k s T M hkl hfu hL hR hC hse hT hTb
    obtain ⟨⟨r1, r2, r3, r4⟩, e1, e2⟩ := id hL
    obtain ⟨f1, f2⟩ := e2 e he
    rw [f_L_isCheap_b55, gd_of (lx_ok r2 (by omega) (by omega)), ixN (by omega), f1]
    by_cases c : k = (gf fs e).length
    · subst c
      rw [if_pos (nI_le (Nat.le_refl _) (by omega)), bi_e, List.drop_length]
      exact ⟨M, rfl, hC, FrL.rf, CK.rf⟩
    · have hk2 : k < (gf fs e).length := by omega
      obtain ⟨v1, v2⟩ := f2 k hk2
      have hq := hk.nd he hk2
      have hla : lx M a (nI (16 * e + k)) = true := lx_ok r3 (by omega) (by omega)
      have hlb : lx M b (nI (16 * e + k)) = true := lx_ok r4 (by omega) (by omega)
      have hl8 : lx M a8 (nI e) = true := lx_ok hR (by omega) (by omega)
      have hix : ix (nI (16 * e + k)) = 16 * e + k := ixN (by omega)
      have hTm : T + m + ((gf fs e).length - (k + 1)) * m < 2 ^ 30 := by
        rw [show (gf fs e).length - k = (gf fs e).length - (k + 1) + 1 by omega, Nat.add_mul] at hTb
        omega
      have hm30 : m < 2 ^ 30 := by
        have : 0 ≤ ((gf fs e).length - (k + 1)) * m := Nat.zero_le _
        omega
      have hve : M.1 a8 e = nI m := by rw [hC e (by omega), hse]
      have hdr : (gf fs e).drop k = nd (gf fs e) k :: (gf fs e).drop (k + 1) := by
        rw [nd, List.getD_eq_getElem?_getD, List.getElem?_eq_getElem hk2]
        exact List.drop_eq_getElem_cons hk2
      have hT0 : s.2.1 ≤ T := hT.1
      rw [if_neg (nI_ge hk2 (by omega)), gd_of hl8, hve, if_neg (nI_nle hm (by omega)), ad16, gd_of hla, hix, v1, hdr]
      rw [show cfo m (nd (gf fs e) k :: (gf fs e).drop (k + 1)) s = cfo m ((gf fs e).drop (k + 1)) (cst m (nd (gf fs e) k) s) from rfl]
      by_cases d : (nd (gf fs e) k).1 = 2
      · obtain ⟨cc, hcc, hcv⟩ : ∃ cc, cc < e ∧ (nd (gf fs e) k).2 = nI cc := by
          rcases hq with q | q | q | q
          · rw [d] at q; exact absurd q.1 (by decide)
          · rw [d] at q; exact absurd q.1 (by decide)
          · exact q.2
          · rw [d] at q; exact absurd q.1 (by decide)
        have hvb : M.1 b (16 * e + k) = nI cc := by
          rw [v2, bc, if_pos (by rw [d]; decide), hcv]
        have hl8c : lx M a8 (nI cc) = true := lx_ok hR (by omega) (by omega)
        rw [if_pos d, b91_ok hla, f_L_isCheap_b118, if_neg (by decide), f_L_isCheap_b136, bi_e, if_neg (by decide), ad16, gd_of hlb, hix, hvb, gd_of hl8c, gd_of hl8, gd_of hl8c, bm_e, bi_e, ixN (by omega), ixN (by omega), hve, hC cc (by omega), nI_add, nI_s, nI_z, v1]
        have hFr : FrL (fun c => c = a8) 0 0 M (mset M a8 cc (nI (s.2.2 cc + m))) := FrL.rf.set (Or.inl rfl)
        have hcs : cst m (nd (gf fs e) k) s = (s.1 && !((nd (gf fs e) k).1 == 6), s.2.1, fun c => if c = cc then s.2.2 c + m else s.2.2 c) := by
          rw [cst, if_pos d, if_pos d, hcv, ixN (by omega)]; rfl
        have hT2 := cst_b (m := m) (q := nd (gf fs e) k) hT
        rw [hcs] at hT2 ⊢
        obtain ⟨M2, g1, g2, g3, g4⟩ := ih (k + 1) (s.1 && !((nd (gf fs e) k).1 == 6), s.2.1, fun c => if c = cc then s.2.2 c + m else s.2.2 c) (T + m) (mset M a8 cc (nI (s.2.2 cc + m))) (by omega) (by omega) (hL.fr hFr (Ne.symm hne.1) (Ne.symm hne.2.1) (Ne.symm hne.2.2.1) (Ne.symm hne.2.2.2)) hR.set (fun c hc => by
            rw [ms_k']
            show (if c = cc then nI (s.2.2 cc + m) else M.1 a8 c) = nI (if c = cc then s.2.2 c + m else s.2.2 c)
            by_cases q : c = cc
            · rw [if_pos q, if_pos q, q]
            · rw [if_neg q, if_neg q]; exact hC c hc) (by show (if e = cc then _ else _) = m; rw [if_neg (by omega)]; exact hse) hT2 hTm
        exact ⟨M2, g1, g2, hFr.tr g3 (fun a h => Or.inl h), (CK.rf.set hR.1).tr g4⟩
      · have hcs : cst m (nd (gf fs e) k) s = (s.1 && !((nd (gf fs e) k).1 == 6), s.2.1 + m, s.2.2) := by
          rw [cst, if_neg d, if_neg d]
        rw [if_neg d, b91_ok hla, f_L_isCheap_b118, if_pos rfl, gd_of hl8, f_L_isCheap_b136, bi_e, if_pos rfl, bi_e, ixN (by omega), hve, nI_add, nI_s, hix, v1]
        have hT2 := cst_b (m := m) (q := nd (gf fs e) k) hT
        rw [hcs] at hT2 ⊢
        exact ih (k + 1) (s.1 && !((nd (gf fs e) k).1 == 6), s.2.1 + m, s.2.2) (T + m) M (by omega) (by omega) hL hR hC hse hT2 hTm
theorem ic_out (hk : OKL fs) (hx5 : ¬ x5 ≤ 0) (hne : a8 ≠ g ∧ a8 ≠ n ∧ a8 ≠ a ∧ a8 ≠ b) : ∀ (E fu : Nat) (s : CS) (T : Nat) (M : Mem), E ≤ fs.length → E < fu → LSR M g n a b fs → LR M a8 8 → CR M a8 s → CB8 s T → T * 16 ^ E < 2 ^ 30 →
    ∃ M', f_L_isCheap_b42 fu n a b x5 (nI s.2.1) (bI s.1) a8 (nI E + (-1)) M = some (bI ((ccs fs E s).1 && decide ((ccs fs E s).2.1 < 4)), M') ∧ FrL (fun c => c = a8) 0 0 M M' ∧ CK M M' := by
  have h4 := hk.1.2
  intro E
  induction E with
  | zero =>
    intro fu s T M _ hfu hL hR hC hT hTb
    obtain ⟨fu, rfl⟩ : ∃ f, fu = f + 1 := ⟨fu - 1, by omega⟩
    refine ⟨M, ?_, FrL.rf, CK.rf⟩
    have h30 : s.2.1 < 2 ^ 30 := by
      have := hT.1
      rw [Nat.pow_zero, Nat.mul_one] at hTb
      omega
    rw [f_L_isCheap_b42, if_pos (by decide +kernel), f_L_isCheap_b177, show ccs fs 0 s = s from rfl]
    cases h : s.1 with
    | false => rw [bI_f, if_pos rfl]; rfl
    | true =>
      rw [bI_t, if_neg (by decide), show (4 : Int32) = nI 4 from rfl, Bool.true_and]
      by_cases c : s.2.1 < 4
      · rw [if_neg (nI_ge c (by omega)), show decide (s.2.1 < 4) = true from by simpa using c]; rfl
      · rw [if_pos (nI_le (by omega) (by omega)), show decide (s.2.1 < 4) = false from by simpa using c]; rfl
  | succ E ih =>
    intro fu s T M hE hfu hL hR hC hT hTb
    obtain ⟨fu, rfl⟩ : ∃ f, fu = f + 1 := ⟨fu - 1, by omega⟩
    have h15 := (hk.2 E (by omega)).2.1
    have hw := wf_len (hk.2 E (by omega)).1
    obtain ⟨⟨r1, r2, r3, r4⟩, e1, e2⟩ := id hL
    obtain ⟨f1, f2⟩ := e2 E (by omega)
    have h16 : T * 16 ≤ T * 16 ^ (E + 1) := Nat.mul_le_mul_left _ (by rw [Nat.pow_succ]; exact Nat.le_mul_of_pos_left _ (Nat.pow_pos (by omega)))
    have hp : T * 16 * 16 ^ E < 2 ^ 30 := by
      rw [Nat.mul_assoc, ← Nat.pow_succ']; exact hTb
    rw [nI_p, f_L_isCheap_b42, if_neg (nI_pos (by omega)), if_neg hx5]
    by_cases c : s.2.2 E = 0
    · have hcc : ccs fs (E + 1) s = ccs fs E s := by rw [ccs, clv, if_pos c]
      rw [hcc, FU_e, show (0 : Int32) = nI 0 from rfl, f_L_isCheap_b55, gd_of (lx_ok r2 (by omega) (by omega)), ixN (by omega), f1, if_neg (nI_ge hw (by omega)), gd_of (lx_ok hR (by omega) (by omega)), hC E (by omega), c, if_pos (by decide +kernel), bi_e]
      have hT16 : CB8 s (T * 16) := ⟨Nat.le_trans hT.1 (by omega), fun c => Nat.le_trans (hT.2 c) (by omega)⟩
      exact ih fu s (T * 16) M (by omega) (by omega) hL hR hC hT16 hp
    · have hm : 0 < s.2.2 E := by omega
      have hmT := hT.2 E
      have hlen : (gf fs E).length * s.2.2 E ≤ 15 * T := Nat.mul_le_mul h15 hmT
      obtain ⟨M1, g1, g2, g3, g4⟩ := ic_in (k42 := f_L_isCheap_b42 fu) (x5 := x5) hk (by omega) hm hne FU 0 s T M (Nat.zero_le _) (by rw [FU_e]; omega) hL hR hC rfl hT (by rw [Nat.sub_zero]; omega)
      have hcc : ccs fs (E + 1) s = ccs fs E (cfo (s.2.2 E) (gf fs E) s) := by rw [ccs, clv, if_neg c]
      rw [List.drop_zero] at g1 g2
      have hbb := cfo_b (m := s.2.2 E) (l := gf fs E) hT
      rw [hcc, show f_L_isCheap_b55 (f_L_isCheap_b42 fu) FU n a b x5 (nI s.2.1) (bI s.1) a8 (nI E) 0 M = _ from g1]
      obtain ⟨M2, k1, k2, k3⟩ := ih fu _ (T * 16) M1 (by omega) (by omega) (hL.fr g3 (Ne.symm hne.1) (Ne.symm hne.2.1) (Ne.symm hne.2.2.1) (Ne.symm hne.2.2.2)) (hR.fr g3) g2 ⟨Nat.le_trans hbb.1 (by omega), fun c => Nat.le_trans (hbb.2 c) (by omega)⟩ hp
      exact ⟨M2, k1, g3.tr k2 (fun a h => Or.inl h), g4.tr k3⟩
/-- what isCheap answers -/
def lch (fs : List Fm) (d : Nat) : Bool := (ccs fs (d + 1) (decide (d + 1 < fs.length), 0, fun c => if c = d then 1 else 0)).1 && decide ((ccs fs (d + 1) (decide (d + 1 < fs.length), 0, fun c => if c = d then 1 else 0)).2.1 < 4)
theorem isCheap_ok {d : Nat} {M : Mem} (hk : OKL fs) (hd : d < fs.length) (hL : LSR M g n a b fs) (h5 : 208 ≤ M.2 5) : ∃ M', f_L_isCheap g n a b (nI d) M = some (bI (lch fs d), M') ∧ FrL (fun _ => False) 1 8 M M' ∧ CK M M' := by
  have h4 := hk.1.2
  obtain ⟨⟨r1, r2, r3, r4⟩, e1, e2⟩ := id hL
  have hx5 : ¬ ((1 : Int32) <<< (nI d &&& 31)) ≤ 0 := by
    rcases (show d = 0 ∨ d = 1 ∨ d = 2 ∨ d = 3 by omega) with q | q | q | q <;> subst q <;> decide +kernel
  have main : ∀ t0 : Bool, t0 = decide (d + 1 < fs.length) → ∃ M', f_L_isCheap_b24 n a b (nI d) ((1 : Int32) <<< (nI d &&& 31)) 0 (bI t0) M = some (bI (lch fs d), M') ∧ FrL (fun _ => False) 1 8 M M' ∧ CK M M' := by
    intro t0 ht0
    have hR0 : LR (mnew M 8) (M.2 5) 8 := LR.nw h5
    have hF0 : FrL (fun _ => False) 1 8 M (mnew M 8) := by simpa using FrL.nw (n := 8) (FrL.rf (S := fun _ => False) (M := M))
    rw [f_L_isCheap_b24, bN_8, gd_of (lx_ok hR0 (by omega) (by omega)), bm_e, ixN (by omega)]
    have hF1 : FrL (fun _ => False) 1 8 M (mset (mnew M 8) (M.2 5) d 1) := hF0.set (Or.inr (Nat.le_refl _))
    have hC1 : CK M (mset (mnew M 8) (M.2 5) d 1) := (CK.rf.nw h5).set h5
    have hL1 : LSR (mset (mnew M 8) (M.2 5) d 1) g n a b fs := hL.fr hF1 (fun q => q) (fun q => q) (fun q => q) (fun q => q)
    obtain ⟨M2, k1, k2, k3⟩ := ic_out (x5 := (1 : Int32) <<< (nI d &&& 31)) hk hx5 (a8 := M.2 5) ⟨Ne.symm (Nat.ne_of_lt r1.lt.2), Ne.symm (Nat.ne_of_lt r2.lt.2), Ne.symm (Nat.ne_of_lt r3.lt.2), Ne.symm (Nat.ne_of_lt r4.lt.2)⟩ (d + 1) FU (t0, 0, fun c => if c = d then 1 else 0) 1 (mset (mnew M 8) (M.2 5) d 1) (by omega) (by rw [FU_e]; omega) hL1 hR0 (fun c hc => by
        rw [ms_k', mnew_1]
        show (if c = d then (1 : Int32) else 0) = nI (if c = d then 1 else 0)
        split <;> rfl) ⟨Nat.zero_le _, fun c => by show (if c = d then 1 else 0) ≤ 1; split <;> omega⟩ (by
        rcases (show d = 0 ∨ d = 1 ∨ d = 2 ∨ d = 3 by omega) with q | q | q | q <;> subst q <;> decide)
    rw [nI_p] at k1
    refine ⟨M2, ?_, ?_, hC1.tr k3⟩
    · rw [lch, ← ht0]
      exact k1
    · have := hF1.tr k2 (fun a h => Or.inr (by rw [h]; exact Nat.le_refl _))
      simpa using this
  rw [f_L_isCheap, bi_e, gd_of (lx_0 r1 (by omega) (by omega)), show M.1 g (ix 0) = nI fs.length from e1]
  obtain ⟨N, hN⟩ : ∃ N, fs.length = N + 1 := ⟨fs.length - 1, by omega⟩
  rw [hN, nI_m1]
  by_cases c : d + 1 < fs.length
  · rw [if_neg (nI_ge (by omega) (by omega))]
    exact main true (by simp [c])
  · rw [if_pos (nI_le (by omega) (by omega))]
    exact main false (by simp [c])
end IC
