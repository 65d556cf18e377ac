/-! closing and ending, on the reference's side -/
theorem wa_all {M : Mem} {P : Int32 → Prop} : ∀ {C : List ES}, WA2 M C → (∀ e ∈ C, P e.1) → ∀ t, t < C.length → P (M.1 214 t)
  | [], _, _, t, ht => absurd ht (Nat.not_lt_zero _)
  | e :: C, h, hp, t, ht => by
    rw [List.length_cons] at ht
    by_cases c : t = C.length
    · rw [c, h.1]; exact hp e (by simp)
    · exact wa_all h.2 (fun e he => hp e (by simp [he])) t (by omega)
theorem wa_ex {M : Mem} {e : ES} : ∀ {C : List ES}, WA2 M C → e ∈ C → ∃ t, t < C.length ∧ M.1 214 t = e.1
  | [], _, he => by cases he
  | e' :: C, h, he => by
    rcases List.mem_cons.mp he with q | q
    · exact ⟨C.length, by simp, by rw [h.1, q]⟩
    · obtain ⟨t, h1, h2⟩ := wa_ex h.2 q
      exact ⟨t, by simp; omega, h2⟩
theorem open_1 {M : Mem} {len : Nat} (hl : len ≤ 64) (h14 : M.1 208 14 = nI len) : ∀ (n j : Nat), j ≤ len → len - j < n → f_Md_isOpen_b4 n 1 (nI j) M = some (1, M) := by
  intro n
  induction n with
  | zero => intro j _ h; omega
  | succ n ih =>
    intro j hj hn
    rw [f_Md_isOpen_b4, h14]
    by_cases c : j = len
    · rw [c, if_pos (nI_le (Nat.le_refl _) (by omega)), isB1, gd_t]
    · rw [if_neg (nI_ge (by omega) (by omega)), if_neg (by decide), bi_e, nI_s]
      exact ih (j + 1) (by omega) (by omega)
theorem open_loop {M : Mem} {len : Nat} (hl : len ≤ 64) (h14 : M.1 208 14 = nI len) : ∀ (n j : Nat), j ≤ len → len - j < n → ((∃ t, j ≤ t ∧ t < len ∧ M.1 214 t = 40) → f_Md_isOpen_b4 n 0 (nI j) M = some (1, M)) ∧ ((∀ t, j ≤ t → t < len → ¬ M.1 214 t = 40) → f_Md_isOpen_b4 n 0 (nI j) M = some (0, M)) := by
  intro n
  induction n with
  | zero => intro j _ h; omega
  | succ n ih =>
    intro j hj hn
    rw [f_Md_isOpen_b4, h14]
    by_cases c : j = len
    · rw [c, if_pos (nI_le (Nat.le_refl _) (by omega)), isB0, gd_t]
      exact ⟨fun ⟨t, h1, h2, _⟩ => by omega, fun _ => rfl⟩
    · rw [if_neg (nI_ge (by omega) (by omega)), if_pos rfl, gd_of (inbT (by omega) (by omega)), ixN (by omega)]
      obtain ⟨i1, i2⟩ := ih (j + 1) (by omega) (by omega)
      by_cases d : M.1 214 j = 40
      · rw [if_pos d, bi_e, nI_s, open_1 hl h14 n (j + 1) (by omega) (by omega)]
        exact ⟨fun _ => rfl, fun q => absurd d (q j (Nat.le_refl _) (by omega))⟩
      · rw [if_neg d, bi_e, nI_s]
        refine ⟨fun ⟨t, h1, h2, h3⟩ => i1 ⟨t, ?_, h2, h3⟩, fun q => i2 (fun t h1 h2 => q t (by omega) h2)⟩
        rcases Nat.eq_or_lt_of_le h1 with z | z
        · rw [← z] at h3; exact absurd h3 d
        · exact z
theorem isOpen_y {M : Mem} {C : List ES} (hl : C.length ≤ 64) (h14 : M.1 208 14 = nI C.length) (hw : WA2 M C) {e : ES} (he : e ∈ C) (h40 : e.1 = 40) : f_Md_isOpen M = some (1, M) := by
  obtain ⟨t, h1, h2⟩ := wa_ex hw he
  exact (open_loop hl h14 FU 0 (Nat.zero_le _) (by rw [FU_e]; omega)).1 ⟨t, Nat.zero_le _, h1, h2.trans h40⟩
theorem isOpen_n {M : Mem} {C : List ES} (hl : C.length ≤ 64) (h14 : M.1 208 14 = nI C.length) (hw : WA2 M C) (h : ∀ e ∈ C, ¬ e.1 = 40) : f_Md_isOpen M = some (0, M) :=
  (open_loop hl h14 FU 0 (Nat.zero_le _) (by rw [FU_e]; omega)).2 (fun t _ h2 => wa_all hw (P := fun c => ¬ c = 40) h t h2)
theorem stl_mem {k : Nat} : ∀ {C : List ES} {T : Fm} {e : ES}, e ∈ (stl k C T).1 → e ∈ C
  | [], T, e, h => h
  | e' :: C, T, e, h => by
    rw [stl] at h
    by_cases c : k ≤ bnd e'.1
    · rw [if_pos c] at h; exact List.mem_cons_of_mem _ (stl_mem h)
    · rw [if_neg c] at h; exact h
theorem stl_none {k : Nat} (hk : 1 ≤ k) : ∀ {C : List ES} {T T' : Fm}, stl k C T = ([], T') → ∀ e ∈ C, ¬ e.1 = 40
  | [], T, T', _, e, he => by cases he
  | e' :: C, T, T', h, e, he => by
    rw [stl] at h
    by_cases c : k ≤ bnd e'.1
    · rw [if_pos c] at h
      rcases List.mem_cons.mp he with q | q
      · rw [q]
        intro z
        rw [z] at c
        exact absurd c (by rw [bnd, if_pos rfl]; omega)
      · exact stl_none hk h e q
    · rw [if_neg c] at h
      cases h
theorem OC_len {C : List ES} {T : Fm} (h : OC C T) : C.length ≤ 38 := by
  have h2 := lay_le h.1
  have h3 := len_C (C := C)
  have h4 := h.2.1
  rw [List.length_append] at h4
  have := h.2.2.1
  omega
theorem step_close {tx : List Int32} {fm i : Nat} {C C2 : List ES} {T T2 : Fm} {M : Mem} (hx : tx.length ≤ 100) (hfm : fm ≤ 5) (hi : i ≤ tx.length) (h : RS2 M tx fm i C2 T2) (ho : OC C2 T2) (hT : T2 ≠ []) (hs' : sg tx i = 41) (hst : stl 1 C2 T2 = ((40, []) :: C, T)) :
    ∃ M', RUN2 M 0 1 M' 0 ∧ RS2 M' tx fm (i + 1) (stl 3 C T).1 (stl 3 C T).2 ∧ OC (stl 3 C T).1 (stl 3 C T).2 ∧ (stl 3 C T).2 ≠ [] ∧ QP fm M M' := by
  have eh : hs tx i = 41 := by rw [hs, if_pos (sg_lt (by rw [hs']; decide)), hs']
  have hl := OC_len ho
  have hop := isOpen_y (by omega) h.2.2.2.2.2.2.2.2.2.2.1 h.2.2.2.2.2.2.2.2.2.2.2 (stl_mem (k := 1) (C := C2) (T := T2) (e := (40, [])) (by rw [hst]; simp)) rfl
  obtain ⟨M1, u1, u2, u3, u4, u5⟩ := settles_ok hfm (Nat.le_refl 1) (by omega) h ho hT
  rw [hst] at u2 u3 u4
  simp only at u2 u3 u4
  obtain ⟨h1, h6, h7, h8, hF, hcn, h10, h12, hsg, hst2, h14, hwa⟩ := id u2
  obtain ⟨o1, o2, o3, o4⟩ := id u3
  have el : layC ((40, []) :: C) = layC C := by rw [layC, opn, if_pos rfl, List.append_nil]
  have e0 : lay0 ((40, []) :: C) = lay0 C := by rw [lay0, List.append_nil]
  have en : nseg ((40, []) :: C) = nseg C := by rw [nseg, if_pos (Or.inl rfl), Nat.add_zero]
  have ed : deepC ((40, []) :: C) = deepC C + 1 := by rw [deepC, if_pos (Or.inl rfl)]
  rw [e0] at h8 hF hst2
  rw [el] at hcn o2
  rw [en] at h12 hst2
  rw [ed] at h10 o3
  rw [List.length_cons] at h14
  have qq : QP fm M1 (mset (mset (mset M1 208 14 (nI C.length)) 208 10 (nI (deepC C))) 208 6 (nI (i + 1))) := ((QP.s (by omega)).tr (QP.s (by omega))).tr (QP.s (by omega))
  have hS2 : RS2 (mset (mset (mset M1 208 14 (nI C.length)) 208 10 (nI (deepC C))) 208 6 (nI (i + 1))) tx fm (i + 1) C T := by
    refine ⟨h1.q qq, by simp [ms1], by simp [ms1, h7], ?_, fun k hk => ?_, ?_, by simp [ms1], ?_, hsg.2.lt (fun j _ => by simp [ms1]), fun q => ?_, by simp [ms1], hwa.2.lt (fun j _ => by simp [ms1])⟩
    · simp [ms1]; rw [h8]; simp
    · have := hF k hk
      simpa [ms1] using this
    · simp [ms1]; rw [hcn]; simp
    · simp [ms1]; rw [h12]
    · have := hst2 q
      simpa [ms1] using this
  have hO2 : OC C T := ⟨o1.2, o2, by omega, o4⟩
  obtain ⟨M3, v1, v2, v3, v4, v5⟩ := settles_ok hfm (show 1 ≤ 3 by omega) (by omega) hS2 hO2 u4
  refine ⟨M3, fun m => ?_, v2, v3, v4, (u5.tr qq).tr v5⟩
  have x10 : (mset M1 208 14 (nI C.length)).1 208 10 = nI (deepC C + 1) := by simp [ms1, h10]
  have x6 : (mset (mset M1 208 14 (nI C.length)) 208 10 (nI (deepC C))).1 208 6 = nI i := by simp [ms1, h6]
  rw [f_Md_formulaRead_b27, here_ok h.1 h.2.1 hi hx, bd_s, if_pos rfl, if_pos eh, hop, bd_s, if_neg (by decide), show f_Md_settles 1 M = some ((), M1) from u1, bd_s, h14, nI_m1, bm_e, x10, nI_m1, bm_e, x6, nI_s, bm_e]
  rw [show f_Md_settles 3 (mset (mset (mset M1 208 14 (nI C.length)) 208 10 (nI (deepC C))) 208 6 (nI (i + 1))) = some ((), M3) from v1, bd_s]
theorem step_bad {tx : List Int32} {fm i : Nat} {C : List ES} {T : Fm} {M : Mem} (hx : tx.length ≤ 100) (hfm : fm ≤ 5) (hi : i ≤ tx.length) (h : RS2 M tx fm i C T) (ho : OC C T) (hT : T ≠ []) (n41 : ¬ sg tx i = 41) (nb : ¬ isBin (sg tx i)) {e : ES} (he : e ∈ C) (h40 : e.1 = 40) : ∃ M', END2 M 0 1 M' 0 ∧ M'.1 208 6 = nI i ∧ QW M M' := by
  have hl := OC_len ho
  have hop := isOpen_y (by omega) h.2.2.2.2.2.2.2.2.2.2.1 h.2.2.2.2.2.2.2.2.2.2.2 he h40
  obtain ⟨M1, u1, u2, u3, u4, u5⟩ := settles_ok hfm (show 1 ≤ 9 by omega) (by omega) h ho hT
  have n : ∀ x, x ≠ 0 → x ≠ -1000009 → ¬ sg tx i = x → ¬ hs tx i = x := fun x h0 h9 q w => q ((hs_eq h0 h9).mp w)
  refine ⟨mset M1 212 (10 + fm) (M1.1 208 8), fun m => ?_, by rw [mset_ne (by omega)]; exact u2.2.1, u5.w.tr ⟨Off.set (Or.inr (Or.inl rfl)), fun k hk => by rw [mset_ne (by omega)]⟩⟩
  rw [f_Md_formulaRead_b27, here_ok h.1 h.2.1 hi hx, bd_s, if_pos rfl, if_neg (n 41 (by decide) (by decide) n41), f_Md_formulaRead_b129, if_neg (n 43 (by decide) (by decide) (fun q => nb (Or.inr (Or.inl q)))), if_neg (n 45 (by decide) (by decide) (fun q => nb (Or.inr (Or.inr q)))), if_neg (n 42 (by decide) (by decide) (fun q => nb (Or.inl q))), hop, bd_s, if_neg (by decide), f_Md_formulaRead_b230, if_pos rfl, f_Md_formulaRead_b242]
  rw [show f_Md_settles 9 M = some ((), M1) from u1, bd_s, u2.2.2.1, w10, gd_of (inbT (by omega) (by omega)), bm_e, isB0, gd_t, ixN (by omega)]
theorem step_good {tx : List Int32} {fm i : Nat} {C2 : List ES} {T T2 : Fm} {M : Mem} (hx : tx.length ≤ 100) (hfm : fm ≤ 5) (hi : i ≤ tx.length) (h : RS2 M tx fm i C2 T2) (ho : OC C2 T2) (hT : T2 ≠ []) (nb : ¬ isBin (sg tx i)) (hst : stl 1 C2 T2 = ([], T)) : ∃ M1, END2 M 0 1 (mset M1 212 (10 + fm) (nI T.length)) 1 ∧ M1.1 208 6 = nI i ∧ FR M1 fm T ∧ QP fm M M1 := by
  have hl := OC_len ho
  have hop := isOpen_n (by omega) h.2.2.2.2.2.2.2.2.2.2.1 h.2.2.2.2.2.2.2.2.2.2.2 (stl_none (Nat.le_refl 1) hst)
  obtain ⟨M1, u1, u2, u3, u4, u5⟩ := settles_ok hfm (Nat.le_refl 1) (by omega) h ho hT
  rw [hst] at u2 u3 u4
  simp only at u2 u3 u4
  have n : ∀ x, x ≠ 0 → x ≠ -1000009 → ¬ sg tx i = x → ¬ hs tx i = x := fun x h0 h9 q w => q ((hs_eq h0 h9).mp w)
  refine ⟨M1, fun m => ?_, u2.2.1, u2.2.2.2.2.1, u5⟩
  have eb : f_Md_formulaRead_b27 (m + 1) 0 M = f_Md_formulaRead_b129 (f_Md_formulaRead_b27 m) (hs tx i) M := by
    rw [f_Md_formulaRead_b27, here_ok h.1 h.2.1 hi hx, bd_s, if_pos rfl]
    split
    · rw [hop, bd_s, if_pos rfl]
    · rfl
  rw [eb, f_Md_formulaRead_b129, if_neg (n 43 (by decide) (by decide) (fun q => nb (Or.inr (Or.inl q)))), if_neg (n 45 (by decide) (by decide) (fun q => nb (Or.inr (Or.inr q)))), if_neg (n 42 (by decide) (by decide) (fun q => nb (Or.inl q))), hop, bd_s, if_pos rfl, f_Md_formulaRead_b230, if_neg (by decide), f_Md_formulaRead_b242]
  rw [show f_Md_settles 1 M = some ((), M1) from u1, bd_s, u2.2.2.1, w10, gd_of (inbT (by omega) (by omega)), bm_e, isB1, gd_t, ixN (by omega), u2.2.2.2.1]
  rfl
