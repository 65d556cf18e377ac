/-! one turn of the reference's reading -/
def RUN2 (M : Mem) (w : Int32) (c : Nat) (M' : Mem) (w' : Int32) : Prop := ∀ m, f_Md_formulaRead_b27 (m + c) w M = f_Md_formulaRead_b27 m w' M'
def END2 (M : Mem) (w : Int32) (c : Nat) (M' : Mem) (b : Int32) : Prop := ∀ m, f_Md_formulaRead_b27 (m + c) w M = some (b, M')
theorem RUN2.tr {M M1 M2 : Mem} {w w1 w2 : Int32} {a b : Nat} (h : RUN2 M w a M1 w1) (g : RUN2 M1 w1 b M2 w2) : RUN2 M w (a + b) M2 w2 := fun m => by
  rw [Nat.add_comm a b, ← Nat.add_assoc, h, g]
theorem RUN2.en {M M1 M2 : Mem} {w w1 x : Int32} {a b : Nat} (h : RUN2 M w a M1 w1) (g : END2 M1 w1 b M2 x) : END2 M w (a + b) M2 x := fun m => by
  rw [Nat.add_comm a b, ← Nat.add_assoc, h, g]
theorem step_fac {tx : List Int32} {fm i : Nat} {C : List ES} {T : Fm} {M : Mem} (hx : tx.length ≤ 100) (hi : i ≤ tx.length) (h : RS2 M tx fm i C T) (m : Nat) : f_Md_formulaRead_b27 (m + 1) 1 M = bd (f_Md_factor M) fun r8 M8 => (if r8 = 0 then gd (isB 0) (some (0, M8)) else (if (M8.1 208 15) = 0 then f_Md_formulaRead_b57 (f_Md_formulaRead_b27 m) 1 M8 else f_Md_formulaRead_b57 (f_Md_formulaRead_b27 m) 0 M8)) := by
  rw [f_Md_formulaRead_b27, here_ok h.1 h.2.1 hi hx, bd_s, if_neg (by decide)]
theorem step_fail {tx : List Int32} {fm i : Nat} {C : List ES} {T : Fm} {M M' : Mem} (hx : tx.length ≤ 100) (hi : i ≤ tx.length) (h : RS2 M tx fm i C T) (hf : f_Md_factor M = some (0, M')) : END2 M 1 1 M' 0 := fun m => by
  rw [step_fac hx hi h, hf, bd_s, if_pos rfl, isB0, gd_t]
theorem step_open {tx : List Int32} {fm i : Nat} {C : List ES} {T : Fm} {M M' : Mem} (hx : tx.length ≤ 100) (hi : i ≤ tx.length) (h : RS2 M tx fm i C T) (hf : f_Md_factor M = some (1, M')) (h15 : M'.1 208 15 = 0) : RUN2 M 1 1 M' 1 := fun m => by
  rw [step_fac hx hi h, hf, bd_s, if_neg (by decide), if_pos h15, f_Md_formulaRead_b57, if_pos h15]
theorem step_leaf {tx : List Int32} {fm i : Nat} {C : List ES} {T : Fm} {M M' M2 : Mem} (hx : tx.length ≤ 100) (hi : i ≤ tx.length) (h : RS2 M tx fm i C T) (hf : f_Md_factor M = some (1, M')) (h15 : M'.1 208 15 = 1) (hs : f_Md_settles 3 M' = some ((), M2)) : RUN2 M 1 1 M2 0 := fun m => by
  rw [step_fac hx hi h, hf, bd_s, if_neg (by decide), if_neg (by rw [h15]; decide), f_Md_formulaRead_b57, if_neg (by rw [h15]; decide), hs, bd_s]
def bk (s : Int32) : Nat := if s = 42 then 2 else 1
theorem step_op {tx : List Int32} {fm i : Nat} {C C2 : List ES} {T T2 : Fm} {M : Mem} {s : Int32} (hx : tx.length ≤ 100) (hfm : fm ≤ 5) (hi : i ≤ tx.length) (h : RS2 M tx fm i C2 T2) (ho : OC C2 T2) (hT : T2 ≠ []) (hs' : sg tx i = s) (hb : isBin s) (hst : stl (bk s) C2 T2 = (C, T)) :
    if (layC C ++ T).length = 30 then END2 M 0 1 M 0 else ∃ M', RUN2 M 0 1 M' 1 ∧ RS2 M' tx fm (i + 1) ((s, T) :: C) [] ∧ OC ((s, T) :: C) [] ∧ QP fm M M' := by
  have hne : s ≠ 0 := by rcases hb with q | q | q <;> rw [q] <;> decide
  have n40 : ¬ s = 40 := by rcases hb with q | q | q <;> rw [q] <;> decide
  have n33 : ¬ s = 33 := by rcases hb with q | q | q <;> rw [q] <;> decide
  have n41 : ¬ s = 41 := by rcases hb with q | q | q <;> rw [q] <;> decide
  have eh : hs tx i = s := by rw [hs, if_pos (sg_lt (by rw [hs']; exact hne)), hs']
  have hbk : 1 ≤ bk s ∧ bk s ≤ 9 := by rw [bk]; split <;> omega
  have hlay := stl_lay (k := bk s) hbk.1 (C := C2) (T := T2)
  rw [hst] at hlay
  simp only at hlay
  have e1 : ∀ m, f_Md_formulaRead_b27 (m + 1) 0 M = f_Md_formulaRead_b147 (f_Md_formulaRead_b27 m) s M := by
    intro m
    rw [f_Md_formulaRead_b27, here_ok h.1 h.2.1 hi hx, bd_s, if_pos rfl, eh, if_neg n41, f_Md_formulaRead_b129]
    rcases hb with q | q | q
    · rw [if_neg (show ¬ s = 43 by rw [q]; decide), if_neg (show ¬ s = 45 by rw [q]; decide), if_pos q]
    · rw [if_pos q]
    · rw [if_neg (show ¬ s = 43 by rw [q]; decide), if_pos q]
  have h9 := h.2.2.2.2.2.1
  rw [← hlay] at h9
  have hl30 := ho.2.1
  rw [← hlay] at hl30
  by_cases c : (layC C ++ T).length = 30
  · rw [if_pos c]
    intro m
    rw [e1, f_Md_formulaRead_b147, h9, if_pos (by rw [c]; rfl), isB0, gd_t]
  · rw [if_neg c]
    obtain ⟨M1, u1, u2, u3, u4, u5⟩ := settles_ok hfm hbk.1 hbk.2 h ho hT
    rw [hst] at u2 u3 u4
    simp only at u2 u3 u4
    obtain ⟨h1, h6, h7, h8, hF, hcn, h10, h12, hsg, hst2, h14, hwa⟩ := id u2
    obtain ⟨o1, o2, o3, o4⟩ := id u3
    have hlen := len_C (C := C)
    have hle := lay_le o1
    rw [List.length_append] at o2
    have x14 : (mset M1 214 C.length s).1 208 14 = nI C.length := by rw [mset_ne (by omega)]; exact h14
    have x9 : (mset (mset M1 214 C.length s) 208 14 (nI (C.length + 1))).1 208 9 = nI (layC C ++ T).length := by simp [ms1]; rw [hcn]; simp
    have x6 : (mset (mset (mset M1 214 C.length s) 208 14 (nI (C.length + 1))) 208 9 (nI ((layC C ++ T).length + 1))).1 208 6 = nI i := by simp [ms1, h6]
    have qq : QP fm M1 (mset (mset (mset (mset M1 214 C.length s) 208 14 (nI (C.length + 1))) 208 9 (nI ((layC C ++ T).length + 1))) 208 6 (nI (i + 1))) := (((QP.a (Or.inr rfl)).tr (QP.s (by omega))).tr (QP.s (by omega))).tr (QP.s (by omega))
    have nu : ¬ (s = 40 ∨ s = 33) := fun q => by rcases q with q | q; exact n40 q; exact n33 q
    refine ⟨_, ?_, ⟨h1.q qq, by simp [ms1], by simp [ms1, h7], ?_, fun k hk => ?_, ?_, ?_, ?_, ⟨fun _ => ?_, hsg.lt (fun j _ => by simp [ms1])⟩, fun q => absurd rfl q, by simp [ms1], ⟨by simp [ms1], hwa.lt (fun j hj => ?_)⟩⟩, ⟨⟨Or.inr ⟨hb, o4 u4⟩, o1⟩, ?_, ?_, fun q => absurd rfl q⟩, u5.tr qq⟩
    · intro m
      have ek : f_Md_formulaRead_b147 (f_Md_formulaRead_b27 m) s M = f_Md_formulaRead_b170 (f_Md_formulaRead_b27 m) s (nI (bk s)) M := by
        rw [f_Md_formulaRead_b147, h9, if_neg (fun q => c ((nI_eq (by omega) (by omega)).mp (q.trans (show (30 : Int32) = nI 30 from rfl)))), bk]
        split <;> rfl
      rw [e1, ek, f_Md_formulaRead_b170, u1, bd_s, h14, gd_of (inbT (by omega) (by omega)), bm_e, ixN (by omega), x14, nI_s, bm_e, x9, nI_s, bm_e, x6, nI_s, bm_e]
    · rw [lay0, List.append_nil]; simp [ms1]; rw [h8]; simp
    · rw [lay0, List.append_nil] at hk ⊢
      have := hF k hk
      simpa [ms1] using this
    · rw [List.append_nil, layC, opn, if_neg n40]; simp [ms1, Nat.add_assoc]
    · rw [deepC, if_neg nu]; simp [ms1, h10]
    · rw [nseg, if_neg nu]; simp [ms1]; rw [h12, if_neg u4]
    · have := hst2 u4
      simpa [ms1] using this
    · have : j ≠ C.length := by omega
      simp [ms1, this]
    · rw [List.append_nil, layC, opn, if_neg n40, List.length_append, List.length_cons]
      rw [List.length_append] at c
      simp only
      omega
    · rw [deepC, if_neg nu]; exact o3
