/-! the reference's state while a formula is read; settles -/
def RS2 (M : Mem) (tx : List Int32) (fm i : Nat) (C : List ES) (T : Fm) : Prop :=
  TX M tx ∧ M.1 208 6 = nI i ∧ M.1 208 7 = nI fm ∧ M.1 208 8 = nI (lay0 C ++ T).length ∧ FR M fm (lay0 C ++ T) ∧ M.1 208 9 = nI (layC C ++ T).length ∧ M.1 208 10 = nI (deepC C) ∧ M.1 208 12 = nI (nseg C + (if T = [] then 0 else 1)) ∧ SG2 M C ∧ (T ≠ [] → M.1 213 (nseg C) = nI (lay0 C).length) ∧ M.1 208 14 = nI C.length ∧ WA2 M C
def OC (C : List ES) (T : Fm) : Prop := okC C ∧ (layC C ++ T).length ≤ 30 ∧ deepC C ≤ 8 ∧ (T ≠ [] → wf T)
def stl (k : Nat) : List ES → Fm → List ES × Fm
  | [], T => ([], T)
  | e :: C, T => if k ≤ bnd e.1 then stl k C ((kd0 e.1, 0) :: (e.2 ++ T)) else (e :: C, T)
theorem lay_le : ∀ {C : List ES}, okC C → (lay0 C).length + nseg C ≤ (layC C).length
  | [], _ => by simp [lay0, nseg, layC]
  | e :: C, h => by
    have ih := lay_le (C := C) h.2
    rw [lay0, nseg, layC, opn, List.length_append, List.length_append]
    rcases h.1 with ⟨q | q, e2⟩ | ⟨q, -⟩
    · rw [q, e2]; simp; omega
    · rw [q, e2]; simp; omega
    · have n1 : ¬ e.1 = 40 := by rcases q with q | q | q <;> rw [q] <;> decide
      have n2 : ¬ (e.1 = 40 ∨ e.1 = 33) := by rcases q with q | q | q <;> rw [q] <;> decide
      rw [if_neg n1, if_neg n2, List.length_cons]
      omega
theorem len_C : ∀ {C : List ES}, C.length = nseg C + deepC C
  | [] => rfl
  | e :: C => by
    have ih := len_C (C := C)
    rw [List.length_cons, nseg, deepC]
    split <;> omega
theorem WA2.lt {M M' : Mem} : ∀ {C : List ES}, WA2 M C → (∀ j, j < C.length → M'.1 214 j = M.1 214 j) → WA2 M' C
  | [], _, _ => trivial
  | e :: C, h, hh => ⟨by rw [hh C.length (by simp)]; exact h.1, WA2.lt h.2 (fun j hj => hh j (by simp; omega))⟩
theorem SG2.lt {M M' : Mem} : ∀ {C : List ES}, SG2 M C → (∀ j, j < nseg C → M'.1 213 j = M.1 213 j) → SG2 M' C
  | [], _, _ => trivial
  | e :: C, h, hh => ⟨fun q => by
      rw [hh (nseg C) (by rw [nseg, if_neg q]; omega)]; exact h.1 q, SG2.lt h.2 (fun j hj => hh j (by rw [nseg]; omega))⟩
theorem kindOf_e {M : Mem} {c : Int32} : f_Md_kindOf c M = some (kd0 c, M) := by
  rw [f_Md_kindOf, kd0]
  split
  · rfl
  · split
    · rfl
    · split <;> rfl
theorem kd0_ar {c : Int32} : ar (kd0 c) = if c = 33 then 1 else 2 := by
  rw [kd0]
  by_cases q : c = 33
  · rw [if_pos q, if_pos q]; decide
  · rw [if_neg q, if_neg q]
    split
    · decide
    · split <;> decide
theorem op_wf {e : ES} {T : Fm} (h : (isUn e.1 ∧ e.2 = []) ∨ (isBin e.1 ∧ wf e.2)) (h4 : ¬ e.1 = 40) (hT : wf T) : wf ((kd0 e.1, 0) :: (e.2 ++ T)) := by
  rcases h with ⟨q | q, e2⟩ | ⟨q, e2⟩
  · exact absurd q h4
  · rw [e2, List.nil_append]
    exact wf_un (by rw [kd0_ar, if_pos q]) hT
  · exact wf_bin (by rw [kd0_ar, if_neg (by rcases q with q | q | q <;> rw [q] <;> decide)]) e2 hT
theorem stl_lay {k : Nat} (hk : 1 ≤ k) : ∀ {C : List ES} {T : Fm}, layC (stl k C T).1 ++ (stl k C T).2 = layC C ++ T
  | [], T => rfl
  | e :: C, T => by
    rw [stl]
    by_cases c : k ≤ bnd e.1
    · rw [if_pos c, stl_lay hk, layC, opn, if_neg (fun q => by rw [q] at c; exact absurd c (by rw [bnd, if_pos rfl]; omega))]
      simp
    · rw [if_neg c]
theorem ap_ins {A B : Fm} {q : Nd} : ins A.length q (A ++ B) = A ++ q :: B := ins_at
theorem settle_loop {tx : List Int32} {fm i k : Nat} (hfm : fm ≤ 5) (hk : 1 ≤ k) (hk9 : k ≤ 9) : ∀ (C : List ES) (T : Fm) (M : Mem) (n : Nat), RS2 M tx fm i C T → OC C T → T ≠ [] → C.length < n →
    ∃ M', f_Md_settles_b2 n (nI k) 1 M = some ((), M') ∧ RS2 M' tx fm i (stl k C T).1 (stl k C T).2 ∧ OC (stl k C T).1 (stl k C T).2 ∧ (stl k C T).2 ≠ [] ∧ QP fm M M' := by
  intro C
  induction C with
  | nil =>
    intro T M n h ho hT hn
    obtain ⟨n', rfl⟩ : ∃ n', n = n' + 1 := ⟨n - 1, by omega⟩
    have h14 := h.2.2.2.2.2.2.2.2.2.2.1
    rw [f_Md_settles_b2, if_neg (by decide), if_pos (by rw [h14]; decide)]
    exact ⟨M, rfl, h, ho, hT, QP.rf⟩
  | cons e C ih =>
    intro T M n h ho hT hn
    rw [List.length_cons] at hn
    obtain ⟨n', rfl⟩ : ∃ n', n = n' + 1 := ⟨n - 1, by omega⟩
    obtain ⟨h1, h6, h7, h8, h9, hcn, h10, h12, hsg, hst, h14, hwa⟩ := id h
    obtain ⟨o1, o2, o3, o4⟩ := id ho
    have hlen := len_C (C := e :: C)
    have hle := lay_le o1
    rw [List.length_append] at o2
    rw [List.length_cons] at hlen h14
    have hCl : C.length < 64 := by omega
    have b56 : (if e.1 = 40 then f_Md_settles_b56 (f_Md_settles_b2 n') (nI k) e.1 0 M
  else (if e.1 = 33 then f_Md_settles_b56 (f_Md_settles_b2 n') (nI k) e.1 3 M
  else (if e.1 = 42 then f_Md_settles_b56 (f_Md_settles_b2 n') (nI k) e.1 2 M
  else f_Md_settles_b56 (f_Md_settles_b2 n') (nI k) e.1 1 M))) = f_Md_settles_b56 (f_Md_settles_b2 n') (nI k) e.1 (nI (bnd e.1)) M := by
      rw [bnd]
      split
      · rfl
      · split
        · rfl
        · split <;> rfl
    rw [f_Md_settles_b2, if_neg (by decide), h14, if_neg (show ¬ nI (C.length + 1) ≤ 0 by rw [← nI_0]; exact nI_ge (by omega) (by omega)), nI_m1, gd_of (inbT hCl (by omega)), bi_e, ixN (by omega), hwa.1, b56, f_Md_settles_b56, stl]
    have hb3 : bnd e.1 ≤ 3 := by
      rw [bnd]
      split
      · omega
      · split
        · omega
        · split <;> omega
    by_cases c : k ≤ bnd e.1
    · have n40 : ¬ e.1 = 40 := fun q => by rw [q] at c; exact absurd c (by rw [bnd, if_pos rfl]; omega)
      rw [if_pos c, if_neg (nI_nlt c (by omega)), f_Md_settles_b69, if_neg (by decide)]
      -- the operation's node is put
      have lay1 : lay0 (e :: C) ++ T = lay0 C ++ (e.2 ++ T) := by rw [lay0, List.append_assoc]
      have layL : layC (e :: C) ++ T = layC C ++ ((kd0 e.1, 0) :: (e.2 ++ T)) := by rw [layC, opn, if_neg n40]; simp
      rw [lay1] at h8 h9
      have hl30 : (lay0 C ++ (e.2 ++ T)).length < 30 := by
        have z := congrArg List.length layL
        rw [List.length_append, List.length_append, List.length_cons] at z
        have z2 := lay_le o1.2
        rw [List.length_append]
        omega
      have mk : ∃ M1, f_Md_makes e.1 M = some ((), M1) ∧ FR M1 fm (lay0 C ++ ((kd0 e.1, 0) :: (e.2 ++ T))) ∧ M1.1 208 8 = nI (lay0 C ++ ((kd0 e.1, 0) :: (e.2 ++ T))).length ∧ M1.1 208 12 = nI (nseg C + 1) ∧ (∀ j, j ≠ 8 → j ≠ 12 → M1.1 208 j = M.1 208 j) ∧ M.1 213 (nseg C) = nI (lay0 C).length ∧ Off (fun a => a = 208 ∨ a = 212) M M1 ∧ QP fm M M1 := by
        have hnC : nseg C < 31 := by have := lay_le o1.2; have z := congrArg List.length layL; rw [List.length_append, List.length_append] at z; omega
        have b16 : ∀ M0 : Mem, M0.1 208 12 = nI (nseg C + 1) → M0.1 213 (nseg C) = nI (lay0 C).length → M0.1 208 7 = nI fm → M0.1 208 8 = nI (lay0 C ++ (e.2 ++ T)).length → FR M0 fm (lay0 C ++ (e.2 ++ T)) → ∃ M1, f_Md_makes_b16 e.1 M0 = some ((), M1) ∧ FR M1 fm (lay0 C ++ ((kd0 e.1, 0) :: (e.2 ++ T))) ∧ M1.1 208 8 = nI (lay0 C ++ ((kd0 e.1, 0) :: (e.2 ++ T))).length ∧ (∀ j, j ≠ 8 → M1.1 208 j = M0.1 208 j) ∧ Off (fun a => a = 208 ∨ a = 212) M0 M1 ∧ QP fm M0 M1 := by
          intro M0 q12 q13 q7 q8 q9
          have ha : ar (kd0 e.1) = 0 → (-1000009 : Int32) = 0 := fun q => by rw [kd0_ar] at q; split at q <;> omega
          obtain ⟨M1, u1, u2, u3, u4, u5⟩ := puts_ok (p := (lay0 C).length) (kd := kd0 e.1) (ct := -1000009) (ct' := 0) q7 q8 q9 hfm (by simp) hl30 ha
          rw [ins_at] at u2
          rw [f_Md_makes_b16, q12, nI_m1, gd_of (inbT hnC (by omega)), kindOf_e, bd_s, ixN (by omega), q13, u1, bd_s]
          refine ⟨M1, rfl, u2, ?_, fun j hj => by rw [u3, upd_ne hj], u4, ⟨u4.mono (fun a q => by omega), fun j hj => by rw [u3, upd_ne (by omega)], u5⟩⟩
          rw [u3]
          simp [upd]
          congr 1
        rcases o1.1 with ⟨q | q, e2⟩ | ⟨q, e2⟩
        · exact absurd q n40
        · rw [nseg, if_pos (Or.inr q), if_neg hT, Nat.add_zero] at h12
          have hst' := hst hT
          rw [nseg, if_pos (Or.inr q), lay0, e2, List.append_nil, Nat.add_zero] at hst'
          obtain ⟨M1, v1, v2, v3, v4, v5, v6⟩ := b16 M h12 hst' h7 h8 h9
          rw [f_Md_makes, if_pos q]
          exact ⟨M1, v1, v2, v3, by rw [v4 12 (by omega)]; exact h12, fun j hj _ => v4 j hj, hst', v5, v6⟩
        · have nu : ¬ (e.1 = 40 ∨ e.1 = 33) := by rcases q with q | q | q <;> rw [q] <;> decide
          have n33 : ¬ e.1 = 33 := fun z => nu (Or.inr z)
          rw [nseg, if_neg nu, if_neg hT] at h12
          have hst' := hsg.1 nu
          have e12 : (mset M 208 12 (nI (nseg C + 1))).1 208 12 = nI (nseg C + 1) := by simp [ms1]
          obtain ⟨M1, v1, v2, v3, v4, v5, v6⟩ := b16 (mset M 208 12 (nI (nseg C + 1))) e12 (by rw [mset_ne (by omega)]; exact hst') (by simp [ms1, h7]) (by simp [ms1, h8]) (fun j hj => by rw [mset_ne (by omega)]; exact h9 j hj)
          rw [f_Md_makes, if_neg n33, bm_e, h12, nI_m1]
          refine ⟨M1, v1, v2, v3, by rw [v4 12 (by omega)]; exact e12, fun j hj hj2 => by rw [v4 j hj]; simp [ms1, hj2], hst', ?_, ?_⟩
          · exact (Off.set (S := fun a => a = 208 ∨ a = 212) (Or.inl rfl)).tr v5
          · exact (QP.s (by omega)).tr v6
      obtain ⟨M1, m1, m2, m3, m4, m5, m6, m7, m8⟩ := mk
      rw [m1, bd_s, bm_e, m5 14 (by omega) (by omega), h14, nI_m1]
      have hd1 : deepC (e :: C) = deepC C + (if e.1 = 33 then 1 else 0) := by
        rw [deepC]
        by_cases z : e.1 = 33
        · rw [if_pos (Or.inr z), if_pos z]
        · rw [if_neg (fun w => by rcases w with w | w; exact n40 w; exact z w), if_neg z]
      have fin : ∀ M2 : Mem, M2 = mset (mset M1 208 14 (nI C.length)) 208 10 (nI (deepC C)) → ∃ M', f_Md_settles_b2 n' (nI k) 1 M2 = some ((), M') ∧ RS2 M' tx fm i (stl k C ((kd0 e.1, 0) :: (e.2 ++ T))).1 (stl k C ((kd0 e.1, 0) :: (e.2 ++ T))).2 ∧ OC (stl k C ((kd0 e.1, 0) :: (e.2 ++ T))).1 (stl k C ((kd0 e.1, 0) :: (e.2 ++ T))).2 ∧ (stl k C ((kd0 e.1, 0) :: (e.2 ++ T))).2 ≠ [] ∧ QP fm M M' := by
        intro M2 hM2
        have w2 : ∀ j, j ≠ 14 → j ≠ 10 → M2.1 208 j = M1.1 208 j := fun j z1 z2 => by rw [hM2]; simp [ms1, z1, z2]
        have w14 : M2.1 208 14 = nI C.length := by rw [hM2]; simp [ms1]
        have w10 : M2.1 208 10 = nI (deepC C) := by rw [hM2]; simp [ms1]
        have oo : Off (fun a => a = 208) M1 M2 := by rw [hM2]; exact (Off.set (S := fun a => a = 208) rfl).tr (Off.set (S := fun a => a = 208) rfl)
        have q2 : QP fm M M2 := by rw [hM2]; exact (m8.tr (QP.s (by omega))).tr (QP.s (by omega))
        have a213 : M2.1 213 = M.1 213 := by rw [oo.1 213 (by omega), m7.1 213 (by omega)]
        have a214 : M2.1 214 = M.1 214 := by rw [oo.1 214 (by omega), m7.1 214 (by omega)]
        obtain ⟨M3, r1, r2, r3, r4, r5⟩ := ih ((kd0 e.1, 0) :: (e.2 ++ T)) M2 n'
          ⟨h1.q q2, by rw [w2 6 (by omega) (by omega), m5 6 (by omega) (by omega)]; exact h6, by rw [w2 7 (by omega) (by omega), m5 7 (by omega) (by omega)]; exact h7, by rw [w2 8 (by omega) (by omega)]; exact m3, fun j hj => by rw [oo.1 212 (by omega)]; exact m2 j hj, by rw [w2 9 (by omega) (by omega), m5 9 (by omega) (by omega), hcn, layL], w10, by rw [w2 12 (by omega) (by omega), m4, if_neg (by simp)], hsg.2.lt (fun j _ => by rw [a213]), fun _ => by rw [a213]; exact m6, w14, hwa.2.lt (fun j _ => by rw [a214])⟩
          ⟨o1.2, by rw [← layL, List.length_append]; exact o2, by rw [hd1] at o3; omega, fun _ => op_wf o1.1 n40 (o4 hT)⟩ (by simp) (by omega)
        exact ⟨M3, r1, r2, r3, r4, q2.tr r5⟩
      have e10 : (mset M1 208 14 (nI C.length)).1 208 10 = nI (deepC (e :: C)) := by
        rw [ms1, if_pos rfl, if_neg (by omega), m5 10 (by omega) (by omega)]; exact h10
      rw [e10, hd1]
      by_cases z : e.1 = 33
      · rw [if_pos z, if_pos z, bm_e, nI_m1]
        exact fin _ rfl
      · rw [if_neg z, if_neg z, bm_e, Nat.add_zero, show nI (deepC C) - 0 = nI (deepC C) by grind]
        exact fin _ rfl
    · rw [if_neg c, if_pos (nI_lt (by omega) (by omega)), f_Md_settles_b69, if_pos rfl]
      obtain ⟨n'', rfl⟩ : ∃ n'', n' = n'' + 1 := ⟨n' - 1, by omega⟩
      rw [f_Md_settles_b2, if_pos rfl]
      exact ⟨M, rfl, h, ho, hT, QP.rf⟩
theorem settles_ok {tx : List Int32} {fm i k : Nat} {C : List ES} {T : Fm} {M : Mem} (hfm : fm ≤ 5) (hk : 1 ≤ k) (hk9 : k ≤ 9) (h : RS2 M tx fm i C T) (ho : OC C T) (hT : T ≠ []) : ∃ M', f_Md_settles (nI k) M = some ((), M') ∧ RS2 M' tx fm i (stl k C T).1 (stl k C T).2 ∧ OC (stl k C T).1 (stl k C T).2 ∧ (stl k C T).2 ≠ [] ∧ QP fm M M' := by
  have h2 := lay_le ho.1
  have h3 := len_C (C := C)
  have h4 := ho.2.1
  rw [List.length_append] at h4
  exact settle_loop hfm hk hk9 C T M FU h ho hT (by rw [FU_e]; have := ho.2.2.1; omega)
