/-! the constructor of LeastPlaces -/
theorem hS21 : ∀ i, i < 5 → (sh (1 + (54 + 21 * i))).1 = 4 := by decide +kernel
theorem hE8 : ∀ i, i < 6 → (sh (1 + (159 + 8 * i))).1 = 0 := by decide +kernel
theorem E_H {G : GT} : En G 45 = .inl (G.1.2 3, 5, .inr (.inr (.inr (.inr fun i => some (G.2 + hM M0 i))))) := by
  rw [En, ent_h s45, n45]
theorem E_X {G : GT} : En G 46 = .inl (G.1.2 4, 6, .inr (.inr (.inr (.inr fun i => some (G.2 + rf 46 i))))) := by
  rw [En, ent_e s46, n46]
theorem E_o6 {G : GT} : En G 0 = .inr (6, [.ref (G.2 + 1), .ref (G.2 + 24), .ref (G.2 + 45), .int 0, .ref (G.2 + 46), .ref (G.2 + 47), .ref (G.2 + 52)]) := by
  have e0 : fv G.2 6 0 M0 0 = .ref (G.2 + 1) := fv_r (by decide) (by decide +kernel)
  have e1 : fv G.2 6 0 M0 1 = .ref (G.2 + 24) := fv_r (by decide) (by decide +kernel)
  have e2 : fv G.2 6 0 M0 2 = .ref (G.2 + 45) := fv_r (by decide) (by decide +kernel)
  have e3 : fv G.2 6 0 M0 3 = .int 0 := fv_i (by decide) (by decide +kernel)
  have e4 : fv G.2 6 0 M0 4 = .ref (G.2 + 46) := fv_r (by decide) (by decide +kernel)
  have e5 : fv G.2 6 0 M0 5 = .ref (G.2 + 47) := fv_r (by decide) (by decide +kernel)
  have e6 : fv G.2 6 0 M0 6 = .ref (G.2 + 52) := fv_r (by decide) (by decide +kernel)
  rw [En, ent_o (shN6 s0) (by decide), show List.range 7 = [0, 1, 2, 3, 4, 5, 6] from rfl, List.map_cons, List.map_cons, List.map_cons, List.map_cons, List.map_cons, List.map_cons, List.map_cons, List.map_nil, e0, e1, e2, e3, e4, e5, e6]
section LPL
variable {p : Program} {l : Launch} {e : Env} {s : State} {m : MethodId} {args : Array Value} {below : List Frame} {meth : Method} {c : Code} {G : GT} {f : Nat → va_E}
set_option maxHeartbeats 4000000 in
theorem lp_loop2 (C0 : CB p s m args meth c G cX6_init 2 RX6 1) : ∀ k i, i + k = 6 → ∀ (H : Heap) (locs : List Loc) (ls : Array Slot), lv_has ls 2 [(1, .int (nI i)), (0, .ref (G.2 + 0))] →
    BW G (1 + (159 + 8 * i)) (lk [(0, .inr (6, [.ref (G.2 + 1), .ref (G.2 + 24), .ref (G.2 + 45), .int 0, .ref (G.2 + 46), .ref (G.2 + 47), .ref (G.2 + 52)])), (46, .inl (G.1.2 4, 6, .inr (.inr (.inr (.inr (rfi G.2 (rf 46) i))))))] (cE G f 0)) H → va_S (fun q => G.2 ≤ q) s.heap H locs →
    W p l e (rmB 4 207 8144) s m args below meth c H locs (159 + 8 * i) (5924 + 370 * i) (MQ below (QB G (1 + 207) (cE G f 0)) args s 207 8144 (fun q => G.2 ≤ q)) (F0 m 97 ls []) := by
  have hx := C0.1
  have hb := C0.2.1
  intro k
  induction k with
  | zero =>
    intro i hi H locs ls hl hP hS
    have h6 : i = 6 := by omega
    subst h6
    refine lv_iload_n hx hb dX6_init_97 rfl (lv_at hl 0 rfl) ?_
    refine lv_aload_n hx hb dX6_init_98 rfl (lv_at hl 1 rfl) ?_
    refine B_get C0 hP 4 (by omega) (if_pos rfl) inG_X6 rfl (by decide) xf6_29 rfl rfl dX6_init_99 ?_
    refine B_alen C0 hP (t0 := 4) rfl (by omega) (by rw [lk_c, if_neg (show ¬ (46 : Nat) = 0 by decide), lk_c]; exact if_pos rfl) (v := 6) rfl dX6_init_102 ?_
    refine lv_icmp_ge (tgt := 126) hx hb dX6_init_103 (by decide) (fun _ => ?_) (fun c1 => absurd (show (6 : Int32) ≤ nI 6 by decide +kernel) c1)
    have hP : BW G (1 + (159 + 8 * 6)) (lk [(0, .inr (6, [.ref (G.2 + 1), .ref (G.2 + 24), .ref (G.2 + 45), .int 0, .ref (G.2 + 46), .ref (G.2 + 47), .ref (G.2 + 52)]))] (cE G f 0)) H := lk_fin (hP.ref (x := 46) (by omega) (by rw [lk_c, if_neg (show ¬ (46 : Nat) = 0 by decide), lk_c]; exact if_pos rfl) (g' := fun i => some (G.2 + rf 46 i)) fun j hj => by rw [rfi, if_pos hj]) (fun c hc => by simp only [lk_c, lk_0, if_neg hc]) (by rw [lk_c, if_neg (show ¬ (46 : Nat) = 0 by decide), lk_0, cE_ge (by omega)]; exact E_X)
    have hP := lk_end hP E_o6 (Nat.le_refl _) (fun q hq => by cases hq)
    exact B_ret C0 hP hS dX6_init_126
  | succ k ih =>
    intro i hi H locs ls hl hP hS
    have h1 := hE8 i (by omega)
    have h3 : rf 46 i = 1 + (159 + 8 * i) := by rw [(sh_E.2 i (by omega)).1]; omega
    have h4 : (1 + (159 + 8 * i) - 160) / 8 = i := by omega
    refine lv_iload_n hx hb dX6_init_97 rfl (lv_at hl 0 rfl) ?_
    refine lv_aload_n hx hb dX6_init_98 rfl (lv_at hl 1 rfl) ?_
    refine B_get C0 hP 4 (by omega) (if_pos rfl) inG_X6 rfl (by decide) xf6_29 rfl rfl dX6_init_99 ?_
    refine B_alen C0 hP (t0 := 4) rfl (by omega) (by rw [lk_c, if_neg (show ¬ (46 : Nat) = 0 by decide), lk_c]; exact if_pos rfl) (v := 6) rfl dX6_init_102 ?_
    refine lv_icmp_ge (tgt := 126) hx hb dX6_init_103 (by decide) (fun c1 => absurd c1 (nI_ge (b := 6) (by omega) (by omega))) (fun _ => ?_)
    refine lv_aload_n hx hb dX6_init_106 rfl (lv_at hl 1 rfl) ?_
    refine B_get C0 hP 4 (by omega) (if_pos rfl) inG_X6 rfl (by decide) xf6_29 rfl rfl dX6_init_107 ?_
    refine lv_iload_n hx hb dX6_init_110 rfl (lv_at hl 0 rfl) ?_
    refine B_new C0 hP hS inG_X0 tyX0 tyX0_ok xl6_27 xn0 w0X0 (ci := 0) rfl [.int 0, .null, .int 0, .null, .null, .null, .null] (by decide) (by show 159 + 8 * i + 1 ≤ 207; omega) (by show 5924 + 370 * i + 7 ≤ 8144; omega) dX6_init_111 (fun H hP hS => ?_)
    refine lv_dup hx hb dX6_init_114 rfl ?_
    refine lv_iload_n hx hb dX6_init_115 rfl (lv_at hl 0 rfl) ?_
    refine B_call C0 hP hS 1 (a := 1 + (159 + 8 * i)) (av := [.int (nI ((1 + (159 + 8 * i) - 160) / 8))]) (mi_X0 (a := 1 + (159 + 8 * i)) h1 fup_eq) rfl (by decide) (by decide) xcX0 xm6_47 w0X0 xiX0 rfl (by decide +kernel) rfl hl.1 (Nat.le_of_ble_eq_true rfl) (by show 159 + 8 * i + 1 + 7 ≤ 207; omega) (by show 5924 + 370 * i + 7 + 363 ≤ 8144; omega) (by rw [h4]; rfl) dX6_init_116 (fun H locs hP hS => ?_)
    have hP := lk_back hP (by omega) (fun q hq => by
      cases hq with
      | head => show 0 < 1 + (159 + 8 * i); omega
      | tail _ h => cases h with
        | head => show 46 < 1 + (159 + 8 * i); omega
        | tail _ h => cases h)
    refine B_astq C0 hP hS (a := 46) (t0 := 4) (ci := 0) (v := 1 + (159 + 8 * i)) rfl rfl (by omega) (by rw [lk_c, if_neg (show ¬ (46 : Nat) = 0 by decide), lk_c]; exact if_pos rfl) (by omega) (by rw [lk_c, if_neg (by show 1 + (159 + 8 * i) ≠ 0; omega), lk_c, if_neg (by show 1 + (159 + 8 * i) ≠ 46; omega), lk_0, cE_ge (by omega), E_E h1]) (inb_nI (by omega) (by omega)) dX6_init_119 (fun H locs hP hS => ?_)
    have hP := lk_3 hP (by decide)
    rw [show ix (nI i) = i from nI_clamp (by omega), rfi_up h3] at hP
    refine lv_iinc (k := 0) (v := nI (i + 1)) (lv' := [(1, .int (nI (i + 1))), (0, .ref (G.2 + 0))]) hx hb dX6_init_120 hl rfl (nI_1 i) (by decide) rfl (fun ls hl => ?_)
    refine lv_goto (tgt := 97) hx hb dX6_init_123 (by decide) ?_
    refine W.cs (cells' := 159 + 8 * (i + 1)) (slots' := 5924 + 370 * (i + 1)) (by omega) (by omega) ?_
    exact ih (i + 1) (by omega) H locs ls hl (by rw [show 1 + (159 + 8 * (i + 1)) = 1 + (159 + 8 * i + 1 + 7) by omega]; exact hP) hS
set_option maxHeartbeats 4000000 in
theorem lp_loop1 (C0 : CB p s m args meth c G cX6_init 2 RX6 1) : ∀ k i, i + k = 5 → ∀ (H : Heap) (locs : List Loc) (ls : Array Slot), lv_has ls 2 [(1, .int (nI i)), (0, .ref (G.2 + 0))] →
    BW G (1 + (54 + 21 * i)) (lk [(0, .inr (6, [.ref (G.2 + 1), .ref (G.2 + 24), .ref (G.2 + 45), .int 0, .ref (G.2 + 46), .ref (G.2 + 47), .ref (G.2 + 52)])), (46, .inl (G.1.2 4, 6, .inr (.inr (.inr (.inr (rfi G.2 (rf 46) 0)))))), (45, .inl (G.1.2 3, 5, .inr (.inr (.inr (.inr (rfi G.2 (fun i => 55 + 21 * i) i))))))] (cE G f 0)) H → va_S (fun q => G.2 ≤ q) s.heap H locs →
    W p l e (rmB 4 207 8144) s m args below meth c H locs (54 + 21 * i) (3944 + 396 * i) (MQ below (QB G (1 + 207) (cE G f 0)) args s 207 8144 (fun q => G.2 ≤ q)) (F0 m 67 ls []) := by
  have hx := C0.1
  have hb := C0.2.1
  intro k
  induction k with
  | zero =>
    intro i hi H locs ls hl hP hS
    have h6 : i = 5 := by omega
    subst h6
    refine lv_iload_n hx hb dX6_init_67 rfl (lv_at hl 0 rfl) ?_
    refine lv_aload_n hx hb dX6_init_68 rfl (lv_at hl 1 rfl) ?_
    refine B_get C0 hP 2 (by omega) (if_pos rfl) inG_X6 rfl (by decide) xf6_23 rfl rfl dX6_init_69 ?_
    refine B_alen C0 hP (t0 := 3) rfl (by omega) (by rw [lk_c, if_neg (show ¬ (45 : Nat) = 0 by decide), lk_c, if_neg (show ¬ (45 : Nat) = 46 by decide), lk_c]; exact if_pos rfl) (v := 5) rfl dX6_init_72 ?_
    refine lv_icmp_ge (tgt := 95) hx hb dX6_init_73 (by decide) (fun _ => ?_) (fun c1 => absurd (show (5 : Int32) ≤ nI 5 by decide +kernel) c1)
    have hP : BW G (1 + (159 + 8 * 0)) (lk [(0, .inr (6, [.ref (G.2 + 1), .ref (G.2 + 24), .ref (G.2 + 45), .int 0, .ref (G.2 + 46), .ref (G.2 + 47), .ref (G.2 + 52)])), (46, .inl (G.1.2 4, 6, .inr (.inr (.inr (.inr (rfi G.2 (rf 46) 0))))))] (cE G f 0)) H := lk_fin (hP.ref (x := 45) (by omega) (by rw [lk_c, if_neg (show ¬ (45 : Nat) = 0 by decide), lk_c, if_neg (show ¬ (45 : Nat) = 46 by decide), lk_c]; exact if_pos rfl) (g' := fun i => some (G.2 + hM M0 i)) fun j hj => by rw [rfi, if_pos hj, hM_lt hj, show M0.2 j = 55 + 21 * j from if_pos hj]) (fun c hc => by simp only [lk_c, lk_0, if_neg hc]) (by rw [lk_c, if_neg (show ¬ (45 : Nat) = 0 by decide), lk_c, if_neg (show ¬ (45 : Nat) = 46 by decide), lk_0, cE_ge (by omega)]; exact E_H)
    refine lv_iconst (v := 0) hx hb dX6_init_95 (by decide) ?_
    refine lv_istore_n (lv' := [(1, .int 0), (0, .ref (G.2 + 0))]) hx hb dX6_init_96 rfl hl (by decide) rfl (fun ls hl => ?_)
    exact lp_loop2 C0 6 0 (by omega) H locs ls (by rw [nI_0]; exact hl) hP hS
  | succ k ih =>
    intro i hi H locs ls hl hP hS
    have h1 := hS21 i (by omega)
    refine lv_iload_n hx hb dX6_init_67 rfl (lv_at hl 0 rfl) ?_
    refine lv_aload_n hx hb dX6_init_68 rfl (lv_at hl 1 rfl) ?_
    refine B_get C0 hP 2 (by omega) (if_pos rfl) inG_X6 rfl (by decide) xf6_23 rfl rfl dX6_init_69 ?_
    refine B_alen C0 hP (t0 := 3) rfl (by omega) (by rw [lk_c, if_neg (show ¬ (45 : Nat) = 0 by decide), lk_c, if_neg (show ¬ (45 : Nat) = 46 by decide), lk_c]; exact if_pos rfl) (v := 5) rfl dX6_init_72 ?_
    refine lv_icmp_ge (tgt := 95) hx hb dX6_init_73 (by decide) (fun c1 => absurd c1 (nI_ge (b := 5) (by omega) (by omega))) (fun _ => ?_)
    refine lv_aload_n hx hb dX6_init_76 rfl (lv_at hl 1 rfl) ?_
    refine B_get C0 hP 2 (by omega) (if_pos rfl) inG_X6 rfl (by decide) xf6_23 rfl rfl dX6_init_77 ?_
    refine lv_iload_n hx hb dX6_init_80 rfl (lv_at hl 0 rfl) ?_
    refine B_new C0 hP hS inG_X4 tyX4 tyX4_ok xl6_16 xn4 w0X4 (ci := 4) rfl [.null, .int 0, .null, .int 0] (by decide) (by show 54 + 21 * i + 1 ≤ 207; omega) (by show 3944 + 396 * i + 4 ≤ 8144; omega) dX6_init_81 (fun H hP hS => ?_)
    refine lv_dup hx hb dX6_init_84 rfl ?_
    refine B_call C0 hP hS 0 (a := 1 + (54 + 21 * i)) (av := []) (mi_X4 (a := 1 + (54 + 21 * i)) h1 fup_eq) rfl (by decide) (by decide) xcX4 xm6_18 w0X4 xiX4 rfl (by decide +kernel) rfl hl.1 (Nat.le_of_ble_eq_true rfl) (by show 54 + 21 * i + 1 + 20 ≤ 207; omega) (by show 3944 + 396 * i + 4 + 392 ≤ 8144; omega) rfl dX6_init_85 (fun H locs hP hS => ?_)
    have hP := lk_back hP (by omega) (fun q hq => by
      cases hq with
      | head => show 0 < 1 + (54 + 21 * i); omega
      | tail _ h => cases h with
        | head => show 46 < 1 + (54 + 21 * i); omega
        | tail _ h => cases h with
          | head => show 45 < 1 + (54 + 21 * i); omega
          | tail _ h => cases h)
    refine B_astq C0 hP hS (a := 45) (t0 := 3) (ci := 4) (v := 1 + (54 + 21 * i)) rfl rfl (by omega) (by rw [lk_c, if_neg (show ¬ (45 : Nat) = 0 by decide), lk_c, if_neg (show ¬ (45 : Nat) = 46 by decide), lk_c]; exact if_pos rfl) (by omega) (by rw [lk_c, if_neg (by show 1 + (54 + 21 * i) ≠ 0; omega), lk_c, if_neg (by show 1 + (54 + 21 * i) ≠ 46; omega), lk_c, if_neg (by show 1 + (54 + 21 * i) ≠ 45; omega), lk_0, cE_ge (by omega), E_S h1]) (inb_nI (by omega) (by omega)) dX6_init_88 (fun H locs hP hS => ?_)
    have hP := lk_4 hP (by decide) (by decide)
    rw [show ix (nI i) = i from nI_clamp (by omega), rfi_up (r := fun i => 55 + 21 * i) (v := 1 + (54 + 21 * i)) (by show 55 + 21 * i = _; omega)] at hP
    refine lv_iinc (k := 0) (v := nI (i + 1)) (lv' := [(1, .int (nI (i + 1))), (0, .ref (G.2 + 0))]) hx hb dX6_init_89 hl rfl (nI_1 i) (by decide) rfl (fun ls hl => ?_)
    refine lv_goto (tgt := 67) hx hb dX6_init_92 (by decide) ?_
    refine W.cs (cells' := 54 + 21 * (i + 1)) (slots' := 3944 + 396 * (i + 1)) (by omega) (by omega) ?_
    exact ih (i + 1) (by omega) H locs ls hl (by rw [show 1 + (54 + 21 * (i + 1)) = 1 + (54 + 21 * i + 1 + 20) by omega]; exact hP) hS
end LPL
set_option maxHeartbeats 4000000 in
theorem mi_X6 {l : Launch} {G : GT} {f : Nat → va_E} (hf : f 0 = .inr (6, [.null, .null, .null, .int 0, .null, .null, .null])) : MI l G yX6_init cX6_init 2 4 207 8144 [.ref (G.2 + 0)] 1 f (cE G f 0) := by
  refine MI.ofB (lv := [(0, .ref (G.2 + 0))]) (own := RX6) (by decide) rfl rfl rfl (Nat.le_of_ble_eq_true rfl) (Nat.succ_pos _) ?_
  intro p e s m below meth c ls C0 hl hP hS
  have hx := C0.1
  have hb := C0.2.1
  have hP := lk_start hP (Nat.le_refl _) hf
  refine lv_aload_n hx hb dX6_init_0 rfl (lv_at hl 0 rfl) ?_
  refine B_obj C0 hl.1 xo6 xoi xoc (Nat.le_of_ble_eq_true rfl) (Nat.le_of_ble_eq_true rfl) dX6_init_1 ?_
  refine lv_aload_n hx hb dX6_init_4 rfl (lv_at hl 0 rfl) ?_
  refine B_new C0 hP hS inG_X3 tyX3 tyX3_ok xl6_9 xn3 w0X3 (ci := 3) rfl [.null, .int 0, .int 0, .null] (by decide) (Nat.le_of_ble_eq_true rfl) (Nat.le_of_ble_eq_true rfl) dX6_init_5 (fun H hP hS => ?_)
  refine lv_dup hx hb dX6_init_8 rfl ?_
  refine B_call C0 hP hS 0 (a := 1) (av := []) (mi_X3 fup_eq) rfl (by decide) (by decide) xcX3 xm6_11 w0X3 xiX3 rfl (by decide +kernel) rfl hl.1 (Nat.le_of_ble_eq_true rfl) (Nat.le_of_ble_eq_true rfl) (Nat.le_of_ble_eq_true rfl) rfl dX6_init_9 (fun H locs hP hS => ?_)
  have hP := lk_back hP (by omega) (fun q hq => by cases hq with | head => show 0 < 1; omega | tail _ h => cases h)
  refine B_putF C0 hP hS 0 (by omega) (if_pos rfl) inG_X6 rfl (by decide) xf6_12 rfl tyX6 tyX6_ok nmX6 (by decide +kernel) (ty := .object RX3) (by decide +kernel) rfl rfl (Nat.le_of_ble_eq_true rfl) dX6_init_12 (fun H locs hP hS => ?_)
  have hP : BW G (1 + 23) (lk [(0, .inr (6, [.ref (G.2 + 1), .null, .null, .int 0, .null, .null, .null]))] (cE G f 0)) H := lk_2 hP
  refine W.cs (cells' := 23) (slots' := 500) rfl rfl ?_
  refine lv_aload_n hx hb dX6_init_15 rfl (lv_at hl 0 rfl) ?_
  refine B_new C0 hP hS inG_X4 tyX4 tyX4_ok xl6_16 xn4 w0X4 (ci := 4) rfl [.null, .int 0, .null, .int 0] (by decide) (Nat.le_of_ble_eq_true rfl) (Nat.le_of_ble_eq_true rfl) dX6_init_16 (fun H hP hS => ?_)
  refine lv_dup hx hb dX6_init_19 rfl ?_
  refine B_call C0 hP hS 0 (a := 24) (av := []) (mi_X4 (a := 24) s24 fup_eq) rfl (by decide) (by decide) xcX4 xm6_18 w0X4 xiX4 rfl (by decide +kernel) rfl hl.1 (Nat.le_of_ble_eq_true rfl) (Nat.le_of_ble_eq_true rfl) (Nat.le_of_ble_eq_true rfl) rfl dX6_init_20 (fun H locs hP hS => ?_)
  have hP := lk_back hP (by omega) (fun q hq => by cases hq with | head => show 0 < 24; omega | tail _ h => cases h)
  refine B_putF C0 hP hS 1 (by omega) (if_pos rfl) inG_X6 rfl (by decide) xf6_19 rfl tyX6 tyX6_ok nmX6 (by decide +kernel) (ty := .object RX4) (by decide +kernel) rfl rfl (Nat.le_of_ble_eq_true rfl) dX6_init_23 (fun H locs hP hS => ?_)
  have hP : BW G (1 + 44) (lk [(0, .inr (6, [.ref (G.2 + 1), .ref (G.2 + 24), .null, .int 0, .null, .null, .null]))] (cE G f 0)) H := lk_2 hP
  refine W.cs (cells' := 44) (slots' := 896) rfl rfl ?_
  refine lv_aload_n hx hb dX6_init_26 rfl (lv_at hl 0 rfl) ?_
  refine lv_iconst (v := 5) hx hb dX6_init_27 (by decide) ?_
  refine B_newq C0 hP hS 3 rfl C0.2.2.2.2.2.1.2.2.1 xl6_16 5 (by decide) (by decide) (by omega) (Nat.le_of_ble_eq_true rfl) (Nat.le_of_ble_eq_true rfl) dX6_init_28 (fun H hP hS => ?_)
  rw [lk_up] at hP
  have hP := lk_sw hP (by decide)
  refine B_putF C0 hP hS 2 (by omega) (if_pos rfl) inG_X6 rfl (by decide) xf6_23 rfl tyX6 tyX6_ok nmX6 (by decide +kernel) (ty := .array (.object RX4)) (by decide +kernel) rfl rfl (Nat.le_of_ble_eq_true rfl) dX6_init_31 (fun H locs hP hS => ?_)
  rw [rfi_0 (b := G.2) (r := fun i => 55 + 21 * i)] at hP
  have hP : BW G (1 + 45) (lk [(0, .inr (6, [.ref (G.2 + 1), .ref (G.2 + 24), .ref (G.2 + 45), .int 0, .null, .null, .null])), (45, .inl (G.1.2 3, 5, .inr (.inr (.inr (.inr (rfi G.2 (fun i => 55 + 21 * i) 0))))))] (cE G f 0)) H := lk_2 hP
  refine W.cs (cells' := 45) (slots' := 901) rfl rfl ?_
  refine lv_aload_n hx hb dX6_init_34 rfl (lv_at hl 0 rfl) ?_
  refine lv_bipush (v := 6) hx hb dX6_init_35 (by decide) ?_
  refine B_newq C0 hP hS 4 rfl C0.2.2.2.2.2.1.2.2.2 xl6_27 6 (by decide) (by decide) (by omega) (Nat.le_of_ble_eq_true rfl) (Nat.le_of_ble_eq_true rfl) dX6_init_37 (fun H hP hS => ?_)
  rw [lk_up] at hP
  have hP := lk_sw hP (by decide)
  refine B_putF C0 hP hS 4 (by omega) (if_pos rfl) inG_X6 rfl (by decide) xf6_29 rfl tyX6 tyX6_ok nmX6 (by decide +kernel) (ty := .array (.object RX0)) (by decide +kernel) rfl rfl (Nat.le_of_ble_eq_true rfl) dX6_init_40 (fun H locs hP hS => ?_)
  rw [rfi_0 (b := G.2) (r := rf 46)] at hP
  have hP : BW G (1 + 46) (lk [(0, .inr (6, [.ref (G.2 + 1), .ref (G.2 + 24), .ref (G.2 + 45), .int 0, .ref (G.2 + 46), .null, .null])), (46, .inl (G.1.2 4, 6, .inr (.inr (.inr (.inr (rfi G.2 (rf 46) 0)))))), (45, .inl (G.1.2 3, 5, .inr (.inr (.inr (.inr (rfi G.2 (fun i => 55 + 21 * i) 0))))))] (cE G f 0)) H := lk_2 hP
  refine W.cs (cells' := 46) (slots' := 907) rfl rfl ?_
  refine lv_aload_n hx hb dX6_init_43 rfl (lv_at hl 0 rfl) ?_
  refine B_new C0 hP hS inG_X2 tyX2 tyX2_ok xl6_33 xn2 w0X2 (ci := 2) rfl [.null, .null, .null, .null, .int 0, .int 0, .int 0, .int 0, .int 0, .int 0] (by decide) (Nat.le_of_ble_eq_true rfl) (Nat.le_of_ble_eq_true rfl) dX6_init_44 (fun H hP hS => ?_)
  refine lv_dup hx hb dX6_init_47 rfl ?_
  refine B_call C0 hP hS 0 (a := 47) (av := []) (mi_X2 fup_eq) rfl (by decide) (by decide) xcX2 xm6_35 w0X2 xiX2 rfl (by decide +kernel) rfl hl.1 (Nat.le_of_ble_eq_true rfl) (Nat.le_of_ble_eq_true rfl) (Nat.le_of_ble_eq_true rfl) rfl dX6_init_48 (fun H locs hP hS => ?_)
  have hP := lk_back hP (by omega) (fun q hq => by
    cases hq with
    | head => show 0 < 47; omega
    | tail _ h => cases h with
      | head => show 46 < 47; omega
      | tail _ h => cases h with
        | head => show 45 < 47; omega
        | tail _ h => cases h)
  refine B_putF C0 hP hS 5 (by omega) (if_pos rfl) inG_X6 rfl (by decide) xf6_36 rfl tyX6 tyX6_ok nmX6 (by decide +kernel) (ty := .object RX2) (by decide +kernel) rfl rfl (Nat.le_of_ble_eq_true rfl) dX6_init_51 (fun H locs hP hS => ?_)
  have hP : BW G (1 + 51) (lk [(0, .inr (6, [.ref (G.2 + 1), .ref (G.2 + 24), .ref (G.2 + 45), .int 0, .ref (G.2 + 46), .ref (G.2 + 47), .null])), (46, .inl (G.1.2 4, 6, .inr (.inr (.inr (.inr (rfi G.2 (rf 46) 0)))))), (45, .inl (G.1.2 3, 5, .inr (.inr (.inr (.inr (rfi G.2 (fun i => 55 + 21 * i) 0))))))] (cE G f 0)) H := lk_2 hP
  refine W.cs (cells' := 51) (slots' := 3821) rfl rfl ?_
  refine lv_aload_n hx hb dX6_init_54 rfl (lv_at hl 0 rfl) ?_
  refine B_new C0 hP hS inG_X5 tyX5 tyX5_ok xl6_40 xn5 w0X5 (ci := 5) rfl [.null, .null, .int 0] (by decide) (Nat.le_of_ble_eq_true rfl) (Nat.le_of_ble_eq_true rfl) dX6_init_55 (fun H hP hS => ?_)
  refine lv_dup hx hb dX6_init_58 rfl ?_
  refine B_call C0 hP hS 0 (a := 52) (av := []) (mi_X5 fup_eq) rfl (by decide) (by decide) xcX5 xm6_42 w0X5 xiX5 rfl (by decide +kernel) rfl hl.1 (Nat.le_of_ble_eq_true rfl) (Nat.le_of_ble_eq_true rfl) (Nat.le_of_ble_eq_true rfl) rfl dX6_init_59 (fun H locs hP hS => ?_)
  have hP := lk_back hP (by omega) (fun q hq => by
    cases hq with
    | head => show 0 < 52; omega
    | tail _ h => cases h with
      | head => show 46 < 52; omega
      | tail _ h => cases h with
        | head => show 45 < 52; omega
        | tail _ h => cases h)
  refine B_putF C0 hP hS 6 (by omega) (if_pos rfl) inG_X6 rfl (by decide) xf6_43 rfl tyX6 tyX6_ok nmX6 (by decide +kernel) (ty := .object RX5) (by decide +kernel) rfl rfl (Nat.le_of_ble_eq_true rfl) dX6_init_62 (fun H locs hP hS => ?_)
  have hP : BW G (1 + 54) (lk [(0, .inr (6, [.ref (G.2 + 1), .ref (G.2 + 24), .ref (G.2 + 45), .int 0, .ref (G.2 + 46), .ref (G.2 + 47), .ref (G.2 + 52)])), (46, .inl (G.1.2 4, 6, .inr (.inr (.inr (.inr (rfi G.2 (rf 46) 0)))))), (45, .inl (G.1.2 3, 5, .inr (.inr (.inr (.inr (rfi G.2 (fun i => 55 + 21 * i) 0))))))] (cE G f 0)) H := lk_2 hP
  refine W.cs (cells' := 54) (slots' := 3944) rfl rfl ?_
  refine lv_iconst (v := 0) hx hb dX6_init_65 (by decide) ?_
  refine lv_istore_n (lv' := [(1, .int 0), (0, .ref (G.2 + 0))]) hx hb dX6_init_66 rfl hl (by decide) rfl (fun ls hl => ?_)
  exact lp_loop1 C0 5 0 (by omega) H locs ls (by rw [nI_0]; exact hl) hP hS
