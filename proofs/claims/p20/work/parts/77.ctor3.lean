/-! constructors: Plan, Trial, Reader, Expanded -/
theorem lk_fin {n x : Nat} {e : va_E} {L L' : List (Nat × va_E)} {d : Nat → va_E} {G : GT} {H : Heap} (h : BW G n (fup (lk L d) x e) H) (hL : ∀ c, c ≠ x → lk L' d c = lk L d c) (hx : lk L' d x = e) : BW G n (lk L' d) H := by
  refine h.cg fun c _ => ?_
  by_cases hc : c = x
  · subst hc
    rw [fup_eq, hx]
  · rw [fup_ne hc, hL c hc]
theorem lk_sw {n x y : Nat} {e e2 : va_E} {L : List (Nat × va_E)} {d : Nat → va_E} {G : GT} {H : Heap} (h : BW G n (lk ((y, e2) :: (x, e) :: L) d) H) (hxy : x ≠ y) : BW G n (lk ((x, e) :: (y, e2) :: L) d) H := by
  refine h.cg fun c _ => ?_
  rw [lk_c, lk_c, lk_c, lk_c]
  by_cases hc : c = x
  · subst hc
    rw [if_pos rfl, if_neg hxy, if_pos rfl]
  · rw [if_neg hc, if_neg hc]
theorem fv_r {b c a k r : Nat} {M : Mem} (h : isRf c k = true) (hr : rf a k = r) : fv b c a M k = .ref (b + r) := by rw [fv, if_pos h, hr]
theorem fv_i {b c a k : Nat} {v : Int32} (h : isRf c k = false) (hr : M0n a k = v) : fv b c a M0 k = .int v := by rw [fv, if_neg (by rw [h]; decide), show M0.1 a k = v from hr]
theorem E_o2 {G : GT} : En G 47 = .inr (2, [.ref (G.2 + 48), .ref (G.2 + 49), .ref (G.2 + 50), .ref (G.2 + 51), .int 0, .int 0, .int 0, .int 0, .int 0, .int 0]) := by
  have e0 : fv G.2 2 47 M0 0 = .ref (G.2 + 48) := fv_r (by decide) (by decide +kernel)
  have e1 : fv G.2 2 47 M0 1 = .ref (G.2 + 49) := fv_r (by decide) (by decide +kernel)
  have e2 : fv G.2 2 47 M0 2 = .ref (G.2 + 50) := fv_r (by decide) (by decide +kernel)
  have e3 : fv G.2 2 47 M0 3 = .ref (G.2 + 51) := fv_r (by decide) (by decide +kernel)
  have e4 : fv G.2 2 47 M0 4 = .int 0 := fv_i (by decide) (by decide +kernel)
  have e5 : fv G.2 2 47 M0 5 = .int 0 := fv_i (by decide) (by decide +kernel)
  have e6 : fv G.2 2 47 M0 6 = .int 0 := fv_i (by decide) (by decide +kernel)
  have e7 : fv G.2 2 47 M0 7 = .int 0 := fv_i (by decide) (by decide +kernel)
  have e8 : fv G.2 2 47 M0 8 = .int 0 := fv_i (by decide) (by decide +kernel)
  have e9 : fv G.2 2 47 M0 9 = .int 0 := fv_i (by decide) (by decide +kernel)
  rw [En, ent_o (shN2 s47) (by decide), show List.range 10 = [0, 1, 2, 3, 4, 5, 6, 7, 8, 9] from rfl, List.map_cons, List.map_cons, List.map_cons, List.map_cons, List.map_cons, List.map_cons, List.map_cons, List.map_cons, List.map_cons, List.map_cons, List.map_nil, e0, e1, e2, e3, e4, e5, e6, e7, e8, e9]
set_option maxHeartbeats 4000000 in
theorem mi_X2 {l : Launch} {G : GT} {f : Nat → va_E} (hf : f 47 = .inr (2, [.null, .null, .null, .null, .int 0, .int 0, .int 0, .int 0, .int 0, .int 0])) : MI l G yX2_init cX2_init 1 1 4 2904 [.ref (G.2 + 47)] 48 f (cE G f 47) := by
  refine MI.ofB (lv := [(0, .ref (G.2 + 47))]) (own := RX2) (by decide) rfl rfl rfl (Nat.le_of_ble_eq_true rfl) (Nat.succ_pos _) ?_
  intro p e s m below meth c ls C0 hl hP hS
  have hx := C0.1
  have hb := C0.2.1
  have hP := lk_start hP (Nat.le_refl _) hf
  refine lv_aload_n hx hb dX2_init_0 rfl (lv_at hl 0 rfl) ?_
  refine B_obj C0 hl.1 xo2 xoi xoc (Nat.le_of_ble_eq_true rfl) (Nat.le_of_ble_eq_true rfl) dX2_init_1 ?_
  refine lv_aload_n hx hb dX2_init_4 rfl (lv_at hl 0 rfl) ?_
  refine lv_sipush (v := 726) hx hb dX2_init_5 (by decide) ?_
  refine B_newi C0 hP hS xa_i 726 (by decide) (by decide) (by omega) (Nat.le_of_ble_eq_true rfl) (Nat.le_of_ble_eq_true rfl) dX2_init_8 (fun H hP hS => ?_)
  have hP := lk_new hP (E_z s48 n48 (by decide) (by decide)) (by omega) (fun q hq => by cases hq with | head => show 47 ≠ 48; omega | tail _ h => cases h)
  refine B_putF C0 hP hS 0 (by omega) (if_pos rfl) inG_X2 rfl (by decide) xf2_11 rfl tyX2 tyX2_ok nmX2 (by decide +kernel) (ty := .array .int) (by decide +kernel) rfl rfl (Nat.le_of_ble_eq_true rfl) dX2_init_10 (fun H locs hP hS => ?_)
  have hP : BW G (48 + 1) (lk [(47, .inr (2, [.ref (G.2 + 48), .null, .null, .null, .int 0, .int 0, .int 0, .int 0, .int 0, .int 0]))] (cE G f 47)) H := lk_2 hP
  refine W.cs (cells' := 1) (slots' := 726) rfl rfl ?_
  refine lv_aload_n hx hb dX2_init_13 rfl (lv_at hl 0 rfl) ?_
  refine lv_sipush (v := 726) hx hb dX2_init_14 (by decide) ?_
  refine B_newi C0 hP hS xa_i 726 (by decide) (by decide) (by omega) (Nat.le_of_ble_eq_true rfl) (Nat.le_of_ble_eq_true rfl) dX2_init_17 (fun H hP hS => ?_)
  have hP := lk_new hP (E_z s49 n49 (by decide) (by decide)) (by omega) (fun q hq => by cases hq with | head => show 47 ≠ 49; omega | tail _ h => cases h)
  refine B_putF C0 hP hS 1 (by omega) (if_pos rfl) inG_X2 rfl (by decide) xf2_15 rfl tyX2 tyX2_ok nmX2 (by decide +kernel) (ty := .array .int) (by decide +kernel) rfl rfl (Nat.le_of_ble_eq_true rfl) dX2_init_19 (fun H locs hP hS => ?_)
  have hP : BW G (48 + 2) (lk [(47, .inr (2, [.ref (G.2 + 48), .ref (G.2 + 49), .null, .null, .int 0, .int 0, .int 0, .int 0, .int 0, .int 0]))] (cE G f 47)) H := lk_2 hP
  refine W.cs (cells' := 2) (slots' := 1452) rfl rfl ?_
  refine lv_aload_n hx hb dX2_init_22 rfl (lv_at hl 0 rfl) ?_
  refine lv_sipush (v := 726) hx hb dX2_init_23 (by decide) ?_
  refine B_newi C0 hP hS xa_i 726 (by decide) (by decide) (by omega) (Nat.le_of_ble_eq_true rfl) (Nat.le_of_ble_eq_true rfl) dX2_init_26 (fun H hP hS => ?_)
  have hP := lk_new hP (E_z s50 n50 (by decide) (by decide)) (by omega) (fun q hq => by cases hq with | head => show 47 ≠ 50; omega | tail _ h => cases h)
  refine B_putF C0 hP hS 2 (by omega) (if_pos rfl) inG_X2 rfl (by decide) xf2_18 rfl tyX2 tyX2_ok nmX2 (by decide +kernel) (ty := .array .int) (by decide +kernel) rfl rfl (Nat.le_of_ble_eq_true rfl) dX2_init_28 (fun H locs hP hS => ?_)
  have hP : BW G (48 + 3) (lk [(47, .inr (2, [.ref (G.2 + 48), .ref (G.2 + 49), .ref (G.2 + 50), .null, .int 0, .int 0, .int 0, .int 0, .int 0, .int 0]))] (cE G f 47)) H := lk_2 hP
  refine W.cs (cells' := 3) (slots' := 2178) rfl rfl ?_
  refine lv_aload_n hx hb dX2_init_31 rfl (lv_at hl 0 rfl) ?_
  refine lv_sipush (v := 726) hx hb dX2_init_32 (by decide) ?_
  refine B_newi C0 hP hS xa_i 726 (by decide) (by decide) (by omega) (Nat.le_of_ble_eq_true rfl) (Nat.le_of_ble_eq_true rfl) dX2_init_35 (fun H hP hS => ?_)
  have hP := lk_new hP (E_z s51 n51 (by decide) (by decide)) (by omega) (fun q hq => by cases hq with | head => show 47 ≠ 51; omega | tail _ h => cases h)
  refine B_putF C0 hP hS 3 (by omega) (if_pos rfl) inG_X2 rfl (by decide) xf2_21 rfl tyX2 tyX2_ok nmX2 (by decide +kernel) (ty := .array .int) (by decide +kernel) rfl rfl (Nat.le_of_ble_eq_true rfl) dX2_init_37 (fun H locs hP hS => ?_)
  have hP : BW G (48 + 4) (lk [(47, .inr (2, [.ref (G.2 + 48), .ref (G.2 + 49), .ref (G.2 + 50), .ref (G.2 + 51), .int 0, .int 0, .int 0, .int 0, .int 0, .int 0]))] (cE G f 47)) H := lk_2 hP
  refine W.cs (cells' := 4) (slots' := 2904) rfl rfl ?_
  have hP := lk_end hP E_o2 (Nat.le_refl _) (fun q hq => by cases hq)
  exact B_ret C0 hP hS dX2_init_40
theorem E_o5 {G : GT} : En G 52 = .inr (5, [.ref (G.2 + 53), .ref (G.2 + 54), .int 0]) := by
  have e0 : fv G.2 5 52 M0 0 = .ref (G.2 + 53) := fv_r (by decide) (by decide +kernel)
  have e1 : fv G.2 5 52 M0 1 = .ref (G.2 + 54) := fv_r (by decide) (by decide +kernel)
  have e2 : fv G.2 5 52 M0 2 = .int 0 := fv_i (by decide) (by decide +kernel)
  rw [En, ent_o (shN5 s52) (by decide), show List.range 3 = [0, 1, 2] from rfl, List.map_cons, List.map_cons, List.map_cons, List.map_nil, e0, e1, e2]
set_option maxHeartbeats 4000000 in
theorem mi_X5 {l : Launch} {G : GT} {f : Nat → va_E} (hf : f 52 = .inr (5, [.null, .null, .int 0])) : MI l G yX5_init cX5_init 1 1 2 120 [.ref (G.2 + 52)] 53 f (cE G f 52) := by
  refine MI.ofB (lv := [(0, .ref (G.2 + 52))]) (own := RX5) (by decide) rfl rfl rfl (Nat.le_of_ble_eq_true rfl) (Nat.succ_pos _) ?_
  intro p e s m below meth c ls C0 hl hP hS
  have hx := C0.1
  have hb := C0.2.1
  have hP := lk_start hP (Nat.le_refl _) hf
  refine lv_aload_n hx hb dX5_init_0 rfl (lv_at hl 0 rfl) ?_
  refine B_obj C0 hl.1 xo5 xoi xoc (Nat.le_of_ble_eq_true rfl) (Nat.le_of_ble_eq_true rfl) dX5_init_1 ?_
  refine lv_aload_n hx hb dX5_init_4 rfl (lv_at hl 0 rfl) ?_
  refine lv_bipush (v := 60) hx hb dX5_init_5 (by decide) ?_
  refine B_newi C0 hP hS xa_i 60 (by decide) (by decide) (by omega) (Nat.le_of_ble_eq_true rfl) (Nat.le_of_ble_eq_true rfl) dX5_init_7 (fun H hP hS => ?_)
  have hP := lk_new hP (E_z s53 n53 (by decide) (by decide)) (by omega) (fun q hq => by cases hq with | head => show 52 ≠ 53; omega | tail _ h => cases h)
  refine B_putF C0 hP hS 0 (by omega) (if_pos rfl) inG_X5 rfl (by decide) xf5_9 rfl tyX5 tyX5_ok nmX5 (by decide +kernel) (ty := .array .int) (by decide +kernel) rfl rfl (Nat.le_of_ble_eq_true rfl) dX5_init_9 (fun H locs hP hS => ?_)
  have hP : BW G (53 + 1) (lk [(52, .inr (5, [.ref (G.2 + 53), .null, .int 0]))] (cE G f 52)) H := lk_2 hP
  refine W.cs (cells' := 1) (slots' := 60) rfl rfl ?_
  refine lv_aload_n hx hb dX5_init_12 rfl (lv_at hl 0 rfl) ?_
  refine lv_bipush (v := 60) hx hb dX5_init_13 (by decide) ?_
  refine B_newi C0 hP hS xa_i 60 (by decide) (by decide) (by omega) (Nat.le_of_ble_eq_true rfl) (Nat.le_of_ble_eq_true rfl) dX5_init_15 (fun H hP hS => ?_)
  have hP := lk_new hP (E_z s54 n54 (by decide) (by decide)) (by omega) (fun q hq => by cases hq with | head => show 52 ≠ 54; omega | tail _ h => cases h)
  refine B_putF C0 hP hS 1 (by omega) (if_pos rfl) inG_X5 rfl (by decide) xf5_15 rfl tyX5 tyX5_ok nmX5 (by decide +kernel) (ty := .array .int) (by decide +kernel) rfl rfl (Nat.le_of_ble_eq_true rfl) dX5_init_17 (fun H locs hP hS => ?_)
  have hP : BW G (53 + 2) (lk [(52, .inr (5, [.ref (G.2 + 53), .ref (G.2 + 54), .int 0]))] (cE G f 52)) H := lk_2 hP
  refine W.cs (cells' := 2) (slots' := 120) rfl rfl ?_
  have hP := lk_end hP E_o5 (Nat.le_refl _) (fun q hq => by cases hq)
  exact B_ret C0 hP hS dX5_init_20
