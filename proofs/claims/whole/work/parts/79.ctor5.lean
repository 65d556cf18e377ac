/-! the reference's constructor -/
theorem E_zz {G : GT} {a N : Nat} (h : (sh a).1 = 11) (hn : ln a = N) (h1 : mz a = false) (h2 : a ≠ 209) : En G a = .inl (G.1.2 1, N, .inl fun _ => 0) := by
  have h3 : M0.1 a = fun _ => 0 := by
    funext k
    simp [M0, M0n, h, h1, h2]
  rw [En, ent_z h, hn, h3]
theorem E_s {G : GT} : En G 209 = .inl (G.1.2 0, 376, .inl (upd (upd (upd (fun _ => 0) (ix 0) 1) (ix 1) 3) (ix 10) 1)) := by
  have h3 : M0.1 209 = upd (upd (upd (fun _ => 0) (ix 0) 1) (ix 1) 3) (ix 10) 1 := by
    funext k
    rw [show ix 0 = 0 by decide, show ix 1 = 1 by decide, show ix 10 = 10 by decide]
    simp [M0, M0n, s209, upd]
  rw [En, ent_i s209, n209, h3]
theorem E_o7 {G : GT} : En G 208 = .inr (7, [.ref (G.2 + 209), .ref (G.2 + 210), .int 0, .ref (G.2 + 211), .int 0, .ref (G.2 + 212), .int 0, .int 0, .int 0, .int 0, .int 0, .ref (G.2 + 213), .int 0, .ref (G.2 + 214), .int 0, .int 0, .ref (G.2 + 215), .ref (G.2 + 216), .ref (G.2 + 217), .ref (G.2 + 218), .ref (G.2 + 219), .ref (G.2 + 220), .ref (G.2 + 221), .ref (G.2 + 222), .ref (G.2 + 223), .int 0, .int 0, .int 0, .int 0, .int 0, .int 0, .int 0, .ref (G.2 + 224), .int 0, .ref (G.2 + 225), .ref (G.2 + 226), .ref (G.2 + 227), .int 0, .ref (G.2 + 228)]) := by
  have e0 : fv G.2 7 208 M0 0 = .ref (G.2 + 209) := fv_r (by decide) (by decide +kernel)
  have e1 : fv G.2 7 208 M0 1 = .ref (G.2 + 210) := fv_r (by decide) (by decide +kernel)
  have e2 : fv G.2 7 208 M0 2 = .int 0 := fv_i (by decide) (by decide +kernel)
  have e3 : fv G.2 7 208 M0 3 = .ref (G.2 + 211) := fv_r (by decide) (by decide +kernel)
  have e4 : fv G.2 7 208 M0 4 = .int 0 := fv_i (by decide) (by decide +kernel)
  have e5 : fv G.2 7 208 M0 5 = .ref (G.2 + 212) := fv_r (by decide) (by decide +kernel)
  have e6 : fv G.2 7 208 M0 6 = .int 0 := fv_i (by decide) (by decide +kernel)
  have e7 : fv G.2 7 208 M0 7 = .int 0 := fv_i (by decide) (by decide +kernel)
  have e8 : fv G.2 7 208 M0 8 = .int 0 := fv_i (by decide) (by decide +kernel)
  have e9 : fv G.2 7 208 M0 9 = .int 0 := fv_i (by decide) (by decide +kernel)
  have e10 : fv G.2 7 208 M0 10 = .int 0 := fv_i (by decide) (by decide +kernel)
  have e11 : fv G.2 7 208 M0 11 = .ref (G.2 + 213) := fv_r (by decide) (by decide +kernel)
  have e12 : fv G.2 7 208 M0 12 = .int 0 := fv_i (by decide) (by decide +kernel)
  have e13 : fv G.2 7 208 M0 13 = .ref (G.2 + 214) := fv_r (by decide) (by decide +kernel)
  have e14 : fv G.2 7 208 M0 14 = .int 0 := fv_i (by decide) (by decide +kernel)
  have e15 : fv G.2 7 208 M0 15 = .int 0 := fv_i (by decide) (by decide +kernel)
  have e16 : fv G.2 7 208 M0 16 = .ref (G.2 + 215) := fv_r (by decide) (by decide +kernel)
  have e17 : fv G.2 7 208 M0 17 = .ref (G.2 + 216) := fv_r (by decide) (by decide +kernel)
  have e18 : fv G.2 7 208 M0 18 = .ref (G.2 + 217) := fv_r (by decide) (by decide +kernel)
  have e19 : fv G.2 7 208 M0 19 = .ref (G.2 + 218) := fv_r (by decide) (by decide +kernel)
  have e20 : fv G.2 7 208 M0 20 = .ref (G.2 + 219) := fv_r (by decide) (by decide +kernel)
  have e21 : fv G.2 7 208 M0 21 = .ref (G.2 + 220) := fv_r (by decide) (by decide +kernel)
  have e22 : fv G.2 7 208 M0 22 = .ref (G.2 + 221) := fv_r (by decide) (by decide +kernel)
  have e23 : fv G.2 7 208 M0 23 = .ref (G.2 + 222) := fv_r (by decide) (by decide +kernel)
  have e24 : fv G.2 7 208 M0 24 = .ref (G.2 + 223) := fv_r (by decide) (by decide +kernel)
  have e25 : fv G.2 7 208 M0 25 = .int 0 := fv_i (by decide) (by decide +kernel)
  have e26 : fv G.2 7 208 M0 26 = .int 0 := fv_i (by decide) (by decide +kernel)
  have e27 : fv G.2 7 208 M0 27 = .int 0 := fv_i (by decide) (by decide +kernel)
  have e28 : fv G.2 7 208 M0 28 = .int 0 := fv_i (by decide) (by decide +kernel)
  have e29 : fv G.2 7 208 M0 29 = .int 0 := fv_i (by decide) (by decide +kernel)
  have e30 : fv G.2 7 208 M0 30 = .int 0 := fv_i (by decide) (by decide +kernel)
  have e31 : fv G.2 7 208 M0 31 = .int 0 := fv_i (by decide) (by decide +kernel)
  have e32 : fv G.2 7 208 M0 32 = .ref (G.2 + 224) := fv_r (by decide) (by decide +kernel)
  have e33 : fv G.2 7 208 M0 33 = .int 0 := fv_i (by decide) (by decide +kernel)
  have e34 : fv G.2 7 208 M0 34 = .ref (G.2 + 225) := fv_r (by decide) (by decide +kernel)
  have e35 : fv G.2 7 208 M0 35 = .ref (G.2 + 226) := fv_r (by decide) (by decide +kernel)
  have e36 : fv G.2 7 208 M0 36 = .ref (G.2 + 227) := fv_r (by decide) (by decide +kernel)
  have e37 : fv G.2 7 208 M0 37 = .int 0 := fv_i (by decide) (by decide +kernel)
  have e38 : fv G.2 7 208 M0 38 = .ref (G.2 + 228) := fv_r (by decide) (by decide +kernel)
  rw [En, ent_o (shN7 s208) (by decide), show List.range 39 = [0, 1, 2, 3, 4, 5, 6, 7, 8, 9, 10, 11, 12, 13, 14, 15, 16, 17, 18, 19, 20, 21, 22, 23, 24, 25, 26, 27, 28, 29, 30, 31, 32, 33, 34, 35, 36, 37, 38] from rfl, List.map_cons, List.map_cons, List.map_cons, List.map_cons, List.map_cons, List.map_cons, List.map_cons, List.map_cons, List.map_cons, List.map_cons, List.map_cons, List.map_cons, List.map_cons, List.map_cons, List.map_cons, List.map_cons, List.map_cons, List.map_cons, List.map_cons, List.map_cons, List.map_cons, List.map_cons, List.map_cons, List.map_cons, List.map_cons, List.map_cons, List.map_cons, List.map_cons, List.map_cons, List.map_cons, List.map_cons, List.map_cons, List.map_cons, List.map_cons, List.map_cons, List.map_cons, List.map_cons, List.map_cons, List.map_cons, List.map_nil, e0, e1, e2, e3, e4, e5, e6, e7, e8, e9, e10, e11, e12, e13, e14, e15, e16, e17, e18, e19, e20, e21, e22, e23, e24, e25, e26, e27, e28, e29, e30, e31, e32, e33, e34, e35, e36, e37, e38]
set_option maxHeartbeats 4000000 in
theorem mi_X7 {l : Launch} {G : GT} {f : Nat → va_E} (hf : f 208 = .inr (7, [.null, .null, .int 0, .null, .int 0, .null, .int 0, .int 0, .int 0, .int 0, .int 0, .null, .int 0, .null, .int 0, .int 0, .null, .null, .null, .null, .null, .null, .null, .null, .null, .int 0, .int 0, .int 0, .int 0, .int 0, .int 0, .int 0, .null, .int 0, .null, .null, .null, .int 0, .null])) : MI l G yX7_init cX7_init 1 1 20 7613 [.ref (G.2 + 208)] 209 f (cE G f 208) := by
  refine MI.ofB (lv := [(0, .ref (G.2 + 208))]) (own := RX7) (by decide) rfl rfl rfl (Nat.le_of_ble_eq_true rfl) (Nat.succ_pos _) ?_
  intro p e s m below meth c ls C0 hl hP hS
  have hx := C0.1
  have hb := C0.2.1
  have hP := lk_start hP (Nat.le_refl _) hf
  refine lv_aload_n hx hb dX7_init_0 rfl (lv_at hl 0 rfl) ?_
  refine B_obj C0 hl.1 xo7 xoi xoc (Nat.le_of_ble_eq_true rfl) (Nat.le_of_ble_eq_true rfl) dX7_init_1 ?_
  refine lv_aload_n hx hb dX7_init_4 rfl (lv_at hl 0 rfl) ?_
  refine lv_sipush (v := 376) hx hb dX7_init_5 (by decide) ?_
  refine B_newi C0 hP hS xa_i 376 (by decide) (by decide) (by omega) (Nat.le_of_ble_eq_true rfl) (Nat.le_of_ble_eq_true rfl) dX7_init_8 (fun H hP hS => ?_)
  rw [lk_up] at hP
  have hP := lk_sw hP (by decide)
  refine B_putF C0 hP hS 0 (by omega) (if_pos rfl) inG_X7 rfl (by decide) xf7_7 rfl tyX7 tyX7_ok nmX7 (by decide +kernel) (ty := .array .int) (by decide +kernel) rfl rfl (Nat.le_of_ble_eq_true rfl) dX7_init_10 (fun H locs hP hS => ?_)
  have hP : BW G (209 + 1) (lk [(208, .inr (7, [.ref (G.2 + 209), .null, .int 0, .null, .int 0, .null, .int 0, .int 0, .int 0, .int 0, .int 0, .null, .int 0, .null, .int 0, .int 0, .null, .null, .null, .null, .null, .null, .null, .null, .null, .int 0, .int 0, .int 0, .int 0, .int 0, .int 0, .int 0, .null, .int 0, .null, .null, .null, .int 0, .null])), (209, .inl (G.1.2 0, 376, .inl (fun _ => 0)))] (cE G f 208)) H := lk_2 hP
  refine W.cs (cells' := 1) (slots' := 376) rfl rfl ?_
  refine lv_aload_n hx hb dX7_init_13 rfl (lv_at hl 0 rfl) ?_
  refine lv_sipush (v := 1880) hx hb dX7_init_14 (by decide) ?_
  refine B_newi C0 hP hS xa_i 1880 (by decide) (by decide) (by omega) (Nat.le_of_ble_eq_true rfl) (Nat.le_of_ble_eq_true rfl) dX7_init_17 (fun H hP hS => ?_)
  have hP := lk_new hP (E_z s210 n210 (by decide) (by decide)) (by omega) (fun q hq => by cases hq with | head => show 208 ≠ 210; omega | tail _ h => (cases h with | head => show 209 ≠ 210; omega | tail _ h => cases h))
  refine B_putF C0 hP hS 1 (by omega) (if_pos rfl) inG_X7 rfl (by decide) xf7_13 rfl tyX7 tyX7_ok nmX7 (by decide +kernel) (ty := .array .int) (by decide +kernel) rfl rfl (Nat.le_of_ble_eq_true rfl) dX7_init_19 (fun H locs hP hS => ?_)
  have hP : BW G (209 + 2) (lk [(208, .inr (7, [.ref (G.2 + 209), .ref (G.2 + 210), .int 0, .null, .int 0, .null, .int 0, .int 0, .int 0, .int 0, .int 0, .null, .int 0, .null, .int 0, .int 0, .null, .null, .null, .null, .null, .null, .null, .null, .null, .int 0, .int 0, .int 0, .int 0, .int 0, .int 0, .int 0, .null, .int 0, .null, .null, .null, .int 0, .null])), (209, .inl (G.1.2 0, 376, .inl (fun _ => 0)))] (cE G f 208)) H := lk_2 hP
  refine W.cs (cells' := 2) (slots' := 2256) rfl rfl ?_
  refine lv_aload_n hx hb dX7_init_22 rfl (lv_at hl 0 rfl) ?_
  refine lv_bipush (v := 100) hx hb dX7_init_23 (by decide) ?_
  refine B_newi C0 hP hS xa_i 100 (by decide) (by decide) (by omega) (Nat.le_of_ble_eq_true rfl) (Nat.le_of_ble_eq_true rfl) dX7_init_25 (fun H hP hS => ?_)
  have hP := lk_new hP (E_z s211 n211 (by decide) (by decide)) (by omega) (fun q hq => by cases hq with | head => show 208 ≠ 211; omega | tail _ h => (cases h with | head => show 209 ≠ 211; omega | tail _ h => cases h))
  refine B_putF C0 hP hS 3 (by omega) (if_pos rfl) inG_X7 rfl (by decide) xf7_16 rfl tyX7 tyX7_ok nmX7 (by decide +kernel) (ty := .array .int) (by decide +kernel) rfl rfl (Nat.le_of_ble_eq_true rfl) dX7_init_27 (fun H locs hP hS => ?_)
  have hP : BW G (209 + 3) (lk [(208, .inr (7, [.ref (G.2 + 209), .ref (G.2 + 210), .int 0, .ref (G.2 + 211), .int 0, .null, .int 0, .int 0, .int 0, .int 0, .int 0, .null, .int 0, .null, .int 0, .int 0, .null, .null, .null, .null, .null, .null, .null, .null, .null, .int 0, .int 0, .int 0, .int 0, .int 0, .int 0, .int 0, .null, .int 0, .null, .null, .null, .int 0, .null])), (209, .inl (G.1.2 0, 376, .inl (fun _ => 0)))] (cE G f 208)) H := lk_2 hP
  refine W.cs (cells' := 3) (slots' := 2356) rfl rfl ?_
  refine lv_aload_n hx hb dX7_init_30 rfl (lv_at hl 0 rfl) ?_
  refine lv_sipush (v := 376) hx hb dX7_init_31 (by decide) ?_
  refine B_newi C0 hP hS xa_i 376 (by decide) (by decide) (by omega) (Nat.le_of_ble_eq_true rfl) (Nat.le_of_ble_eq_true rfl) dX7_init_34 (fun H hP hS => ?_)
  have hP := lk_new hP (E_z s212 n212 (by decide) (by decide)) (by omega) (fun q hq => by cases hq with | head => show 208 ≠ 212; omega | tail _ h => (cases h with | head => show 209 ≠ 212; omega | tail _ h => cases h))
  refine B_putF C0 hP hS 5 (by omega) (if_pos rfl) inG_X7 rfl (by decide) xf7_19 rfl tyX7 tyX7_ok nmX7 (by decide +kernel) (ty := .array .int) (by decide +kernel) rfl rfl (Nat.le_of_ble_eq_true rfl) dX7_init_36 (fun H locs hP hS => ?_)
  have hP : BW G (209 + 4) (lk [(208, .inr (7, [.ref (G.2 + 209), .ref (G.2 + 210), .int 0, .ref (G.2 + 211), .int 0, .ref (G.2 + 212), .int 0, .int 0, .int 0, .int 0, .int 0, .null, .int 0, .null, .int 0, .int 0, .null, .null, .null, .null, .null, .null, .null, .null, .null, .int 0, .int 0, .int 0, .int 0, .int 0, .int 0, .int 0, .null, .int 0, .null, .null, .null, .int 0, .null])), (209, .inl (G.1.2 0, 376, .inl (fun _ => 0)))] (cE G f 208)) H := lk_2 hP
  refine W.cs (cells' := 4) (slots' := 2732) rfl rfl ?_
  refine lv_aload_n hx hb dX7_init_39 rfl (lv_at hl 0 rfl) ?_
  refine lv_bipush (v := 31) hx hb dX7_init_40 (by decide) ?_
  refine B_newi C0 hP hS xa_i 31 (by decide) (by decide) (by omega) (Nat.le_of_ble_eq_true rfl) (Nat.le_of_ble_eq_true rfl) dX7_init_42 (fun H hP hS => ?_)
  have hP := lk_new hP (E_z s213 n213 (by decide) (by decide)) (by omega) (fun q hq => by cases hq with | head => show 208 ≠ 213; omega | tail _ h => (cases h with | head => show 209 ≠ 213; omega | tail _ h => cases h))
  refine B_putF C0 hP hS 11 (by omega) (if_pos rfl) inG_X7 rfl (by decide) xf7_22 rfl tyX7 tyX7_ok nmX7 (by decide +kernel) (ty := .array .int) (by decide +kernel) rfl rfl (Nat.le_of_ble_eq_true rfl) dX7_init_44 (fun H locs hP hS => ?_)
  have hP : BW G (209 + 5) (lk [(208, .inr (7, [.ref (G.2 + 209), .ref (G.2 + 210), .int 0, .ref (G.2 + 211), .int 0, .ref (G.2 + 212), .int 0, .int 0, .int 0, .int 0, .int 0, .ref (G.2 + 213), .int 0, .null, .int 0, .int 0, .null, .null, .null, .null, .null, .null, .null, .null, .null, .int 0, .int 0, .int 0, .int 0, .int 0, .int 0, .int 0, .null, .int 0, .null, .null, .null, .int 0, .null])), (209, .inl (G.1.2 0, 376, .inl (fun _ => 0)))] (cE G f 208)) H := lk_2 hP
  refine W.cs (cells' := 5) (slots' := 2763) rfl rfl ?_
  refine lv_aload_n hx hb dX7_init_47 rfl (lv_at hl 0 rfl) ?_
  refine lv_bipush (v := 64) hx hb dX7_init_48 (by decide) ?_
  refine B_newi C0 hP hS xa_i 64 (by decide) (by decide) (by omega) (Nat.le_of_ble_eq_true rfl) (Nat.le_of_ble_eq_true rfl) dX7_init_50 (fun H hP hS => ?_)
  have hP := lk_new hP (E_z s214 n214 (by decide) (by decide)) (by omega) (fun q hq => by cases hq with | head => show 208 ≠ 214; omega | tail _ h => (cases h with | head => show 209 ≠ 214; omega | tail _ h => cases h))
  refine B_putF C0 hP hS 13 (by omega) (if_pos rfl) inG_X7 rfl (by decide) xf7_25 rfl tyX7 tyX7_ok nmX7 (by decide +kernel) (ty := .array .int) (by decide +kernel) rfl rfl (Nat.le_of_ble_eq_true rfl) dX7_init_52 (fun H locs hP hS => ?_)
  have hP : BW G (209 + 6) (lk [(208, .inr (7, [.ref (G.2 + 209), .ref (G.2 + 210), .int 0, .ref (G.2 + 211), .int 0, .ref (G.2 + 212), .int 0, .int 0, .int 0, .int 0, .int 0, .ref (G.2 + 213), .int 0, .ref (G.2 + 214), .int 0, .int 0, .null, .null, .null, .null, .null, .null, .null, .null, .null, .int 0, .int 0, .int 0, .int 0, .int 0, .int 0, .int 0, .null, .int 0, .null, .null, .null, .int 0, .null])), (209, .inl (G.1.2 0, 376, .inl (fun _ => 0)))] (cE G f 208)) H := lk_2 hP
  refine W.cs (cells' := 6) (slots' := 2827) rfl rfl ?_
  refine lv_aload_n hx hb dX7_init_55 rfl (lv_at hl 0 rfl) ?_
  refine lv_bipush (v := 60) hx hb dX7_init_56 (by decide) ?_
  refine B_newi C0 hP hS xa_i 60 (by decide) (by decide) (by omega) (Nat.le_of_ble_eq_true rfl) (Nat.le_of_ble_eq_true rfl) dX7_init_58 (fun H hP hS => ?_)
  have hP := lk_new hP (E_z s215 n215 (by decide) (by decide)) (by omega) (fun q hq => by cases hq with | head => show 208 ≠ 215; omega | tail _ h => (cases h with | head => show 209 ≠ 215; omega | tail _ h => cases h))
  refine B_putF C0 hP hS 16 (by omega) (if_pos rfl) inG_X7 rfl (by decide) xf7_28 rfl tyX7 tyX7_ok nmX7 (by decide +kernel) (ty := .array .int) (by decide +kernel) rfl rfl (Nat.le_of_ble_eq_true rfl) dX7_init_60 (fun H locs hP hS => ?_)
  have hP : BW G (209 + 7) (lk [(208, .inr (7, [.ref (G.2 + 209), .ref (G.2 + 210), .int 0, .ref (G.2 + 211), .int 0, .ref (G.2 + 212), .int 0, .int 0, .int 0, .int 0, .int 0, .ref (G.2 + 213), .int 0, .ref (G.2 + 214), .int 0, .int 0, .ref (G.2 + 215), .null, .null, .null, .null, .null, .null, .null, .null, .int 0, .int 0, .int 0, .int 0, .int 0, .int 0, .int 0, .null, .int 0, .null, .null, .null, .int 0, .null])), (209, .inl (G.1.2 0, 376, .inl (fun _ => 0)))] (cE G f 208)) H := lk_2 hP
  refine W.cs (cells' := 7) (slots' := 2887) rfl rfl ?_
  refine lv_aload_n hx hb dX7_init_63 rfl (lv_at hl 0 rfl) ?_
  refine lv_sipush (v := 540) hx hb dX7_init_64 (by decide) ?_
  refine B_newi C0 hP hS xa_i 540 (by decide) (by decide) (by omega) (Nat.le_of_ble_eq_true rfl) (Nat.le_of_ble_eq_true rfl) dX7_init_67 (fun H hP hS => ?_)
  have hP := lk_new hP (E_z s216 n216 (by decide) (by decide)) (by omega) (fun q hq => by cases hq with | head => show 208 ≠ 216; omega | tail _ h => (cases h with | head => show 209 ≠ 216; omega | tail _ h => cases h))
  refine B_putF C0 hP hS 17 (by omega) (if_pos rfl) inG_X7 rfl (by decide) xf7_31 rfl tyX7 tyX7_ok nmX7 (by decide +kernel) (ty := .array .int) (by decide +kernel) rfl rfl (Nat.le_of_ble_eq_true rfl) dX7_init_69 (fun H locs hP hS => ?_)
  have hP : BW G (209 + 8) (lk [(208, .inr (7, [.ref (G.2 + 209), .ref (G.2 + 210), .int 0, .ref (G.2 + 211), .int 0, .ref (G.2 + 212), .int 0, .int 0, .int 0, .int 0, .int 0, .ref (G.2 + 213), .int 0, .ref (G.2 + 214), .int 0, .int 0, .ref (G.2 + 215), .ref (G.2 + 216), .null, .null, .null, .null, .null, .null, .null, .int 0, .int 0, .int 0, .int 0, .int 0, .int 0, .int 0, .null, .int 0, .null, .null, .null, .int 0, .null])), (209, .inl (G.1.2 0, 376, .inl (fun _ => 0)))] (cE G f 208)) H := lk_2 hP
  refine W.cs (cells' := 8) (slots' := 3427) rfl rfl ?_
  refine lv_aload_n hx hb dX7_init_72 rfl (lv_at hl 0 rfl) ?_
  refine lv_sipush (v := 540) hx hb dX7_init_73 (by decide) ?_
  refine B_newi C0 hP hS xa_i 540 (by decide) (by decide) (by omega) (Nat.le_of_ble_eq_true rfl) (Nat.le_of_ble_eq_true rfl) dX7_init_76 (fun H hP hS => ?_)
  have hP := lk_new hP (E_z s217 n217 (by decide) (by decide)) (by omega) (fun q hq => by cases hq with | head => show 208 ≠ 217; omega | tail _ h => (cases h with | head => show 209 ≠ 217; omega | tail _ h => cases h))
  refine B_putF C0 hP hS 18 (by omega) (if_pos rfl) inG_X7 rfl (by decide) xf7_34 rfl tyX7 tyX7_ok nmX7 (by decide +kernel) (ty := .array .int) (by decide +kernel) rfl rfl (Nat.le_of_ble_eq_true rfl) dX7_init_78 (fun H locs hP hS => ?_)
  have hP : BW G (209 + 9) (lk [(208, .inr (7, [.ref (G.2 + 209), .ref (G.2 + 210), .int 0, .ref (G.2 + 211), .int 0, .ref (G.2 + 212), .int 0, .int 0, .int 0, .int 0, .int 0, .ref (G.2 + 213), .int 0, .ref (G.2 + 214), .int 0, .int 0, .ref (G.2 + 215), .ref (G.2 + 216), .ref (G.2 + 217), .null, .null, .null, .null, .null, .null, .int 0, .int 0, .int 0, .int 0, .int 0, .int 0, .int 0, .null, .int 0, .null, .null, .null, .int 0, .null])), (209, .inl (G.1.2 0, 376, .inl (fun _ => 0)))] (cE G f 208)) H := lk_2 hP
  refine W.cs (cells' := 9) (slots' := 3967) rfl rfl ?_
  refine lv_aload_n hx hb dX7_init_81 rfl (lv_at hl 0 rfl) ?_
  refine lv_sipush (v := 540) hx hb dX7_init_82 (by decide) ?_
  refine B_newi C0 hP hS xa_i 540 (by decide) (by decide) (by omega) (Nat.le_of_ble_eq_true rfl) (Nat.le_of_ble_eq_true rfl) dX7_init_85 (fun H hP hS => ?_)
  have hP := lk_new hP (E_z s218 n218 (by decide) (by decide)) (by omega) (fun q hq => by cases hq with | head => show 208 ≠ 218; omega | tail _ h => (cases h with | head => show 209 ≠ 218; omega | tail _ h => cases h))
  refine B_putF C0 hP hS 19 (by omega) (if_pos rfl) inG_X7 rfl (by decide) xf7_37 rfl tyX7 tyX7_ok nmX7 (by decide +kernel) (ty := .array .int) (by decide +kernel) rfl rfl (Nat.le_of_ble_eq_true rfl) dX7_init_87 (fun H locs hP hS => ?_)
  have hP : BW G (209 + 10) (lk [(208, .inr (7, [.ref (G.2 + 209), .ref (G.2 + 210), .int 0, .ref (G.2 + 211), .int 0, .ref (G.2 + 212), .int 0, .int 0, .int 0, .int 0, .int 0, .ref (G.2 + 213), .int 0, .ref (G.2 + 214), .int 0, .int 0, .ref (G.2 + 215), .ref (G.2 + 216), .ref (G.2 + 217), .ref (G.2 + 218), .null, .null, .null, .null, .null, .int 0, .int 0, .int 0, .int 0, .int 0, .int 0, .int 0, .null, .int 0, .null, .null, .null, .int 0, .null])), (209, .inl (G.1.2 0, 376, .inl (fun _ => 0)))] (cE G f 208)) H := lk_2 hP
  refine W.cs (cells' := 10) (slots' := 4507) rfl rfl ?_
  refine lv_aload_n hx hb dX7_init_90 rfl (lv_at hl 0 rfl) ?_
  refine lv_sipush (v := 540) hx hb dX7_init_91 (by decide) ?_
  refine B_newi C0 hP hS xa_i 540 (by decide) (by decide) (by omega) (Nat.le_of_ble_eq_true rfl) (Nat.le_of_ble_eq_true rfl) dX7_init_94 (fun H hP hS => ?_)
  have hP := lk_new hP (E_z s219 n219 (by decide) (by decide)) (by omega) (fun q hq => by cases hq with | head => show 208 ≠ 219; omega | tail _ h => (cases h with | head => show 209 ≠ 219; omega | tail _ h => cases h))
  refine B_putF C0 hP hS 20 (by omega) (if_pos rfl) inG_X7 rfl (by decide) xf7_40 rfl tyX7 tyX7_ok nmX7 (by decide +kernel) (ty := .array .int) (by decide +kernel) rfl rfl (Nat.le_of_ble_eq_true rfl) dX7_init_96 (fun H locs hP hS => ?_)
  have hP : BW G (209 + 11) (lk [(208, .inr (7, [.ref (G.2 + 209), .ref (G.2 + 210), .int 0, .ref (G.2 + 211), .int 0, .ref (G.2 + 212), .int 0, .int 0, .int 0, .int 0, .int 0, .ref (G.2 + 213), .int 0, .ref (G.2 + 214), .int 0, .int 0, .ref (G.2 + 215), .ref (G.2 + 216), .ref (G.2 + 217), .ref (G.2 + 218), .ref (G.2 + 219), .null, .null, .null, .null, .int 0, .int 0, .int 0, .int 0, .int 0, .int 0, .int 0, .null, .int 0, .null, .null, .null, .int 0, .null])), (209, .inl (G.1.2 0, 376, .inl (fun _ => 0)))] (cE G f 208)) H := lk_2 hP
  refine W.cs (cells' := 11) (slots' := 5047) rfl rfl ?_
  refine lv_aload_n hx hb dX7_init_99 rfl (lv_at hl 0 rfl) ?_
  refine lv_sipush (v := 540) hx hb dX7_init_100 (by decide) ?_
  refine B_newi C0 hP hS xa_i 540 (by decide) (by decide) (by omega) (Nat.le_of_ble_eq_true rfl) (Nat.le_of_ble_eq_true rfl) dX7_init_103 (fun H hP hS => ?_)
  have hP := lk_new hP (E_z s220 n220 (by decide) (by decide)) (by omega) (fun q hq => by cases hq with | head => show 208 ≠ 220; omega | tail _ h => (cases h with | head => show 209 ≠ 220; omega | tail _ h => cases h))
  refine B_putF C0 hP hS 21 (by omega) (if_pos rfl) inG_X7 rfl (by decide) xf7_43 rfl tyX7 tyX7_ok nmX7 (by decide +kernel) (ty := .array .int) (by decide +kernel) rfl rfl (Nat.le_of_ble_eq_true rfl) dX7_init_105 (fun H locs hP hS => ?_)
  have hP : BW G (209 + 12) (lk [(208, .inr (7, [.ref (G.2 + 209), .ref (G.2 + 210), .int 0, .ref (G.2 + 211), .int 0, .ref (G.2 + 212), .int 0, .int 0, .int 0, .int 0, .int 0, .ref (G.2 + 213), .int 0, .ref (G.2 + 214), .int 0, .int 0, .ref (G.2 + 215), .ref (G.2 + 216), .ref (G.2 + 217), .ref (G.2 + 218), .ref (G.2 + 219), .ref (G.2 + 220), .null, .null, .null, .int 0, .int 0, .int 0, .int 0, .int 0, .int 0, .int 0, .null, .int 0, .null, .null, .null, .int 0, .null])), (209, .inl (G.1.2 0, 376, .inl (fun _ => 0)))] (cE G f 208)) H := lk_2 hP
  refine W.cs (cells' := 12) (slots' := 5587) rfl rfl ?_
  refine lv_aload_n hx hb dX7_init_108 rfl (lv_at hl 0 rfl) ?_
  refine lv_sipush (v := 540) hx hb dX7_init_109 (by decide) ?_
  refine B_newi C0 hP hS xa_i 540 (by decide) (by decide) (by omega) (Nat.le_of_ble_eq_true rfl) (Nat.le_of_ble_eq_true rfl) dX7_init_112 (fun H hP hS => ?_)
  have hP := lk_new hP (E_z s221 n221 (by decide) (by decide)) (by omega) (fun q hq => by cases hq with | head => show 208 ≠ 221; omega | tail _ h => (cases h with | head => show 209 ≠ 221; omega | tail _ h => cases h))
  refine B_putF C0 hP hS 22 (by omega) (if_pos rfl) inG_X7 rfl (by decide) xf7_46 rfl tyX7 tyX7_ok nmX7 (by decide +kernel) (ty := .array .int) (by decide +kernel) rfl rfl (Nat.le_of_ble_eq_true rfl) dX7_init_114 (fun H locs hP hS => ?_)
  have hP : BW G (209 + 13) (lk [(208, .inr (7, [.ref (G.2 + 209), .ref (G.2 + 210), .int 0, .ref (G.2 + 211), .int 0, .ref (G.2 + 212), .int 0, .int 0, .int 0, .int 0, .int 0, .ref (G.2 + 213), .int 0, .ref (G.2 + 214), .int 0, .int 0, .ref (G.2 + 215), .ref (G.2 + 216), .ref (G.2 + 217), .ref (G.2 + 218), .ref (G.2 + 219), .ref (G.2 + 220), .ref (G.2 + 221), .null, .null, .int 0, .int 0, .int 0, .int 0, .int 0, .int 0, .int 0, .null, .int 0, .null, .null, .null, .int 0, .null])), (209, .inl (G.1.2 0, 376, .inl (fun _ => 0)))] (cE G f 208)) H := lk_2 hP
  refine W.cs (cells' := 13) (slots' := 6127) rfl rfl ?_
  refine lv_aload_n hx hb dX7_init_117 rfl (lv_at hl 0 rfl) ?_
  refine lv_bipush (v := 6) hx hb dX7_init_118 (by decide) ?_
  refine B_newi C0 hP hS xa_i 6 (by decide) (by decide) (by omega) (Nat.le_of_ble_eq_true rfl) (Nat.le_of_ble_eq_true rfl) dX7_init_120 (fun H hP hS => ?_)
  have hP := lk_new hP (E_z s222 n222 (by decide) (by decide)) (by omega) (fun q hq => by cases hq with | head => show 208 ≠ 222; omega | tail _ h => (cases h with | head => show 209 ≠ 222; omega | tail _ h => cases h))
  refine B_putF C0 hP hS 23 (by omega) (if_pos rfl) inG_X7 rfl (by decide) xf7_49 rfl tyX7 tyX7_ok nmX7 (by decide +kernel) (ty := .array .int) (by decide +kernel) rfl rfl (Nat.le_of_ble_eq_true rfl) dX7_init_122 (fun H locs hP hS => ?_)
  have hP : BW G (209 + 14) (lk [(208, .inr (7, [.ref (G.2 + 209), .ref (G.2 + 210), .int 0, .ref (G.2 + 211), .int 0, .ref (G.2 + 212), .int 0, .int 0, .int 0, .int 0, .int 0, .ref (G.2 + 213), .int 0, .ref (G.2 + 214), .int 0, .int 0, .ref (G.2 + 215), .ref (G.2 + 216), .ref (G.2 + 217), .ref (G.2 + 218), .ref (G.2 + 219), .ref (G.2 + 220), .ref (G.2 + 221), .ref (G.2 + 222), .null, .int 0, .int 0, .int 0, .int 0, .int 0, .int 0, .int 0, .null, .int 0, .null, .null, .null, .int 0, .null])), (209, .inl (G.1.2 0, 376, .inl (fun _ => 0)))] (cE G f 208)) H := lk_2 hP
  refine W.cs (cells' := 14) (slots' := 6133) rfl rfl ?_
  refine lv_aload_n hx hb dX7_init_125 rfl (lv_at hl 0 rfl) ?_
  refine lv_bipush (v := 6) hx hb dX7_init_126 (by decide) ?_
  refine B_newz C0 hP hS xa_z 6 (by decide) (by decide) (by omega) (Nat.le_of_ble_eq_true rfl) (Nat.le_of_ble_eq_true rfl) dX7_init_128 (fun H hP hS => ?_)
  have hP := lk_new hP (E_zz s223 n223 (by decide) (by decide)) (by omega) (fun q hq => by cases hq with | head => show 208 ≠ 223; omega | tail _ h => (cases h with | head => show 209 ≠ 223; omega | tail _ h => cases h))
  refine B_putF C0 hP hS 24 (by omega) (if_pos rfl) inG_X7 rfl (by decide) xf7_52 rfl tyX7 tyX7_ok nmX7 (by decide +kernel) (ty := .array .boolean) (by decide +kernel) rfl rfl (Nat.le_of_ble_eq_true rfl) dX7_init_130 (fun H locs hP hS => ?_)
  have hP : BW G (209 + 15) (lk [(208, .inr (7, [.ref (G.2 + 209), .ref (G.2 + 210), .int 0, .ref (G.2 + 211), .int 0, .ref (G.2 + 212), .int 0, .int 0, .int 0, .int 0, .int 0, .ref (G.2 + 213), .int 0, .ref (G.2 + 214), .int 0, .int 0, .ref (G.2 + 215), .ref (G.2 + 216), .ref (G.2 + 217), .ref (G.2 + 218), .ref (G.2 + 219), .ref (G.2 + 220), .ref (G.2 + 221), .ref (G.2 + 222), .ref (G.2 + 223), .int 0, .int 0, .int 0, .int 0, .int 0, .int 0, .int 0, .null, .int 0, .null, .null, .null, .int 0, .null])), (209, .inl (G.1.2 0, 376, .inl (fun _ => 0)))] (cE G f 208)) H := lk_2 hP
  refine W.cs (cells' := 15) (slots' := 6139) rfl rfl ?_
  refine lv_aload_n hx hb dX7_init_133 rfl (lv_at hl 0 rfl) ?_
  refine lv_iconst (v := 4) hx hb dX7_init_134 (by decide) ?_
  refine B_newi C0 hP hS xa_i 4 (by decide) (by decide) (by omega) (Nat.le_of_ble_eq_true rfl) (Nat.le_of_ble_eq_true rfl) dX7_init_135 (fun H hP hS => ?_)
  have hP := lk_new hP (E_z s224 n224 (by decide) (by decide)) (by omega) (fun q hq => by cases hq with | head => show 208 ≠ 224; omega | tail _ h => (cases h with | head => show 209 ≠ 224; omega | tail _ h => cases h))
  refine B_putF C0 hP hS 32 (by omega) (if_pos rfl) inG_X7 rfl (by decide) xf7_56 rfl tyX7 tyX7_ok nmX7 (by decide +kernel) (ty := .array .int) (by decide +kernel) rfl rfl (Nat.le_of_ble_eq_true rfl) dX7_init_137 (fun H locs hP hS => ?_)
  have hP : BW G (209 + 16) (lk [(208, .inr (7, [.ref (G.2 + 209), .ref (G.2 + 210), .int 0, .ref (G.2 + 211), .int 0, .ref (G.2 + 212), .int 0, .int 0, .int 0, .int 0, .int 0, .ref (G.2 + 213), .int 0, .ref (G.2 + 214), .int 0, .int 0, .ref (G.2 + 215), .ref (G.2 + 216), .ref (G.2 + 217), .ref (G.2 + 218), .ref (G.2 + 219), .ref (G.2 + 220), .ref (G.2 + 221), .ref (G.2 + 222), .ref (G.2 + 223), .int 0, .int 0, .int 0, .int 0, .int 0, .int 0, .int 0, .ref (G.2 + 224), .int 0, .null, .null, .null, .int 0, .null])), (209, .inl (G.1.2 0, 376, .inl (fun _ => 0)))] (cE G f 208)) H := lk_2 hP
  refine W.cs (cells' := 16) (slots' := 6143) rfl rfl ?_
  refine lv_aload_n hx hb dX7_init_140 rfl (lv_at hl 0 rfl) ?_
  refine lv_bipush (v := 100) hx hb dX7_init_141 (by decide) ?_
  refine B_newi C0 hP hS xa_i 100 (by decide) (by decide) (by omega) (Nat.le_of_ble_eq_true rfl) (Nat.le_of_ble_eq_true rfl) dX7_init_143 (fun H hP hS => ?_)
  have hP := lk_new hP (E_z s225 n225 (by decide) (by decide)) (by omega) (fun q hq => by cases hq with | head => show 208 ≠ 225; omega | tail _ h => (cases h with | head => show 209 ≠ 225; omega | tail _ h => cases h))
  refine B_putF C0 hP hS 34 (by omega) (if_pos rfl) inG_X7 rfl (by decide) xf7_59 rfl tyX7 tyX7_ok nmX7 (by decide +kernel) (ty := .array .int) (by decide +kernel) rfl rfl (Nat.le_of_ble_eq_true rfl) dX7_init_145 (fun H locs hP hS => ?_)
  have hP : BW G (209 + 17) (lk [(208, .inr (7, [.ref (G.2 + 209), .ref (G.2 + 210), .int 0, .ref (G.2 + 211), .int 0, .ref (G.2 + 212), .int 0, .int 0, .int 0, .int 0, .int 0, .ref (G.2 + 213), .int 0, .ref (G.2 + 214), .int 0, .int 0, .ref (G.2 + 215), .ref (G.2 + 216), .ref (G.2 + 217), .ref (G.2 + 218), .ref (G.2 + 219), .ref (G.2 + 220), .ref (G.2 + 221), .ref (G.2 + 222), .ref (G.2 + 223), .int 0, .int 0, .int 0, .int 0, .int 0, .int 0, .int 0, .ref (G.2 + 224), .int 0, .ref (G.2 + 225), .null, .null, .int 0, .null])), (209, .inl (G.1.2 0, 376, .inl (fun _ => 0)))] (cE G f 208)) H := lk_2 hP
  refine W.cs (cells' := 17) (slots' := 6243) rfl rfl ?_
  refine lv_aload_n hx hb dX7_init_148 rfl (lv_at hl 0 rfl) ?_
  refine lv_bipush (v := 100) hx hb dX7_init_149 (by decide) ?_
  refine B_newi C0 hP hS xa_i 100 (by decide) (by decide) (by omega) (Nat.le_of_ble_eq_true rfl) (Nat.le_of_ble_eq_true rfl) dX7_init_151 (fun H hP hS => ?_)
  have hP := lk_new hP (E_z s226 n226 (by decide) (by decide)) (by omega) (fun q hq => by cases hq with | head => show 208 ≠ 226; omega | tail _ h => (cases h with | head => show 209 ≠ 226; omega | tail _ h => cases h))
  refine B_putF C0 hP hS 35 (by omega) (if_pos rfl) inG_X7 rfl (by decide) xf7_62 rfl tyX7 tyX7_ok nmX7 (by decide +kernel) (ty := .array .int) (by decide +kernel) rfl rfl (Nat.le_of_ble_eq_true rfl) dX7_init_153 (fun H locs hP hS => ?_)
  have hP : BW G (209 + 18) (lk [(208, .inr (7, [.ref (G.2 + 209), .ref (G.2 + 210), .int 0, .ref (G.2 + 211), .int 0, .ref (G.2 + 212), .int 0, .int 0, .int 0, .int 0, .int 0, .ref (G.2 + 213), .int 0, .ref (G.2 + 214), .int 0, .int 0, .ref (G.2 + 215), .ref (G.2 + 216), .ref (G.2 + 217), .ref (G.2 + 218), .ref (G.2 + 219), .ref (G.2 + 220), .ref (G.2 + 221), .ref (G.2 + 222), .ref (G.2 + 223), .int 0, .int 0, .int 0, .int 0, .int 0, .int 0, .int 0, .ref (G.2 + 224), .int 0, .ref (G.2 + 225), .ref (G.2 + 226), .null, .int 0, .null])), (209, .inl (G.1.2 0, 376, .inl (fun _ => 0)))] (cE G f 208)) H := lk_2 hP
  refine W.cs (cells' := 18) (slots' := 6343) rfl rfl ?_
  refine lv_aload_n hx hb dX7_init_156 rfl (lv_at hl 0 rfl) ?_
  refine lv_bipush (v := 100) hx hb dX7_init_157 (by decide) ?_
  refine B_newi C0 hP hS xa_i 100 (by decide) (by decide) (by omega) (Nat.le_of_ble_eq_true rfl) (Nat.le_of_ble_eq_true rfl) dX7_init_159 (fun H hP hS => ?_)
  have hP := lk_new hP (E_z s227 n227 (by decide) (by decide)) (by omega) (fun q hq => by cases hq with | head => show 208 ≠ 227; omega | tail _ h => (cases h with | head => show 209 ≠ 227; omega | tail _ h => cases h))
  refine B_putF C0 hP hS 36 (by omega) (if_pos rfl) inG_X7 rfl (by decide) xf7_65 rfl tyX7 tyX7_ok nmX7 (by decide +kernel) (ty := .array .int) (by decide +kernel) rfl rfl (Nat.le_of_ble_eq_true rfl) dX7_init_161 (fun H locs hP hS => ?_)
  have hP : BW G (209 + 19) (lk [(208, .inr (7, [.ref (G.2 + 209), .ref (G.2 + 210), .int 0, .ref (G.2 + 211), .int 0, .ref (G.2 + 212), .int 0, .int 0, .int 0, .int 0, .int 0, .ref (G.2 + 213), .int 0, .ref (G.2 + 214), .int 0, .int 0, .ref (G.2 + 215), .ref (G.2 + 216), .ref (G.2 + 217), .ref (G.2 + 218), .ref (G.2 + 219), .ref (G.2 + 220), .ref (G.2 + 221), .ref (G.2 + 222), .ref (G.2 + 223), .int 0, .int 0, .int 0, .int 0, .int 0, .int 0, .int 0, .ref (G.2 + 224), .int 0, .ref (G.2 + 225), .ref (G.2 + 226), .ref (G.2 + 227), .int 0, .null])), (209, .inl (G.1.2 0, 376, .inl (fun _ => 0)))] (cE G f 208)) H := lk_2 hP
  refine W.cs (cells' := 19) (slots' := 6443) rfl rfl ?_
  refine lv_aload_n hx hb dX7_init_164 rfl (lv_at hl 0 rfl) ?_
  refine lv_sipush (v := 1170) hx hb dX7_init_165 (by decide) ?_
  refine B_newi C0 hP hS xa_i 1170 (by decide) (by decide) (by omega) (Nat.le_of_ble_eq_true rfl) (Nat.le_of_ble_eq_true rfl) dX7_init_168 (fun H hP hS => ?_)
  have hP := lk_new hP (E_z s228 n228 (by decide) (by decide)) (by omega) (fun q hq => by cases hq with | head => show 208 ≠ 228; omega | tail _ h => (cases h with | head => show 209 ≠ 228; omega | tail _ h => cases h))
  refine B_putF C0 hP hS 38 (by omega) (if_pos rfl) inG_X7 rfl (by decide) xf7_68 rfl tyX7 tyX7_ok nmX7 (by decide +kernel) (ty := .array .int) (by decide +kernel) rfl rfl (Nat.le_of_ble_eq_true rfl) dX7_init_170 (fun H locs hP hS => ?_)
  have hP : BW G (209 + 20) (lk [(208, .inr (7, [.ref (G.2 + 209), .ref (G.2 + 210), .int 0, .ref (G.2 + 211), .int 0, .ref (G.2 + 212), .int 0, .int 0, .int 0, .int 0, .int 0, .ref (G.2 + 213), .int 0, .ref (G.2 + 214), .int 0, .int 0, .ref (G.2 + 215), .ref (G.2 + 216), .ref (G.2 + 217), .ref (G.2 + 218), .ref (G.2 + 219), .ref (G.2 + 220), .ref (G.2 + 221), .ref (G.2 + 222), .ref (G.2 + 223), .int 0, .int 0, .int 0, .int 0, .int 0, .int 0, .int 0, .ref (G.2 + 224), .int 0, .ref (G.2 + 225), .ref (G.2 + 226), .ref (G.2 + 227), .int 0, .ref (G.2 + 228)])), (209, .inl (G.1.2 0, 376, .inl (fun _ => 0)))] (cE G f 208)) H := lk_2 hP
  refine W.cs (cells' := 20) (slots' := 7613) rfl rfl ?_
  refine lv_aload_n hx hb dX7_init_173 rfl (lv_at hl 0 rfl) ?_
  refine B_get C0 hP 0 (by omega) (if_pos rfl) inG_X7 rfl (by decide) xf7_7 rfl rfl dX7_init_174 ?_
  refine lv_iconst (v := 0) hx hb dX7_init_177 (by decide) ?_
  refine lv_iconst (v := 1) hx hb dX7_init_178 (by decide) ?_
  refine B_iast C0 hP hS (by omega) (by rw [lk_c, if_neg (show ¬ (209 : Nat) = 208 by decide), lk_c]; exact if_pos rfl) (by decide) dX7_init_179 (fun H locs hP hS => ?_)
  have hP : BW G (209 + 20) (lk [(208, .inr (7, [.ref (G.2 + 209), .ref (G.2 + 210), .int 0, .ref (G.2 + 211), .int 0, .ref (G.2 + 212), .int 0, .int 0, .int 0, .int 0, .int 0, .ref (G.2 + 213), .int 0, .ref (G.2 + 214), .int 0, .int 0, .ref (G.2 + 215), .ref (G.2 + 216), .ref (G.2 + 217), .ref (G.2 + 218), .ref (G.2 + 219), .ref (G.2 + 220), .ref (G.2 + 221), .ref (G.2 + 222), .ref (G.2 + 223), .int 0, .int 0, .int 0, .int 0, .int 0, .int 0, .int 0, .ref (G.2 + 224), .int 0, .ref (G.2 + 225), .ref (G.2 + 226), .ref (G.2 + 227), .int 0, .ref (G.2 + 228)])), (209, .inl (G.1.2 0, 376, .inl (upd (fun _ => 0) (ix 0) 1)))] (cE G f 208)) H := lk_3 hP (by decide)
  refine lv_aload_n hx hb dX7_init_180 rfl (lv_at hl 0 rfl) ?_
  refine B_get C0 hP 0 (by omega) (if_pos rfl) inG_X7 rfl (by decide) xf7_7 rfl rfl dX7_init_181 ?_
  refine lv_iconst (v := 1) hx hb dX7_init_184 (by decide) ?_
  refine lv_iconst (v := 3) hx hb dX7_init_185 (by decide) ?_
  refine B_iast C0 hP hS (by omega) (by rw [lk_c, if_neg (show ¬ (209 : Nat) = 208 by decide), lk_c]; exact if_pos rfl) (by decide) dX7_init_186 (fun H locs hP hS => ?_)
  have hP : BW G (209 + 20) (lk [(208, .inr (7, [.ref (G.2 + 209), .ref (G.2 + 210), .int 0, .ref (G.2 + 211), .int 0, .ref (G.2 + 212), .int 0, .int 0, .int 0, .int 0, .int 0, .ref (G.2 + 213), .int 0, .ref (G.2 + 214), .int 0, .int 0, .ref (G.2 + 215), .ref (G.2 + 216), .ref (G.2 + 217), .ref (G.2 + 218), .ref (G.2 + 219), .ref (G.2 + 220), .ref (G.2 + 221), .ref (G.2 + 222), .ref (G.2 + 223), .int 0, .int 0, .int 0, .int 0, .int 0, .int 0, .int 0, .ref (G.2 + 224), .int 0, .ref (G.2 + 225), .ref (G.2 + 226), .ref (G.2 + 227), .int 0, .ref (G.2 + 228)])), (209, .inl (G.1.2 0, 376, .inl (upd (upd (fun _ => 0) (ix 0) 1) (ix 1) 3)))] (cE G f 208)) H := lk_3 hP (by decide)
  refine lv_aload_n hx hb dX7_init_187 rfl (lv_at hl 0 rfl) ?_
  refine B_get C0 hP 0 (by omega) (if_pos rfl) inG_X7 rfl (by decide) xf7_7 rfl rfl dX7_init_188 ?_
  refine lv_bipush (v := 10) hx hb dX7_init_191 (by decide) ?_
  refine lv_iconst (v := 1) hx hb dX7_init_193 (by decide) ?_
  refine B_iast C0 hP hS (by omega) (by rw [lk_c, if_neg (show ¬ (209 : Nat) = 208 by decide), lk_c]; exact if_pos rfl) (by decide) dX7_init_194 (fun H locs hP hS => ?_)
  have hP : BW G (209 + 20) (lk [(208, .inr (7, [.ref (G.2 + 209), .ref (G.2 + 210), .int 0, .ref (G.2 + 211), .int 0, .ref (G.2 + 212), .int 0, .int 0, .int 0, .int 0, .int 0, .ref (G.2 + 213), .int 0, .ref (G.2 + 214), .int 0, .int 0, .ref (G.2 + 215), .ref (G.2 + 216), .ref (G.2 + 217), .ref (G.2 + 218), .ref (G.2 + 219), .ref (G.2 + 220), .ref (G.2 + 221), .ref (G.2 + 222), .ref (G.2 + 223), .int 0, .int 0, .int 0, .int 0, .int 0, .int 0, .int 0, .ref (G.2 + 224), .int 0, .ref (G.2 + 225), .ref (G.2 + 226), .ref (G.2 + 227), .int 0, .ref (G.2 + 228)])), (209, .inl (G.1.2 0, 376, .inl (upd (upd (upd (fun _ => 0) (ix 0) 1) (ix 1) 3) (ix 10) 1)))] (cE G f 208)) H := lk_3 hP (by decide)
  have hP := lk_end hP E_o7 (Nat.le_refl _) (fun q hq => by cases hq with | head => show 209 ≠ 208; omega | tail _ h => cases h)
  have hP := lk_end hP E_s (by omega) (fun q hq => by cases hq)
  exact B_ret C0 hP hS dX7_init_195
