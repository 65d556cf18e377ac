/-! constructors: Reader, Expanded -/
theorem lnE60 : ∀ a, a < 208 → (sh a).1 = 0 → ln (a + 1 + 1) = 60 := by decide +kernel
theorem E_o3 {G : GT} : En G 1 = .inr (3, [.ref (G.2 + 2), .int 0, .int 0, .ref (G.2 + 3)]) := by
  have e0 : fv G.2 3 1 M0 0 = .ref (G.2 + 2) := fv_r (by decide) (by decide +kernel)
  have e1 : fv G.2 3 1 M0 1 = .int 0 := fv_i (by decide) (by decide +kernel)
  have e2 : fv G.2 3 1 M0 2 = .int 0 := fv_i (by decide) (by decide +kernel)
  have e3 : fv G.2 3 1 M0 3 = .ref (G.2 + 3) := fv_r (by decide) (by decide +kernel)
  rw [En, ent_o (shN3 s1) (by decide), show List.range 4 = [0, 1, 2, 3] from rfl, List.map_cons, List.map_cons, List.map_cons, List.map_cons, List.map_nil, e0, e1, e2, e3]
set_option maxHeartbeats 4000000 in
theorem mi_X3 {l : Launch} {G : GT} {f : Nat → va_E} (hf : f 1 = .inr (3, [.null, .int 0, .int 0, .null])) : MI l G yX3_init cX3_init 1 3 22 496 [.ref (G.2 + 1)] 2 f (cE G f 1) := by
  refine MI.ofB (lv := [(0, .ref (G.2 + 1))]) (own := RX3) (by decide) rfl rfl rfl (Nat.le_of_ble_eq_true rfl) (Nat.succ_pos _) ?_
  intro p e s m below meth c ls C0 hl hP hS
  have hx := C0.1
  have hb := C0.2.1
  have hP := lk_start hP (Nat.le_refl _) hf
  refine lv_aload_n hx hb dX3_init_0 rfl (lv_at hl 0 rfl) ?_
  refine B_obj C0 hl.1 xo3 xoi xoc (Nat.le_of_ble_eq_true rfl) (Nat.le_of_ble_eq_true rfl) dX3_init_1 ?_
  refine lv_aload_n hx hb dX3_init_4 rfl (lv_at hl 0 rfl) ?_
  refine lv_bipush (v := 100) hx hb dX3_init_5 (by decide) ?_
  refine B_newi C0 hP hS xa_i 100 (by decide) (by decide) (by omega) (Nat.le_of_ble_eq_true rfl) (Nat.le_of_ble_eq_true rfl) dX3_init_7 (fun H hP hS => ?_)
  have hP := lk_new hP (E_z s2 n2 (by decide) (by decide)) (by omega) (fun q hq => by cases hq with | head => show 1 ≠ 2; omega | tail _ h => cases h)
  refine B_putF C0 hP hS 0 (by omega) (if_pos rfl) inG_X3 rfl (by decide) xf3_9 rfl tyX3 tyX3_ok nmX3 (by decide +kernel) (ty := .array .int) (by decide +kernel) rfl rfl (Nat.le_of_ble_eq_true rfl) dX3_init_9 (fun H locs hP hS => ?_)
  have hP : BW G (2 + 1) (lk [(1, .inr (3, [.ref (G.2 + 2), .int 0, .int 0, .null]))] (cE G f 1)) H := lk_2 hP
  refine W.cs (cells' := 1) (slots' := 100) rfl rfl ?_
  refine lv_aload_n hx hb dX3_init_12 rfl (lv_at hl 0 rfl) ?_
  refine B_new C0 hP hS inG_X4 tyX4 tyX4_ok xl3_15 xn4 w0X4 (ci := 4) rfl [.null, .int 0, .null, .int 0] (by decide) (Nat.le_of_ble_eq_true rfl) (Nat.le_of_ble_eq_true rfl) dX3_init_13 (fun H hP hS => ?_)
  refine lv_dup hx hb dX3_init_16 rfl ?_
  refine B_call C0 hP hS 0 (a := 3) (av := []) (mi_X4 (a := 3) s3 fup_eq) rfl (by decide) (by decide) xcX4 xm3_17 w0X4 xiX4 rfl (by decide +kernel) rfl hl.1 (Nat.le_of_ble_eq_true rfl) (Nat.le_of_ble_eq_true rfl) (Nat.le_of_ble_eq_true rfl) rfl dX3_init_17 (fun H locs hP hS => ?_)
  have hP := lk_back hP (by omega) (fun q hq => by cases hq with | head => show 1 < 3; omega | tail _ h => cases h)
  refine B_putF C0 hP hS 3 (by omega) (if_pos rfl) inG_X3 rfl (by decide) xf3_18 rfl tyX3 tyX3_ok nmX3 (by decide +kernel) (ty := .object RX4) (by decide +kernel) rfl rfl (Nat.le_of_ble_eq_true rfl) dX3_init_20 (fun H locs hP hS => ?_)
  have hP : BW G (2 + 22) (lk [(1, .inr (3, [.ref (G.2 + 2), .int 0, .int 0, .ref (G.2 + 3)]))] (cE G f 1)) H := lk_2 hP
  refine W.cs (cells' := 22) (slots' := 496) rfl rfl ?_
  have hP := lk_end hP E_o3 (Nat.le_refl _) (fun q hq => by cases hq)
  exact B_ret C0 hP hS dX3_init_23
set_option maxHeartbeats 4000000 in
theorem mi_X0 {l : Launch} {G : GT} {a : Nat} {f : Nat → va_E} (ha : (sh a).1 = 0) (hf : f a = .inr (0, [.int 0, .null, .int 0, .null, .null, .null, .null])) : MI l G yX0_init cX0_init 2 2 7 363 [.ref (G.2 + a), .int (nI ((a - 160) / 8))] (a + 1) f (cE G f a) := by
  obtain ⟨z4, z5, z6, z7, z8⟩ := mzE a (lt_of_sh ha (by omega)) ha
  have hF : ln (a + 1 + 1) = 60 := lnE60 a (lt_of_sh ha (by omega)) ha
  generalize hi : nI ((a - 160) / 8) = iv
  refine MI.ofB (lv := [(0, .ref (G.2 + a)), (1, .int iv)]) (own := RX0) (by decide) rfl rfl rfl (Nat.le_of_ble_eq_true rfl) (Nat.succ_pos _) ?_
  intro p e s m below meth c ls C0 hl hP hS
  have hx := C0.1
  have hb := C0.2.1
  have hP := lk_start hP (Nat.le_refl _) hf
  refine lv_aload_n hx hb dX0_init_0 rfl (lv_at hl 0 rfl) ?_
  refine B_obj C0 hl.1 xo0 xoi xoc (Nat.le_of_ble_eq_true rfl) (Nat.le_of_ble_eq_true rfl) dX0_init_1 ?_
  refine lv_aload_n hx hb dX0_init_4 rfl (lv_at hl 0 rfl) ?_
  refine B_new C0 hP hS inG_X1 tyX1 tyX1_ok xl0_9 xn1 w0X1 (ci := 1) rfl [.null, .null, .int 0] (by decide) (Nat.le_of_ble_eq_true rfl) (Nat.le_of_ble_eq_true rfl) dX0_init_5 (fun H hP hS => ?_)
  refine lv_dup hx hb dX0_init_8 rfl ?_
  refine lv_bipush (v := 60) hx hb dX0_init_9 (by decide) ?_
  refine B_call C0 hP hS 1 (a := a + 1) (av := [.int 60]) (mi_X1 (a := a + 1) (N := 60) (tE1 ha) fup_eq (by decide) (by decide) (by decide) hF (by omega)) rfl (by decide) (by decide) xcX1 xm0_11 w0X1 xiX1 rfl (by decide +kernel) rfl hl.1 (Nat.le_of_ble_eq_true rfl) (Nat.le_of_ble_eq_true rfl) (Nat.le_of_ble_eq_true rfl) rfl dX0_init_11 (fun H locs hP hS => ?_)
  have hP := lk_back hP (by omega) (fun q hq => by cases hq with | head => show a < a + 1 + 0; omega | tail _ h => cases h)
  refine B_putF C0 hP hS 1 (by omega) (if_pos rfl) inG_X0 rfl (by decide) xf0_14 rfl tyX0 tyX0_ok nmX0 (by decide +kernel) (ty := .object RX1) (by decide +kernel) rfl rfl (Nat.le_of_ble_eq_true rfl) dX0_init_14 (fun H locs hP hS => ?_)
  have hP : BW G (a + 1 + 3) (lk [(a, .inr (0, [.int 0, .ref (G.2 + (a + 1)), .int 0, .null, .null, .null, .null]))] (cE G f a)) H := lk_2 hP
  refine W.cs (cells' := 3) (slots' := 123) rfl rfl ?_
  refine lv_aload_n hx hb dX0_init_17 rfl (lv_at hl 0 rfl) ?_
  refine lv_bipush (v := 60) hx hb dX0_init_18 (by decide) ?_
  refine B_newi C0 hP hS xa_i 60 (by decide) (by decide) (by omega) (Nat.le_of_ble_eq_true rfl) (Nat.le_of_ble_eq_true rfl) dX0_init_20 (fun H hP hS => ?_)
  rw [lk_up] at hP
  have hP := lk_sw hP (by omega)
  refine B_putF C0 hP hS 3 (by omega) (if_pos rfl) inG_X0 rfl (by decide) xf0_20 rfl tyX0 tyX0_ok nmX0 (by decide +kernel) (ty := .array .int) (by decide +kernel) rfl rfl (Nat.le_of_ble_eq_true rfl) dX0_init_22 (fun H locs hP hS => ?_)
  have hP : BW G (a + 1 + 4) (lk [(a, .inr (0, [.int 0, .ref (G.2 + (a + 1)), .int 0, .ref (G.2 + (a + 4)), .null, .null, .null])), (a + 4, .inl (G.1.2 0, 60, .inl fun _ => 0))] (cE G f a)) H := lk_2 hP
  refine W.cs (cells' := 4) (slots' := 183) rfl rfl ?_
  refine lv_aload_n hx hb dX0_init_25 rfl (lv_at hl 0 rfl) ?_
  refine lv_bipush (v := 60) hx hb dX0_init_26 (by decide) ?_
  refine B_newi C0 hP hS xa_i 60 (by decide) (by decide) (by omega) (Nat.le_of_ble_eq_true rfl) (Nat.le_of_ble_eq_true rfl) dX0_init_28 (fun H hP hS => ?_)
  rw [lk_up] at hP
  have hP := lk_sw hP (by omega)
  refine B_putF C0 hP hS 4 (by omega) (if_pos rfl) inG_X0 rfl (by decide) xf0_24 rfl tyX0 tyX0_ok nmX0 (by decide +kernel) (ty := .array .int) (by decide +kernel) rfl rfl (Nat.le_of_ble_eq_true rfl) dX0_init_30 (fun H locs hP hS => ?_)
  have hP : BW G (a + 1 + 5) (lk [(a, .inr (0, [.int 0, .ref (G.2 + (a + 1)), .int 0, .ref (G.2 + (a + 4)), .ref (G.2 + (a + 5)), .null, .null])), (a + 5, .inl (G.1.2 0, 60, .inl fun _ => 0)), (a + 4, .inl (G.1.2 0, 60, .inl fun _ => 0))] (cE G f a)) H := lk_2 hP
  refine W.cs (cells' := 5) (slots' := 243) rfl rfl ?_
  refine lv_aload_n hx hb dX0_init_33 rfl (lv_at hl 0 rfl) ?_
  refine lv_bipush (v := 60) hx hb dX0_init_34 (by decide) ?_
  refine B_newi C0 hP hS xa_i 60 (by decide) (by decide) (by omega) (Nat.le_of_ble_eq_true rfl) (Nat.le_of_ble_eq_true rfl) dX0_init_36 (fun H hP hS => ?_)
  rw [lk_up] at hP
  have hP := lk_sw hP (by omega)
  refine B_putF C0 hP hS 5 (by omega) (if_pos rfl) inG_X0 rfl (by decide) xf0_27 rfl tyX0 tyX0_ok nmX0 (by decide +kernel) (ty := .array .int) (by decide +kernel) rfl rfl (Nat.le_of_ble_eq_true rfl) dX0_init_38 (fun H locs hP hS => ?_)
  have hP : BW G (a + 1 + 6) (lk [(a, .inr (0, [.int 0, .ref (G.2 + (a + 1)), .int 0, .ref (G.2 + (a + 4)), .ref (G.2 + (a + 5)), .ref (G.2 + (a + 6)), .null])), (a + 6, .inl (G.1.2 0, 60, .inl fun _ => 0)), (a + 5, .inl (G.1.2 0, 60, .inl fun _ => 0)), (a + 4, .inl (G.1.2 0, 60, .inl fun _ => 0))] (cE G f a)) H := lk_2 hP
  refine W.cs (cells' := 6) (slots' := 303) rfl rfl ?_
  refine lv_aload_n hx hb dX0_init_41 rfl (lv_at hl 0 rfl) ?_
  refine lv_bipush (v := 60) hx hb dX0_init_42 (by decide) ?_
  refine B_newi C0 hP hS xa_i 60 (by decide) (by decide) (by omega) (Nat.le_of_ble_eq_true rfl) (Nat.le_of_ble_eq_true rfl) dX0_init_44 (fun H hP hS => ?_)
  have hP := lk_new hP (E_z (tE6 ha) (nE6 ha) z7 (by omega)) (by omega) (fun q hq => by
    cases hq with
    | head => show a ≠ a + 1 + 6; omega
    | tail _ h => cases h with
      | head => show a + 6 ≠ a + 1 + 6; omega
      | tail _ h => cases h with
        | head => show a + 5 ≠ a + 1 + 6; omega
        | tail _ h => cases h with
          | head => show a + 4 ≠ a + 1 + 6; omega
          | tail _ h => cases h)
  refine B_putF C0 hP hS 6 (by omega) (if_pos rfl) inG_X0 rfl (by decide) xf0_30 rfl tyX0 tyX0_ok nmX0 (by decide +kernel) (ty := .array .int) (by decide +kernel) rfl rfl (Nat.le_of_ble_eq_true rfl) dX0_init_46 (fun H locs hP hS => ?_)
  have hP : BW G (a + 1 + 7) (lk [(a, .inr (0, [.int 0, .ref (G.2 + (a + 1)), .int 0, .ref (G.2 + (a + 4)), .ref (G.2 + (a + 5)), .ref (G.2 + (a + 6)), .ref (G.2 + (a + 7))])), (a + 6, .inl (G.1.2 0, 60, .inl fun _ => 0)), (a + 5, .inl (G.1.2 0, 60, .inl fun _ => 0)), (a + 4, .inl (G.1.2 0, 60, .inl fun _ => 0))] (cE G f a)) H := lk_2 hP
  refine W.cs (cells' := 7) (slots' := 363) rfl rfl ?_
  refine lv_aload_n hx hb dX0_init_49 rfl (lv_at hl 0 rfl) ?_
  refine lv_iload_n hx hb dX0_init_50 rfl (lv_at hl 1 rfl) ?_
  refine B_putF C0 hP hS 0 (by omega) (if_pos rfl) inG_X0 rfl (by decide) xf0_33 rfl tyX0 tyX0_ok nmX0 (by decide +kernel) (ty := .int) (by decide +kernel) rfl rfl (Nat.le_of_ble_eq_true rfl) dX0_init_51 (fun H locs hP hS => ?_)
  have hP : BW G (a + 1 + 7) (lk [(a, .inr (0, [.int iv, .ref (G.2 + (a + 1)), .int 0, .ref (G.2 + (a + 4)), .ref (G.2 + (a + 5)), .ref (G.2 + (a + 6)), .ref (G.2 + (a + 7))])), (a + 6, .inl (G.1.2 0, 60, .inl fun _ => 0)), (a + 5, .inl (G.1.2 0, 60, .inl fun _ => 0)), (a + 4, .inl (G.1.2 0, 60, .inl fun _ => 0))] (cE G f a)) H := lk_2 hP
  refine lv_aload_n hx hb dX0_init_54 rfl (lv_at hl 0 rfl) ?_
  refine B_get C0 hP 3 (by omega) (if_pos rfl) inG_X0 rfl (by decide) xf0_20 rfl rfl dX0_init_55 ?_
  refine lv_iconst (v := 0) hx hb dX0_init_58 (by decide) ?_
  refine lv_iconst (v := 1) hx hb dX0_init_59 (by decide) ?_
  refine B_iast C0 hP hS (a := a + 4) (by omega) (by rw [lk_c, if_neg (by show ¬ a + 4 = a; omega), lk_c, if_neg (by show ¬ a + 4 = a + 6; omega), lk_c, if_neg (by show ¬ a + 4 = a + 5; omega), lk_c]; exact if_pos rfl) (by decide) dX0_init_60 (fun H locs hP hS => ?_)
  have hP : BW G (a + 1 + 7) (lk [(a, .inr (0, [.int iv, .ref (G.2 + (a + 1)), .int 0, .ref (G.2 + (a + 4)), .ref (G.2 + (a + 5)), .ref (G.2 + (a + 6)), .ref (G.2 + (a + 7))])), (a + 6, .inl (G.1.2 0, 60, .inl fun _ => 0)), (a + 5, .inl (G.1.2 0, 60, .inl fun _ => 0))] (cE G f a)) H := lk_fin hP (fun c hc => by simp only [lk_c, lk_0, if_neg hc]) (by rw [lk_c, if_neg (by show ¬ a + 4 = a; omega), lk_c, if_neg (by show ¬ a + 4 = a + 6; omega), lk_c, if_neg (by show ¬ a + 4 = a + 5; omega), lk_0, cE_ge (by omega)]; exact E_1 (tE3 ha) (nE3 ha) z4 (by omega))
  refine lv_aload_n hx hb dX0_init_61 rfl (lv_at hl 0 rfl) ?_
  refine B_get C0 hP 4 (by omega) (if_pos rfl) inG_X0 rfl (by decide) xf0_24 rfl rfl dX0_init_62 ?_
  refine lv_iconst (v := 0) hx hb dX0_init_65 (by decide) ?_
  refine lv_iconst (v := 1) hx hb dX0_init_66 (by decide) ?_
  refine B_iast C0 hP hS (a := a + 5) (by omega) (by rw [lk_c, if_neg (by show ¬ a + 5 = a; omega), lk_c, if_neg (by show ¬ a + 5 = a + 6; omega), lk_c]; exact if_pos rfl) (by decide) dX0_init_67 (fun H locs hP hS => ?_)
  have hP : BW G (a + 1 + 7) (lk [(a, .inr (0, [.int iv, .ref (G.2 + (a + 1)), .int 0, .ref (G.2 + (a + 4)), .ref (G.2 + (a + 5)), .ref (G.2 + (a + 6)), .ref (G.2 + (a + 7))])), (a + 6, .inl (G.1.2 0, 60, .inl fun _ => 0))] (cE G f a)) H := lk_fin hP (fun c hc => by simp only [lk_c, lk_0, if_neg hc]) (by rw [lk_c, if_neg (by show ¬ a + 5 = a; omega), lk_c, if_neg (by show ¬ a + 5 = a + 6; omega), lk_0, cE_ge (by omega)]; exact E_1 (tE4 ha) (nE4 ha) z5 (by omega))
  refine lv_aload_n hx hb dX0_init_68 rfl (lv_at hl 0 rfl) ?_
  refine B_get C0 hP 5 (by omega) (if_pos rfl) inG_X0 rfl (by decide) xf0_27 rfl rfl dX0_init_69 ?_
  refine lv_iconst (v := 0) hx hb dX0_init_72 (by decide) ?_
  refine lv_iconst (v := 1) hx hb dX0_init_73 (by decide) ?_
  refine B_iast C0 hP hS (a := a + 6) (by omega) (by rw [lk_c, if_neg (by show ¬ a + 6 = a; omega), lk_c]; exact if_pos rfl) (by decide) dX0_init_74 (fun H locs hP hS => ?_)
  have hP : BW G (a + 1 + 7) (lk [(a, .inr (0, [.int iv, .ref (G.2 + (a + 1)), .int 0, .ref (G.2 + (a + 4)), .ref (G.2 + (a + 5)), .ref (G.2 + (a + 6)), .ref (G.2 + (a + 7))]))] (cE G f a)) H := lk_fin hP (fun c hc => by simp only [lk_c, lk_0, if_neg hc]) (by rw [lk_c, if_neg (by show ¬ a + 6 = a; omega), lk_0, cE_ge (by omega)]; exact E_1 (tE5 ha) (nE5 ha) z6 (by omega))
  have hP := lk_end hP (by rw [← hi]; exact E_E ha) (Nat.le_refl _) (fun q hq => by cases hq)
  exact B_ret C0 hP hS dX0_init_75
