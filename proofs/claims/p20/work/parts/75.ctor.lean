/-! constructors: Form, Sheet -/
set_option maxHeartbeats 2000000 in
theorem mi_X1 {l : Launch} {G : GT} {a N : Nat} {n : Int32} {f : Nat → va_E} (ha : (sh a).1 = 1) (hf : f a = .inr (1, [.null, .null, .int 0])) (h1 : (if (1 : Int32) < n then n else 1) = n) (h2 : ¬ n < 0) (h3 : n.toNatClampNeg = N) (h4 : ln (a + 1) = N) (h5 : N ≤ 60) : MI l G yX1_init cX1_init 2 1 2 (0 + N + N) [.ref (G.2 + a), .int n] (a + 1) f (cE G f a) := by
  obtain ⟨z1, z2, z3, z4⟩ := mzF a (lt_of_sh ha (by omega)) ha
  have hn2 : ln (a + 2) = N := by rw [← (tFd a (lt_of_sh ha (by omega)) ha).2.2.2.2.1]; exact h4
  refine MI.ofB (lv := [(0, .ref (G.2 + a)), (1, .int n)]) (own := RX1) (by decide) rfl rfl rfl (Nat.le_of_ble_eq_true rfl) (Nat.succ_pos _) ?_
  intro p e s m below meth c ls C0 hl hP hS
  have hx := C0.1
  have hb := C0.2.1
  have hP := lk_start hP (Nat.le_refl _) hf
  refine lv_aload_n hx hb dX1_init_0 rfl (lv_at hl 0 rfl) ?_
  refine B_obj C0 hl.1 xo1 xoi xoc (Nat.le_of_ble_eq_true rfl) (Nat.le_of_ble_eq_true rfl) dX1_init_1 ?_
  refine lv_aload_n hx hb dX1_init_4 rfl (lv_at hl 0 rfl) ?_
  refine lv_iconst (v := 1) hx hb dX1_init_5 (by decide) ?_
  refine B_put C0 hP hS 2 (by omega) (if_pos rfl) inG_X1 rfl (by decide) xf1_9 rfl tyX1 tyX1_ok nmX1 (by decide +kernel) (ty := .int) (by decide +kernel) rfl rfl (by simp) dX1_init_6 (fun H locs hP hS => ?_)
  have hP := lk_2 hP
  refine lv_aload_n hx hb dX1_init_9 rfl (lv_at hl 0 rfl) ?_
  refine lv_iconst (v := 1) hx hb dX1_init_10 (by decide) ?_
  refine lv_iload_n hx hb dX1_init_11 rfl (lv_at hl 1 rfl) ?_
  refine va_mmax hx hb (by rw [C0.2.2.1]; exact hl.1.symm) C0.2.2.2.1 (C0.2.2.2.2.1 _ wm1_15) (C0.2.2.2.2.1 _ wsM_max) (C0.2.2.2.2.1 _ w0Math) (C0.2.2.2.2.1 _ wcM_max) (Nat.le_of_ble_eq_true rfl) (Nat.le_of_ble_eq_true rfl) (Nat.le_of_ble_eq_true rfl) (by show 0 ≤ 0 + N + N; omega) dX1_init_12 ?_
  rw [h1]
  refine B_newi C0 hP hS xa_i N h2 h3 (by omega) (Nat.le_of_ble_eq_true rfl) (by show 0 + N ≤ 0 + N + N; omega) dX1_init_15 (fun H hP hS => ?_)
  have hP := lk_new hP (E_z (tF0 ha) h4 z1 z3) (by omega) (fun q hq => by cases hq with | head => show a ≠ a + 1 + 0; omega | tail _ h => cases h)
  refine B_putF C0 hP hS 0 (by omega) (if_pos rfl) inG_X1 rfl (by decide) xf1_21 rfl tyX1 tyX1_ok nmX1 (by decide +kernel) (ty := .array .int) (by decide +kernel) rfl rfl (by simp) dX1_init_17 (fun H locs hP hS => ?_)
  have hP := lk_2 hP
  refine lv_aload_n hx hb dX1_init_20 rfl (lv_at hl 0 rfl) ?_
  refine lv_iconst (v := 1) hx hb dX1_init_21 (by decide) ?_
  refine lv_iload_n hx hb dX1_init_22 rfl (lv_at hl 1 rfl) ?_
  refine va_mmax hx hb (by rw [C0.2.2.1]; exact hl.1.symm) C0.2.2.2.1 (C0.2.2.2.2.1 _ wm1_15) (C0.2.2.2.2.1 _ wsM_max) (C0.2.2.2.2.1 _ w0Math) (C0.2.2.2.2.1 _ wcM_max) (Nat.le_of_ble_eq_true rfl) (Nat.le_of_ble_eq_true rfl) (Nat.le_of_ble_eq_true rfl) (by show 0 + N ≤ 0 + N + N; omega) dX1_init_23 ?_
  rw [h1]
  refine B_newi C0 hP hS xa_i N h2 h3 (by omega) (Nat.le_of_ble_eq_true rfl) (by show 0 + N + N ≤ 0 + N + N; omega) dX1_init_26 (fun H hP hS => ?_)
  have hP := lk_new hP (E_z (tF1 ha) hn2 z2 z4) (by omega) (fun q hq => by cases hq with | head => show a ≠ a + 1 + (0 + 1); omega | tail _ h => cases h)
  refine B_putF C0 hP hS 1 (by omega) (if_pos rfl) inG_X1 rfl (by decide) xf1_25 rfl tyX1 tyX1_ok nmX1 (by decide +kernel) (ty := .array .int) (by decide +kernel) rfl rfl (by simp) dX1_init_28 (fun H locs hP hS => ?_)
  have hP := lk_2 hP
  have hP := lk_end hP (E_F ha) (Nat.le_refl _) (fun q hq => by cases hq)
  exact B_ret C0 hP hS dX1_init_31
