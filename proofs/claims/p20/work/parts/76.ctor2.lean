/-! the constructor of Sheet -/
theorem inb_nI {i N : Nat} (h : i < N) (hN : N < 2 ^ 31) : inb (nI i) N = true := by
  have h1 : ¬ nI i < 0 := nI_pos (by omega)
  have h2 : ¬ N ≤ (nI i).toNatClampNeg := by rw [nI_clamp (by omega)]; omega
  simp [inb, h1, h2]
/-- a row of references, its first i places filled -/
def rfi (b : Nat) (r : Nat → Nat) (i : Nat) : Nat → Option Nat := fun j => if j < i then some (b + r j) else none
theorem rfi_up {b i v : Nat} {r : Nat → Nat} (h : r i = v) : va_up (rfi b r i) i (some (b + v)) = rfi b r (i + 1) := by
  funext j
  by_cases hj : j = i
  · subst hj
    rw [va_up_self, rfi, if_pos (Nat.lt_succ_self _), h]
  · rw [va_up_ne _ _ hj, rfi, rfi]
    by_cases h2 : j < i
    · rw [if_pos h2, if_pos (by omega)]
    · rw [if_neg h2, if_neg (by omega)]
theorem rfi_0 {b : Nat} {r : Nat → Nat} : (fun _ => none) = rfi b r 0 := by
  funext j
  exact (if_neg (Nat.not_lt_zero _)).symm
section SL
variable {p : Program} {l : Launch} {e : Env} {s : State} {m : MethodId} {args : Array Value} {below : List Frame} {meth : Method} {c : Code} {G : GT} {a : Nat} {f : Nat → va_E}
set_option maxHeartbeats 2000000 in
theorem sheet_loop (ha : (sh a).1 = 4) (C0 : CB p s m args meth c G cX4_init 2 RX4 (a + 1)) : ∀ k i, i + k = 6 → ∀ (H : Heap) (locs : List Loc) (ls : Array Slot), lv_has ls 2 [(1, .int (nI i)), (0, .ref (G.2 + a))] →
    BW G (a + 1 + (2 + 3 * i)) (lk [(a + 1, .inl (G.1.2 2, 6, .inr (.inr (.inr (.inr (rfi G.2 (rf (a + 1)) i)))))), (a, .inr (4, [.ref (G.2 + (a + 1)), .int 1, .ref (G.2 + (a + 2)), .int 3]))] (cE G f a)) H → va_S (fun q => G.2 ≤ q) s.heap H locs →
    W p l e (rmB 2 20 392) s m args below meth c H locs (2 + 3 * i) (14 + 63 * i) (MQ below (QB G (a + 1 + 20) (cE G f a)) args s 20 392 (fun q => G.2 ≤ q)) (F0 m 33 ls []) := by
  have hx := C0.1
  have hb := C0.2.1
  intro k
  induction k with
  | zero =>
    intro i hi H locs ls hl hP hS
    have h6 : i = 6 := by omega
    subst h6
    refine lv_iload_n hx hb dX4_init_33 rfl (lv_at hl 0 rfl) ?_
    refine lv_aload_n hx hb dX4_init_34 rfl (lv_at hl 1 rfl) ?_
    refine B_get C0 hP 0 (by omega) (by rw [lk_c, if_neg (by show a ≠ a + 1; omega), lk_c]; exact if_pos rfl) inG_X4 rfl (by decide) xf4_11 rfl rfl dX4_init_35 ?_
    refine B_alen C0 hP (t0 := 2) rfl (by omega) (if_pos rfl) (v := 6) rfl dX4_init_38 ?_
    refine lv_icmp_ge (tgt := 63) hx hb dX4_init_39 (by decide) (fun _ => ?_) (fun c1 => absurd (show (6 : Int32) ≤ nI 6 by decide +kernel) c1)
    have hP := lk_2 (hP.ref (x := a + 1) (by omega) (if_pos rfl) (g' := fun i => some (G.2 + rf (a + 1) i)) fun j hj => by rw [rfi, if_pos hj])
    have hP := lk_end hP (E_FA (tS0 ha)) (by omega) (fun q hq => by cases hq with | head => show a ≠ a + 1; omega | tail _ h => cases h)
    have hP := lk_end hP (E_S ha) (Nat.le_refl _) (fun q hq => by cases hq)
    exact B_ret C0 hP hS dX4_init_63
  | succ k ih =>
    intro i hi H locs ls hl hP hS
    have h1 : (sh (a + 1 + (2 + 3 * i))).1 = 1 := by
      rw [show a + 1 + (2 + 3 * i) = a + 3 + 3 * i by omega]
      exact (tSF ha (by omega)).1
    have h2 : ln (a + 1 + (2 + 3 * i) + 1) = 30 := by
      rw [show a + 1 + (2 + 3 * i) + 1 = a + 3 + 3 * i + 1 by omega]
      exact (tSF ha (by omega)).2
    have h3 : rf (a + 1) i = a + 1 + (2 + 3 * i) := by
      rw [((sh_F (a + 1) (lt_of_sh (tS0 ha) (by omega)) (tS0 ha)).2 i (by omega)).1]
      omega
    refine lv_iload_n hx hb dX4_init_33 rfl (lv_at hl 0 rfl) ?_
    refine lv_aload_n hx hb dX4_init_34 rfl (lv_at hl 1 rfl) ?_
    refine B_get C0 hP 0 (by omega) (by rw [lk_c, if_neg (by show a ≠ a + 1; omega), lk_c]; exact if_pos rfl) inG_X4 rfl (by decide) xf4_11 rfl rfl dX4_init_35 ?_
    refine B_alen C0 hP (t0 := 2) rfl (by omega) (if_pos rfl) (v := 6) rfl dX4_init_38 ?_
    refine lv_icmp_ge (tgt := 63) hx hb dX4_init_39 (by decide) (fun c1 => absurd c1 (nI_ge (b := 6) (by omega) (by omega))) (fun _ => ?_)
    refine lv_aload_n hx hb dX4_init_42 rfl (lv_at hl 1 rfl) ?_
    refine B_get C0 hP 0 (by omega) (by rw [lk_c, if_neg (by show a ≠ a + 1; omega), lk_c]; exact if_pos rfl) inG_X4 rfl (by decide) xf4_11 rfl rfl dX4_init_43 ?_
    refine lv_iload_n hx hb dX4_init_46 rfl (lv_at hl 0 rfl) ?_
    refine B_new C0 hP hS inG_X1 tyX1 tyX1_ok xl4_9 xn1 w0X1 (ci := 1) rfl [.null, .null, .int 0] (by decide) (by show 2 + 3 * i + 1 ≤ 20; omega) (by show 14 + 63 * i + 3 ≤ 392; omega) dX4_init_47 (fun H hP hS => ?_)
    refine lv_dup hx hb dX4_init_50 rfl ?_
    refine lv_bipush (v := 30) hx hb dX4_init_51 (by decide) ?_
    refine B_call C0 hP hS 1 (av := [.int 30]) (mi_X1 (N := 30) h1 fup_eq (by decide) (by decide) (by decide) h2 (by omega)) rfl (by decide) (by decide) xcX1 xm4_28 w0X1 xiX1 rfl (by decide +kernel) rfl hl.1 (Nat.le_of_ble_eq_true rfl) (by show 2 + 3 * i + 1 + 2 ≤ 20; omega) (by show 14 + 63 * i + 3 + (0 + 30 + 30) ≤ 392; omega) rfl dX4_init_53 (fun H locs hP hS => ?_)
    have hP := lk_back hP (by omega) (fun q hq => by
      cases hq with
      | head => show a + 1 < a + 1 + (2 + 3 * i); omega
      | tail _ h => cases h with
        | head => show a < a + 1 + (2 + 3 * i); omega
        | tail _ h => cases h)
    refine B_astq C0 hP hS (t0 := 2) (ci := 1) (v := a + 1 + (2 + 3 * i)) rfl rfl (by omega) (if_pos rfl) (by omega) (by rw [lk_c, if_neg (by show a + 1 + (2 + 3 * i) ≠ a + 1; omega), lk_c, if_neg (by show a + 1 + (2 + 3 * i) ≠ a; omega), lk_0, cE_ge (by omega), E_F h1]) (inb_nI (by omega) (by omega)) dX4_init_56 (fun H locs hP hS => ?_)
    have hP := lk_2 hP
    rw [show ix (nI i) = i from nI_clamp (by omega), rfi_up h3] at hP
    refine lv_iinc (k := 0) (v := nI (i + 1)) (lv' := [(1, .int (nI (i + 1))), (0, .ref (G.2 + a))]) hx hb dX4_init_57 hl rfl (nI_1 i) (by decide) rfl (fun ls hl => ?_)
    refine lv_goto (tgt := 33) hx hb dX4_init_60 (by decide) ?_
    refine W.cs (cells' := 2 + 3 * (i + 1)) (slots' := 14 + 63 * (i + 1)) (by omega) (by omega) ?_
    exact ih (i + 1) (by omega) H locs ls hl (by rw [show a + 1 + (2 + 3 * (i + 1)) = a + 1 + (2 + 3 * i + 1 + 2) by omega]; exact hP) hS
end SL
set_option maxHeartbeats 2000000 in
theorem mi_X4 {l : Launch} {G : GT} {a : Nat} {f : Nat → va_E} (ha : (sh a).1 = 4) (hf : f a = .inr (4, [.null, .int 0, .null, .int 0])) : MI l G yX4_init cX4_init 2 2 20 392 [.ref (G.2 + a)] (a + 1) f (cE G f a) := by
  obtain ⟨z1, z2⟩ := mzS a (lt_of_sh ha (by omega)) ha
  refine MI.ofB (lv := [(0, .ref (G.2 + a))]) (own := RX4) (by decide) rfl rfl rfl (Nat.le_of_ble_eq_true rfl) (Nat.succ_pos _) ?_
  intro p e s m below meth c ls C0 hl hP hS
  have hx := C0.1
  have hb := C0.2.1
  have hP := lk_start hP (Nat.le_refl _) hf
  refine lv_aload_n hx hb dX4_init_0 rfl (lv_at hl 0 rfl) ?_
  refine B_obj C0 hl.1 xo4 xoi xoc (Nat.le_of_ble_eq_true rfl) (Nat.le_of_ble_eq_true rfl) dX4_init_1 ?_
  refine lv_aload_n hx hb dX4_init_4 rfl (lv_at hl 0 rfl) ?_
  refine lv_bipush (v := 6) hx hb dX4_init_5 (by decide) ?_
  refine B_newq C0 hP hS 2 rfl C0.2.2.2.2.2.1.2.1 xl4_9 6 (by decide) (by decide) (by omega) (Nat.le_of_ble_eq_true rfl) (Nat.le_of_ble_eq_true rfl) dX4_init_7 (fun H hP hS => ?_)
  rw [lk_up] at hP
  refine B_putF C0 hP hS 0 (by omega) (by rw [lk_c, if_neg (by show a ≠ a + 1 + 0; omega), lk_c]; exact if_pos rfl) inG_X4 rfl (by decide) xf4_11 rfl tyX4 tyX4_ok nmX4 (by decide +kernel) (ty := .array (.object RX1)) (by decide +kernel) rfl rfl (by simp) dX4_init_10 (fun H locs hP hS => ?_)
  have hP := lk_3 hP (by omega)
  refine lv_aload_n hx hb dX4_init_13 rfl (lv_at hl 0 rfl) ?_
  refine lv_iconst (v := 1) hx hb dX4_init_14 (by decide) ?_
  refine B_put C0 hP hS 1 (by omega) (by rw [lk_c, if_neg (by show a ≠ a + 1 + 0; omega), lk_c]; exact if_pos rfl) inG_X4 rfl (by decide) xf4_17 rfl tyX4 tyX4_ok nmX4 (by decide +kernel) (ty := .int) (by decide +kernel) rfl rfl (by simp) dX4_init_15 (fun H locs hP hS => ?_)
  have hP := lk_3 hP (by omega)
  refine lv_aload_n hx hb dX4_init_18 rfl (lv_at hl 0 rfl) ?_
  refine lv_bipush (v := 8) hx hb dX4_init_19 (by decide) ?_
  refine B_newi C0 hP hS xa_i 8 (by decide) (by decide) (by omega) (Nat.le_of_ble_eq_true rfl) (Nat.le_of_ble_eq_true rfl) dX4_init_21 (fun H hP hS => ?_)
  have hP := lk_new hP (E_z (tS2 ha) (nS2 ha) z1 z2) (by omega) (fun q hq => by
    cases hq with
    | head => show a + 1 + 0 ≠ a + 1 + (0 + 1); omega
    | tail _ h => cases h with
      | head => show a ≠ a + 1 + (0 + 1); omega
      | tail _ h => cases h)
  refine B_putF C0 hP hS 2 (by omega) (by rw [lk_c, if_neg (by show a ≠ a + 1 + 0; omega), lk_c]; exact if_pos rfl) inG_X4 rfl (by decide) xf4_21 rfl tyX4 tyX4_ok nmX4 (by decide +kernel) (ty := .array .int) (by decide +kernel) rfl rfl (by simp) dX4_init_23 (fun H locs hP hS => ?_)
  have hP := lk_3 hP (by omega)
  refine lv_aload_n hx hb dX4_init_26 rfl (lv_at hl 0 rfl) ?_
  refine lv_iconst (v := 3) hx hb dX4_init_27 (by decide) ?_
  refine B_put C0 hP hS 3 (by omega) (by rw [lk_c, if_neg (by show a ≠ a + 1 + 0; omega), lk_c]; exact if_pos rfl) inG_X4 rfl (by decide) xf4_25 rfl tyX4 tyX4_ok nmX4 (by decide +kernel) (ty := .int) (by decide +kernel) rfl rfl (by simp) dX4_init_28 (fun H locs hP hS => ?_)
  have hP := lk_3 hP (by omega)
  refine lv_iconst (v := 0) hx hb dX4_init_31 (by decide) ?_
  refine lv_istore_n (lv' := [(1, .int 0), (0, .ref (G.2 + a))]) hx hb dX4_init_32 rfl hl (by decide) rfl (fun ls hl => ?_)
  rw [rfi_0 (b := G.2) (r := rf (a + 1))] at hP
  exact sheet_loop ha C0 6 0 (by omega) H locs ls (by rw [nI_0]; exact hl) hP hS
