set_option maxRecDepth 100000 in
set_option maxHeartbeats 4000000 in
theorem f_Sheet_copyFormulas_b10_ok {X : XT} {G : GT} (C0 : Cx X G cX4_copyFormulas 3 RX4 none) : ∀ (n : Nat) (a0 : Nat) (a1 : Nat) (x2 : Int32) (M : Mem), (sh a0).1 = 4 → (sh a1).1 = 4 → V X G 4 vU 3 10 [(0, .ref (G.2 + a0)), (1, .ref (G.2 + a1)), (2, .int x2)] [] M (f_Sheet_copyFormulas_b10 n a0 a1 x2 M) := by
  intro n
  induction n with
  | zero =>
    intros
    exact V_none
  | succ n ih =>
    intro a0 a1 x2 M h_a0 h_a1
    rw [f_Sheet_copyFormulas_b10]
    refine V_iload_n C0 2 rfl 2 rfl dX4_copyFormulas_10 ?_
    refine V_aload_n C0 0 rfl 0 rfl dX4_copyFormulas_11 ?_
    refine g4_17 C0 h_a0 dX4_copyFormulas_12 ?_
    refine V_icmpge C0 45 dX4_copyFormulas_15 (by decide) (fun _ => ?_) (fun _ => ?_)
    · exact V_vret C0 dX4_copyFormulas_45
    · refine V_iload_n C0 2 rfl 2 rfl dX4_copyFormulas_18 ?_
      refine V_bipush C0 dX4_copyFormulas_19 bp_6 ?_
      refine V_icmpge C0 45 dX4_copyFormulas_21 (by decide) (fun _ => ?_) (fun _ => ?_)
      · exact V_vret C0 dX4_copyFormulas_45
      · refine V_aload_n C0 0 rfl 0 rfl dX4_copyFormulas_24 ?_
        refine g4_11 C0 h_a0 dX4_copyFormulas_25 ?_
        refine V_iload_n C0 2 rfl 2 rfl dX4_copyFormulas_28 ?_
        refine V_aaldF C0 (a0 + 3) (tS0 h_a0) rfl dX4_copyFormulas_29 (fun q1 => ?_)
        refine V_aload_n C0 1 rfl 1 rfl dX4_copyFormulas_30 ?_
        refine g4_11 C0 h_a1 dX4_copyFormulas_31 ?_
        refine V_iload_n C0 2 rfl 2 rfl dX4_copyFormulas_34 ?_
        refine V_aaldF C0 (a1 + 3) (tS0 h_a1) rfl dX4_copyFormulas_35 (fun q2 => ?_)
        refine k4_31 C0 q1 (by decide) (fun lq rq Mq hh => mc_f_Form_copy lq ((a0 + 3) + 3 * ix x2) ((a1 + 3) + 3 * ix x2) M rq Mq q1 q2 hh) (Nat.le_of_ble_eq_true rfl) dX4_copyFormulas_36 (fun _ M3 => ?_)
        refine V_iincB C0 2 2 (fun y4 => [(2, .int y4), (0, .ref (G.2 + a0)), (1, .ref (G.2 + a1))]) rfl ic_1 (by decide) (fun _ => rfl) dX4_copyFormulas_39 (fun y4 => ?_)
        refine V_goto C0 10 dX4_copyFormulas_42 (by decide) ?_
        exact V_sub [1, 2, 0] rfl (ih a0 a1 y4 M3 h_a0 h_a1)
set_option maxRecDepth 100000 in
set_option maxHeartbeats 4000000 in
theorem mc_f_Sheet_copyFormulas {G : GT} (l : Launch) (a0 : Nat) (a1 : Nat) (M : Mem) (r : Unit) (M1 : Mem) (h_a0 : (sh a0).1 = 4) (h_a1 : (sh a1).1 = 4) (ho : f_Sheet_copyFormulas a0 a1 M = some (r, M1)) : MC l G yX4_copyFormulas cX4_copyFormulas 3 none 4 [.ref (G.2 + a0), .ref (G.2 + a1)] M (vU r) M1 :=
  MC.ofV (own := RX4) (lv := [(0, .ref (G.2 + a0)), (1, .ref (G.2 + a1))]) (by decide +kernel) rfl rfl (Nat.le_of_ble_eq_true rfl) ho (fun X hX C0 => by
    unfold f_Sheet_copyFormulas
    refine V_aload_n C0 0 rfl 0 rfl dX4_copyFormulas_0 ?_
    refine V_aload_n C0 1 rfl 1 rfl dX4_copyFormulas_1 ?_
    refine g4_17 C0 h_a1 dX4_copyFormulas_2 ?_
    refine p4_17 C0 h_a0 dX4_copyFormulas_5 (fun M1 => ?_)
    refine V_iconst C0 dX4_copyFormulas_8 ic_0 ?_
    refine V_istore_n C0 2 [(2, .int 0), (0, .ref (G.2 + a0)), (1, .ref (G.2 + a1))] rfl (by decide) rfl dX4_copyFormulas_9 ?_
    exact V_sub [1, 2, 0] rfl (f_Sheet_copyFormulas_b10_ok C0 FU a0 a1 0 M1 h_a0 h_a1))
set_option maxRecDepth 100000 in
set_option maxHeartbeats 4000000 in
theorem mc_f_Sheet_copyState {G : GT} (l : Launch) (a0 : Nat) (a1 : Nat) (M : Mem) (r : Unit) (M1 : Mem) (h_a0 : (sh a0).1 = 4) (h_a1 : (sh a1).1 = 4) (ho : f_Sheet_copyState a0 a1 M = some (r, M1)) : MC l G yX4_copyState cX4_copyState 2 none 5 [.ref (G.2 + a0), .ref (G.2 + a1)] M (vU r) M1 :=
  MC.ofV (own := RX4) (lv := [(0, .ref (G.2 + a0)), (1, .ref (G.2 + a1))]) (by decide +kernel) rfl rfl (Nat.le_of_ble_eq_true rfl) ho (fun X hX C0 => by
    unfold f_Sheet_copyState
    refine V_aload_n C0 0 rfl 0 rfl dX4_copyState_0 ?_
    refine V_aload_n C0 1 rfl 1 rfl dX4_copyState_1 ?_
    refine k4_35 C0 h_a0 (by decide) (fun lq rq Mq hh => mc_f_Sheet_copyFormulas lq a0 a1 M rq Mq h_a0 h_a1 hh) (Nat.le_of_ble_eq_true rfl) dX4_copyState_2 (fun _ M1 => ?_)
    refine V_aload_n C0 1 rfl 1 rfl dX4_copyState_5 ?_
    refine g4_21 C0 h_a1 dX4_copyState_6 ?_
    refine V_iconst C0 dX4_copyState_9 ic_0 ?_
    refine V_aload_n C0 0 rfl 0 rfl dX4_copyState_10 ?_
    refine g4_21 C0 h_a0 dX4_copyState_11 ?_
    refine V_iconst C0 dX4_copyState_14 ic_0 ?_
    refine V_bipush C0 dX4_copyState_15 bp_8 ?_
    refine V_copy C0 8 8 wm4_39 wnM_copy wsM_copy w0System (tS2 h_a1) (tS2 h_a0) (nS2 h_a1) (nS2 h_a0) (by decide) (Nat.le_of_ble_eq_true rfl) dX4_copyState_17 (fun M2 => ?_)
    refine V_aload_n C0 0 rfl 0 rfl dX4_copyState_20 ?_
    refine V_aload_n C0 1 rfl 1 rfl dX4_copyState_21 ?_
    refine g4_25 C0 h_a1 dX4_copyState_22 ?_
    refine p4_25 C0 h_a0 dX4_copyState_25 (fun M3 => ?_)
    exact V_vret C0 dX4_copyState_28)
set_option maxRecDepth 100000 in
set_option maxHeartbeats 4000000 in
theorem mc_f_Trial_waysFor {G : GT} (l : Launch) (a1 : Nat) (x2 : Int32) (M : Mem) (r : Int32) (M1 : Mem) (h_a1 : (sh a1).1 = 0) (ho : f_Trial_waysFor a1 x2 M = some (r, M1)) : MC l G yX5_waysFor cX5_waysFor 8 (some .int) 3 [.ref (G.2 + 52), .ref (G.2 + a1), .int x2] M (vI r) M1 :=
  MC.ofV (own := RX5) (lv := [(0, .ref (G.2 + 52)), (1, .ref (G.2 + a1)), (2, .int x2)]) (by decide +kernel) rfl rfl (Nat.le_of_ble_eq_true rfl) ho (fun X hX C0 => by
    unfold f_Trial_waysFor
    refine V_iload_n C0 2 rfl 2 rfl dX5_waysFor_0 ?_
    refine V_iconst C0 dX5_waysFor_1 ic_1 ?_
    refine V_iadd C0 dX5_waysFor_2 ?_
    refine V_bi (fun y1 => ?_)
    refine V_istore_n C0 3 [(3, .int y1), (0, .ref (G.2 + 52)), (1, .ref (G.2 + a1)), (2, .int x2)] rfl (by decide) rfl dX5_waysFor_3 ?_
    refine V_aload_n C0 1 rfl 2 rfl dX5_waysFor_4 ?_
    refine g5_28 C0 h_a1 dX5_waysFor_5 ?_
    refine V_iload_n C0 2 rfl 3 rfl dX5_waysFor_8 ?_
    refine k5_49 C0 (tE1 h_a1) (by decide) (fun lq rq Mq hh => mc_f_Form_kindOf lq (a1 + 1) x2 M rq Mq (tE1 h_a1) hh) (Nat.le_of_ble_eq_true rfl) dX5_waysFor_9 (fun r2 M2 => ?_)
    refine k5_53 C0 (by decide) (fun lq rq Mq hh => mc_f_LP_partsOf lq r2 M2 rq Mq  hh) (Nat.le_of_ble_eq_true rfl) dX5_waysFor_12 (fun r3 M3 => ?_)
    refine V_istore C0 4 [(4, .int r3), (3, .int y1), (0, .ref (G.2 + 52)), (1, .ref (G.2 + a1)), (2, .int x2)] (by decide) rfl dX5_waysFor_15 ?_
    refine V_iload C0 4 0 rfl dX5_waysFor_17 ?_
    refine V_ifne C0 24 dX5_waysFor_19 (by decide) (fun _ => ?_) (fun _ => ?_)
    · refine V_iload C0 4 0 rfl dX5_waysFor_24 ?_
      refine V_iconst C0 dX5_waysFor_26 ic_1 ?_
      refine V_icmpne C0 39 dX5_waysFor_27 (by decide) (fun _ => ?_) (fun _ => ?_)
      · refine V_aload_n C0 1 rfl 3 rfl dX5_waysFor_39 ?_
        refine V_iload_n C0 2 rfl 4 rfl dX5_waysFor_40 ?_
        refine k5_60 C0 h_a1 (by decide) (fun lq rq Mq hh => mc_f_Expanded_rightOf lq a1 x2 M3 rq Mq h_a1 hh) (Nat.le_of_ble_eq_true rfl) dX5_waysFor_41 (fun r4 M4 => ?_)
        refine V_istore C0 5 [(5, .int r4), (4, .int r3), (3, .int y1), (0, .ref (G.2 + 52)), (1, .ref (G.2 + a1)), (2, .int x2)] (by decide) rfl dX5_waysFor_44 ?_
        refine V_aload_n C0 0 rfl 3 rfl dX5_waysFor_46 ?_
        refine g5_9 C0 dX5_waysFor_47 ?_
        refine V_iload_n C0 3 rfl 2 rfl dX5_waysFor_50 ?_
        refine k5_56 C0 (by decide) (fun lq rq Mq hh => mc_f_Expanded_entry lq 53 y1 M4 rq Mq s53 hh) (Nat.le_of_ble_eq_true rfl) dX5_waysFor_51 (fun r5 M5 => ?_)
        refine V_aload_n C0 0 rfl 3 rfl dX5_waysFor_54 ?_
        refine g5_15 C0 dX5_waysFor_55 ?_
        refine V_iload C0 5 0 rfl dX5_waysFor_58 ?_
        refine k5_56 C0 (by decide) (fun lq rq Mq hh => mc_f_Expanded_entry lq 54 r4 M5 rq Mq s54 hh) (Nat.le_of_ble_eq_true rfl) dX5_waysFor_60 (fun r6 M6 => ?_)
        refine V_imul C0 dX5_waysFor_63 ?_
        refine V_bi (fun y7 => ?_)
        refine V_istore C0 6 [(6, .int y7), (5, .int r4), (4, .int r3), (3, .int y1), (0, .ref (G.2 + 52)), (1, .ref (G.2 + a1)), (2, .int x2)] (by decide) rfl dX5_waysFor_64 ?_
        refine V_aload_n C0 0 rfl 4 rfl dX5_waysFor_66 ?_
        refine g5_9 C0 dX5_waysFor_67 ?_
        refine V_iload C0 5 1 rfl dX5_waysFor_70 ?_
        refine k5_56 C0 (by decide) (fun lq rq Mq hh => mc_f_Expanded_entry lq 53 r4 M6 rq Mq s53 hh) (Nat.le_of_ble_eq_true rfl) dX5_waysFor_72 (fun r8 M8 => ?_)
        refine V_aload_n C0 0 rfl 4 rfl dX5_waysFor_75 ?_
        refine g5_15 C0 dX5_waysFor_76 ?_
        refine V_iload_n C0 3 rfl 3 rfl dX5_waysFor_79 ?_
        refine k5_56 C0 (by decide) (fun lq rq Mq hh => mc_f_Expanded_entry lq 54 y1 M8 rq Mq s54 hh) (Nat.le_of_ble_eq_true rfl) dX5_waysFor_80 (fun r9 M9 => ?_)
        refine V_imul C0 dX5_waysFor_83 ?_
        refine V_bi (fun y10 => ?_)
        refine V_istore C0 7 [(7, .int y10), (6, .int y7), (5, .int r4), (4, .int r3), (3, .int y1), (0, .ref (G.2 + 52)), (1, .ref (G.2 + a1)), (2, .int x2)] (by decide) rfl dX5_waysFor_84 ?_
        refine V_iload C0 6 1 rfl dX5_waysFor_86 ?_
        refine V_iload C0 7 0 rfl dX5_waysFor_88 ?_
        refine V_iadd C0 dX5_waysFor_90 ?_
        exact V_iret C0 dX5_waysFor_91
      · refine V_aload_n C0 0 rfl 2 rfl dX5_waysFor_30 ?_
        refine g5_9 C0 dX5_waysFor_31 ?_
        refine V_iload_n C0 3 rfl 1 rfl dX5_waysFor_34 ?_
        refine k5_56 C0 (by decide) (fun lq rq Mq hh => mc_f_Expanded_entry lq 53 y1 M3 rq Mq s53 hh) (Nat.le_of_ble_eq_true rfl) dX5_waysFor_35 (fun r11 M11 => ?_)
        exact V_iret C0 dX5_waysFor_38
    · refine V_iconst C0 dX5_waysFor_22 ic_1 ?_
      exact V_iret C0 dX5_waysFor_23)
set_option maxRecDepth 100000 in
set_option maxHeartbeats 4000000 in
theorem f_Trial_tryOrders_b84_ok {X : XT} {G : GT} (C0 : Cx X G cX5_tryOrders 3 RX5 none) (k26 : Nat → Mem → Option (Unit × Mem)) (hk26 : ∀ (a1 : Nat) (M : Mem), (sh a1).1 = 0 → V X G 4 vU 3 26 [(0, .ref (G.2 + 52)), (1, .ref (G.2 + a1))] [] M (k26 a1 M)) : ∀ (n : Nat) (a1 : Nat) (x2 : Int32) (M : Mem), (sh a1).1 = 0 → V X G 4 vU 3 84 [(0, .ref (G.2 + 52)), (1, .ref (G.2 + a1)), (2, .int x2)] [] M (f_Trial_tryOrders_b84 k26 n a1 x2 M) := by
  intro n
  induction n with
  | zero =>
    intros
    exact V_none
  | succ n ih =>
    intro a1 x2 M h_a1
    rw [f_Trial_tryOrders_b84]
    refine V_iload_n C0 2 rfl 2 rfl dX5_tryOrders_84 ?_
    refine V_iflt C0 106 dX5_tryOrders_85 (by decide) (fun _ => ?_) (fun _ => ?_)
    · refine V_goto C0 26 dX5_tryOrders_106 (by decide) ?_
      exact V_sub [0, 1] rfl (hk26 a1 M h_a1)
    · refine V_aload_n C0 0 rfl 0 rfl dX5_tryOrders_88 ?_
      refine g5_9 C0 dX5_tryOrders_89 ?_
      refine V_iload_n C0 2 rfl 2 rfl dX5_tryOrders_92 ?_
      refine V_aload_n C0 0 rfl 0 rfl dX5_tryOrders_93 ?_
      refine V_aload_n C0 1 rfl 1 rfl dX5_tryOrders_94 ?_
      refine V_iload_n C0 2 rfl 2 rfl dX5_tryOrders_95 ?_
      refine k5_45 C0 (by decide) (fun lq rq Mq hh => mc_f_Trial_waysFor lq a1 x2 M rq Mq h_a1 hh) (Nat.le_of_ble_eq_true rfl) dX5_tryOrders_96 (fun r1 M1 => ?_)
      refine V_iast C0 60 s53 n53 dX5_tryOrders_99 (fun M2 => ?_)
      refine V_iincB C0 2 2 (fun y3 => [(2, .int y3), (0, .ref (G.2 + 52)), (1, .ref (G.2 + a1))]) rfl ic_m1 (by decide) (fun _ => rfl) dX5_tryOrders_100 (fun y3 => ?_)
      refine V_goto C0 84 dX5_tryOrders_103 (by decide) ?_
      exact V_sub [1, 2, 0] rfl (ih a1 y3 M2 h_a1)
set_option maxRecDepth 100000 in
set_option maxHeartbeats 4000000 in
theorem f_Trial_tryOrders_b26_ok {X : XT} {G : GT} (C0 : Cx X G cX5_tryOrders 3 RX5 none) : ∀ (n : Nat) (a1 : Nat) (M : Mem), (sh a1).1 = 0 → V X G 4 vU 3 26 [(0, .ref (G.2 + 52)), (1, .ref (G.2 + a1))] [] M (f_Trial_tryOrders_b26 n a1 M) := by
  intro n
  induction n with
  | zero =>
    intros
    exact V_none
  | succ n ih =>
    intro a1 M h_a1
    rw [f_Trial_tryOrders_b26]
    refine V_aload_n C0 0 rfl 0 rfl dX5_tryOrders_26 ?_
    refine g5_18 C0 dX5_tryOrders_27 ?_
    refine V_bipush C0 dX5_tryOrders_30 bp_10 ?_
    refine V_icmpgt C0 109 dX5_tryOrders_32 (by decide) (fun _ => ?_) (fun _ => ?_)
    · exact V_vret C0 dX5_tryOrders_109
    · refine V_aload_n C0 0 rfl 0 rfl dX5_tryOrders_35 ?_
      refine g5_9 C0 dX5_tryOrders_36 ?_
      refine V_iconst C0 dX5_tryOrders_39 ic_0 ?_
      refine V_iald C0 60 s53 n53 dX5_tryOrders_40 ?_
      refine V_ifne C0 109 dX5_tryOrders_41 (by decide) (fun _ => ?_) (fun _ => ?_)
      · exact V_vret C0 dX5_tryOrders_109
      · refine V_aload_n C0 0 rfl 0 rfl dX5_tryOrders_44 ?_
        refine V_dup C0 rfl dX5_tryOrders_45 ?_
        refine g5_18 C0 dX5_tryOrders_46 ?_
        refine V_iconst C0 dX5_tryOrders_49 ic_1 ?_
        refine V_iadd C0 dX5_tryOrders_50 ?_
        refine p5_18 C0 dX5_tryOrders_51 (fun M1 => ?_)
        refine V_aload_n C0 0 rfl 0 rfl dX5_tryOrders_54 ?_
        refine g5_9 C0 dX5_tryOrders_55 ?_
        refine V_iconst C0 dX5_tryOrders_58 ic_0 ?_
        refine V_aload_n C0 0 rfl 0 rfl dX5_tryOrders_59 ?_
        refine g5_15 C0 dX5_tryOrders_60 ?_
        refine V_iconst C0 dX5_tryOrders_63 ic_0 ?_
        refine V_bipush C0 dX5_tryOrders_64 bp_60 ?_
        refine V_copy C0 60 60 wm5_22 wnM_copy wsM_copy w0System s53 s54 n53 n54 (by decide) (Nat.le_of_ble_eq_true rfl) dX5_tryOrders_66 (fun M2 => ?_)
        refine V_aload_n C0 1 rfl 1 rfl dX5_tryOrders_69 ?_
        refine g5_28 C0 h_a1 dX5_tryOrders_70 ?_
        refine g5_34 C0 (tE1 h_a1) dX5_tryOrders_73 ?_
        refine V_bipush C0 dX5_tryOrders_76 bp_60 ?_
        refine V_mmin C0 wm5_39 wsM_min w0Math wcM_min (by decide) (Nat.le_of_ble_eq_true rfl) dX5_tryOrders_78 ?_
        refine V_iconst C0 dX5_tryOrders_81 ic_1 ?_
        refine V_isub C0 dX5_tryOrders_82 ?_
        refine V_bi (fun y3 => ?_)
        refine V_istore_n C0 2 [(2, .int y3), (0, .ref (G.2 + 52)), (1, .ref (G.2 + a1))] rfl (by decide) rfl dX5_tryOrders_83 ?_
        exact V_sub [1, 2, 0] rfl (f_Trial_tryOrders_b84_ok C0 (f_Trial_tryOrders_b26 n) ih FU a1 y3 M2 h_a1)
set_option maxRecDepth 100000 in
set_option maxHeartbeats 4000000 in
theorem f_Trial_tryOrders_b7_ok {X : XT} {G : GT} (C0 : Cx X G cX5_tryOrders 3 RX5 none) : ∀ (n : Nat) (a1 : Nat) (x2 : Int32) (M : Mem), (sh a1).1 = 0 → V X G 4 vU 3 7 [(0, .ref (G.2 + 52)), (1, .ref (G.2 + a1)), (2, .int x2)] [] M (f_Trial_tryOrders_b7 n a1 x2 M) := by
  intro n
  induction n with
  | zero =>
    intros
    exact V_none
  | succ n ih =>
    intro a1 x2 M h_a1
    rw [f_Trial_tryOrders_b7]
    refine V_iload_n C0 2 rfl 2 rfl dX5_tryOrders_7 ?_
    refine V_bipush C0 dX5_tryOrders_8 bp_60 ?_
    refine V_icmpge C0 26 dX5_tryOrders_10 (by decide) (fun _ => ?_) (fun _ => ?_)
    · exact V_sub [0, 1] rfl (f_Trial_tryOrders_b26_ok C0 FU a1 M h_a1)
    · refine V_aload_n C0 0 rfl 0 rfl dX5_tryOrders_13 ?_
      refine g5_9 C0 dX5_tryOrders_14 ?_
      refine V_iload_n C0 2 rfl 2 rfl dX5_tryOrders_17 ?_
      refine V_iconst C0 dX5_tryOrders_18 ic_0 ?_
      refine V_iast C0 60 s53 n53 dX5_tryOrders_19 (fun M1 => ?_)
      refine V_iincB C0 2 2 (fun y2 => [(2, .int y2), (0, .ref (G.2 + 52)), (1, .ref (G.2 + a1))]) rfl ic_1 (by decide) (fun _ => rfl) dX5_tryOrders_20 (fun y2 => ?_)
      refine V_goto C0 7 dX5_tryOrders_23 (by decide) ?_
      exact V_sub [1, 2, 0] rfl (ih a1 y2 M1 h_a1)
set_option maxRecDepth 100000 in
set_option maxHeartbeats 4000000 in
theorem mc_f_Trial_tryOrders {G : GT} (l : Launch) (a1 : Nat) (M : Mem) (r : Unit) (M1 : Mem) (h_a1 : (sh a1).1 = 0) (ho : f_Trial_tryOrders a1 M = some (r, M1)) : MC l G yX5_tryOrders cX5_tryOrders 3 none 4 [.ref (G.2 + 52), .ref (G.2 + a1)] M (vU r) M1 :=
  MC.ofV (own := RX5) (lv := [(0, .ref (G.2 + 52)), (1, .ref (G.2 + a1))]) (by decide +kernel) rfl rfl (Nat.le_of_ble_eq_true rfl) ho (fun X hX C0 => by
    unfold f_Trial_tryOrders
    refine V_aload_n C0 0 rfl 0 rfl dX5_tryOrders_0 ?_
    refine V_iconst C0 dX5_tryOrders_1 ic_0 ?_
    refine p5_18 C0 dX5_tryOrders_2 (fun M1 => ?_)
    refine V_iconst C0 dX5_tryOrders_5 ic_0 ?_
    refine V_istore_n C0 2 [(2, .int 0), (0, .ref (G.2 + 52)), (1, .ref (G.2 + a1))] rfl (by decide) rfl dX5_tryOrders_6 ?_
    exact V_sub [1, 2, 0] rfl (f_Trial_tryOrders_b7_ok C0 FU a1 0 M1 h_a1))
set_option maxRecDepth 100000 in
set_option maxHeartbeats 4000000 in
theorem mc_f_LP_append {G : GT} (l : Launch) (x1 : Int32) (M : Mem) (r : Int32) (M1 : Mem) (ho : f_LP_append x1 M = some (r, M1)) : MC l G yX6_append cX6_append 2 (some .int) 1 [.ref (G.2 + 0), .int x1] M (vI r) M1 :=
  MC.ofV (own := RX6) (lv := [(0, .ref (G.2 + 0)), (1, .int x1)]) (by decide +kernel) rfl rfl (Nat.le_of_ble_eq_true rfl) ho (fun X hX C0 => by
    unfold f_LP_append
    refine V_iload_n C0 1 rfl 1 rfl dX6_append_0 ?_
    refine V_iconst C0 dX6_append_1 ic_1 ?_
    refine V_icmplt C0 12 dX6_append_2 (by decide) (fun _ => ?_) (fun _ => ?_)
    · refine V_ldc C0 wk6_50 dX6_append_12 ?_
      exact V_iret C0 dX6_append_14
    · refine V_iload_n C0 1 rfl 1 rfl dX6_append_5 ?_
      refine V_sipush C0 dX6_append_6 sp_255 ?_
      refine V_icmple C0 15 dX6_append_9 (by decide) (fun _ => ?_) (fun _ => ?_)
      · refine V_aload_n C0 0 rfl 0 rfl dX6_append_15 ?_
        refine g6_12 C0 dX6_append_16 ?_
        refine V_iload_n C0 1 rfl 1 rfl dX6_append_19 ?_
        refine k6_51 C0 (by decide) (fun lq rq Mq hh => mc_f_Reader_take lq x1 M rq Mq  hh) (Nat.le_of_ble_eq_true rfl) dX6_append_20 (fun r1 M1 => ?_)
        refine V_ifeq C0 36 dX6_append_23 (by decide) (fun _ => ?_) (fun _ => ?_)
        · refine V_ldc C0 wk6_59 dX6_append_36 ?_
          exact V_iret C0 dX6_append_38
        · refine V_aload_n C0 0 rfl 0 rfl dX6_append_26 ?_
          refine g6_12 C0 dX6_append_27 ?_
          refine g6_55 C0 dX6_append_30 ?_
          refine V_goto C0 38 dX6_append_33 (by decide) ?_
          exact V_iret C0 dX6_append_38
      · refine V_ldc C0 wk6_50 dX6_append_12 ?_
        exact V_iret C0 dX6_append_14)
set_option maxRecDepth 100000 in
set_option maxHeartbeats 4000000 in
theorem mc_f_LP_arePlaces {G : GT} (l : Launch) (x0 : Int32) (M : Mem) (r : Int32) (M1 : Mem) (ho : f_LP_arePlaces x0 M = some (r, M1)) : MC l G yX6_arePlaces cX6_arePlaces 1 (some .boolean) 0 [.int x0] M (vI r) M1 :=
  MC.ofV (own := RX6) (lv := [(0, .int x0)]) (by decide +kernel) rfl rfl (Nat.le_of_ble_eq_true rfl) ho (fun X hX C0 => by
    unfold f_LP_arePlaces
    refine V_iload_n C0 0 rfl 0 rfl dX6_arePlaces_0 ?_
    refine V_iconst C0 dX6_arePlaces_1 ic_2 ?_
    refine V_icmplt C0 15 dX6_arePlaces_2 (by decide) (fun _ => ?_) (fun _ => ?_)
    · refine V_iconst C0 dX6_arePlaces_15 ic_0 ?_
      exact V_zret C0 dX6_arePlaces_16
    · refine V_iload_n C0 0 rfl 0 rfl dX6_arePlaces_5 ?_
      refine V_bipush C0 dX6_arePlaces_6 bp_8 ?_
      refine V_icmpgt C0 15 dX6_arePlaces_8 (by decide) (fun _ => ?_) (fun _ => ?_)
      · refine V_iconst C0 dX6_arePlaces_15 ic_0 ?_
        exact V_zret C0 dX6_arePlaces_16
      · refine V_iconst C0 dX6_arePlaces_11 ic_1 ?_
        refine V_goto C0 16 dX6_arePlaces_12 (by decide) ?_
        exact V_zret C0 dX6_arePlaces_16)
set_option maxRecDepth 100000 in
set_option maxHeartbeats 4000000 in
theorem mc_f_LP_isCell {G : GT} (l : Launch) (x0 : Int32) (M : Mem) (r : Int32) (M1 : Mem) (ho : f_LP_isCell x0 M = some (r, M1)) : MC l G yX6_isCell cX6_isCell 1 (some .boolean) 0 [.int x0] M (vI r) M1 :=
  MC.ofV (own := RX6) (lv := [(0, .int x0)]) (by decide +kernel) rfl rfl (Nat.le_of_ble_eq_true rfl) ho (fun X hX C0 => by
    unfold f_LP_isCell
    refine V_iload_n C0 0 rfl 0 rfl dX6_isCell_0 ?_
    refine V_iflt C0 14 dX6_isCell_1 (by decide) (fun _ => ?_) (fun _ => ?_)
    · refine V_iconst C0 dX6_isCell_14 ic_0 ?_
      exact V_zret C0 dX6_isCell_15
    · refine V_iload_n C0 0 rfl 0 rfl dX6_isCell_4 ?_
      refine V_bipush C0 dX6_isCell_5 bp_8 ?_
      refine V_icmpge C0 14 dX6_isCell_7 (by decide) (fun _ => ?_) (fun _ => ?_)
      · refine V_iconst C0 dX6_isCell_14 ic_0 ?_
        exact V_zret C0 dX6_isCell_15
      · refine V_iconst C0 dX6_isCell_10 ic_1 ?_
        refine V_goto C0 15 dX6_isCell_11 (by decide) ?_
        exact V_zret C0 dX6_isCell_15)
set_option maxRecDepth 100000 in
set_option maxHeartbeats 4000000 in
theorem mc_f_LP_cell {G : GT} (l : Launch) (x1 : Int32) (M : Mem) (r : Int32) (M1 : Mem) (ho : f_LP_cell x1 M = some (r, M1)) : MC l G yX6_cell cX6_cell 2 (some .int) 1 [.ref (G.2 + 0), .int x1] M (vI r) M1 :=
  MC.ofV (own := RX6) (lv := [(0, .ref (G.2 + 0)), (1, .int x1)]) (by decide +kernel) rfl rfl (Nat.le_of_ble_eq_true rfl) ho (fun X hX C0 => by
    unfold f_LP_cell
    refine V_iload_n C0 1 rfl 1 rfl dX6_cell_0 ?_
    refine k6_106 C0 (by decide) (fun lq rq Mq hh => mc_f_LP_isCell lq x1 M rq Mq  hh) (Nat.le_of_ble_eq_true rfl) dX6_cell_1 (fun r1 M1 => ?_)
    refine V_ifeq C0 19 dX6_cell_4 (by decide) (fun _ => ?_) (fun _ => ?_)
    · refine V_ldc C0 wk6_50 dX6_cell_19 ?_
      exact V_iret C0 dX6_cell_21
    · refine V_aload_n C0 0 rfl 0 rfl dX6_cell_7 ?_
      refine g6_19 C0 dX6_cell_8 ?_
      refine g6_109 C0 s24 dX6_cell_11 ?_
      refine V_iload_n C0 1 rfl 1 rfl dX6_cell_14 ?_
      refine V_iald C0 8 s26 n26 dX6_cell_15 ?_
      refine V_goto C0 21 dX6_cell_16 (by decide) ?_
      exact V_iret C0 dX6_cell_21)
set_option maxRecDepth 100000 in
set_option maxHeartbeats 4000000 in
theorem f_LP_cheapDefinitions_b4_ok {X : XT} {G : GT} (C0 : Cx X G cX6_cheapDefinitions 3 RX6 (some .int)) : ∀ (n : Nat) (x1 : Int32) (x2 : Int32) (M : Mem), V X G 0 vI 3 4 [(0, .ref (G.2 + 0)), (1, .int x1), (2, .int x2)] [] M (f_LP_cheapDefinitions_b4 n x1 x2 M) := by
  intro n
  induction n with
  | zero =>
    intros
    exact V_none
  | succ n ih =>
    intro x1 x2 M
    rw [f_LP_cheapDefinitions_b4]
    refine V_iload_n C0 2 rfl 2 rfl dX6_cheapDefinitions_4 ?_
    refine V_aload_n C0 0 rfl 0 rfl dX6_cheapDefinitions_5 ?_
    refine g6_19 C0 dX6_cheapDefinitions_6 ?_
    refine g6_80 C0 s24 dX6_cheapDefinitions_9 ?_
    refine V_icmpge C0 47 dX6_cheapDefinitions_12 (by decide) (fun _ => ?_) (fun _ => ?_)
    · refine V_iload_n C0 1 rfl 1 rfl dX6_cheapDefinitions_47 ?_
      exact V_iret C0 dX6_cheapDefinitions_48
    · refine V_iload_n C0 2 rfl 2 rfl dX6_cheapDefinitions_15 ?_
      refine V_bipush C0 dX6_cheapDefinitions_16 bp_6 ?_
      refine V_icmpge C0 47 dX6_cheapDefinitions_18 (by decide) (fun _ => ?_) (fun _ => ?_)
      · refine V_iload_n C0 1 rfl 1 rfl dX6_cheapDefinitions_47 ?_
        exact V_iret C0 dX6_cheapDefinitions_48
      · refine V_iload_n C0 1 rfl 1 rfl dX6_cheapDefinitions_21 ?_
        refine V_aload_n C0 0 rfl 0 rfl dX6_cheapDefinitions_22 ?_
        refine g6_29 C0 dX6_cheapDefinitions_23 ?_
        refine V_iload_n C0 2 rfl 2 rfl dX6_cheapDefinitions_26 ?_
        refine V_aaldE C0 dX6_cheapDefinitions_27 (fun q1 => ?_)
        refine g6_142 C0 q1 dX6_cheapDefinitions_28 ?_
        refine V_ifeq C0 38 dX6_cheapDefinitions_31 (by decide) (fun _ => ?_) (fun _ => ?_)
        · refine V_iconst C0 dX6_cheapDefinitions_38 ic_0 ?_
          refine V_iadd C0 dX6_cheapDefinitions_39 ?_
          refine V_bi (fun y2 => ?_)
          refine V_istore_n C0 1 [(1, .int y2), (0, .ref (G.2 + 0)), (2, .int x2)] rfl (by decide) rfl dX6_cheapDefinitions_40 ?_
          refine V_iincB C0 2 2 (fun y3 => [(2, .int y3), (1, .int y2), (0, .ref (G.2 + 0))]) rfl ic_1 (by decide) (fun _ => rfl) dX6_cheapDefinitions_41 (fun y3 => ?_)
          refine V_goto C0 4 dX6_cheapDefinitions_44 (by decide) ?_
          exact V_sub [2, 1, 0] rfl (ih y2 y3 M)
        · refine V_iconst C0 dX6_cheapDefinitions_34 ic_1 ?_
          refine V_goto C0 39 dX6_cheapDefinitions_35 (by decide) ?_
          refine V_iadd C0 dX6_cheapDefinitions_39 ?_
          refine V_bi (fun y4 => ?_)
          refine V_istore_n C0 1 [(1, .int y4), (0, .ref (G.2 + 0)), (2, .int x2)] rfl (by decide) rfl dX6_cheapDefinitions_40 ?_
          refine V_iincB C0 2 2 (fun y5 => [(2, .int y5), (1, .int y4), (0, .ref (G.2 + 0))]) rfl ic_1 (by decide) (fun _ => rfl) dX6_cheapDefinitions_41 (fun y5 => ?_)
          refine V_goto C0 4 dX6_cheapDefinitions_44 (by decide) ?_
          exact V_sub [2, 1, 0] rfl (ih y4 y5 M)
set_option maxRecDepth 100000 in
set_option maxHeartbeats 4000000 in
theorem mc_f_LP_cheapDefinitions {G : GT} (l : Launch) (M : Mem) (r : Int32) (M1 : Mem) (ho : f_LP_cheapDefinitions  M = some (r, M1)) : MC l G yX6_cheapDefinitions cX6_cheapDefinitions 3 (some .int) 0 [.ref (G.2 + 0)] M (vI r) M1 :=
  MC.ofV (own := RX6) (lv := [(0, .ref (G.2 + 0))]) (by decide +kernel) rfl rfl (Nat.le_of_ble_eq_true rfl) ho (fun X hX C0 => by
    unfold f_LP_cheapDefinitions
    refine V_iconst C0 dX6_cheapDefinitions_0 ic_0 ?_
    refine V_istore_n C0 1 [(1, .int 0), (0, .ref (G.2 + 0))] rfl (by decide) rfl dX6_cheapDefinitions_1 ?_
    refine V_iconst C0 dX6_cheapDefinitions_2 ic_0 ?_
    refine V_istore_n C0 2 [(2, .int 0), (1, .int 0), (0, .ref (G.2 + 0))] rfl (by decide) rfl dX6_cheapDefinitions_3 ?_
    exact V_sub [2, 1, 0] rfl (f_LP_cheapDefinitions_b4_ok C0 FU 0 0 M))
set_option maxRecDepth 100000 in
set_option maxHeartbeats 4000000 in
theorem mc_f_LP_clearText {G : GT} (l : Launch) (M : Mem) (r : Int32) (M1 : Mem) (ho : f_LP_clearText  M = some (r, M1)) : MC l G yX6_clearText cX6_clearText 2 (some .int) 0 [.ref (G.2 + 0)] M (vI r) M1 :=
  MC.ofV (own := RX6) (lv := [(0, .ref (G.2 + 0))]) (by decide +kernel) rfl rfl (Nat.le_of_ble_eq_true rfl) ho (fun X hX C0 => by
    unfold f_LP_clearText
    refine V_aload_n C0 0 rfl 0 rfl dX6_clearText_0 ?_
    refine g6_12 C0 dX6_clearText_1 ?_
    refine g6_55 C0 dX6_clearText_4 ?_
    refine V_bi (fun y1 => ?_)
    refine V_istore_n C0 1 [(1, .int y1), (0, .ref (G.2 + 0))] rfl (by decide) rfl dX6_clearText_7 ?_
    refine V_aload_n C0 0 rfl 1 rfl dX6_clearText_8 ?_
    refine g6_12 C0 dX6_clearText_9 ?_
    refine V_iconst C0 dX6_clearText_12 ic_0 ?_
    refine p6_55 C0 dX6_clearText_13 (fun M2 => ?_)
    refine V_iload_n C0 1 rfl 0 rfl dX6_clearText_16 ?_
    exact V_iret C0 dX6_clearText_17)
set_option maxRecDepth 100000 in
set_option maxHeartbeats 4000000 in
theorem f_LP_nodesAsRead_b4_ok {X : XT} {G : GT} (C0 : Cx X G cX6_nodesAsRead 3 RX6 (some .int)) : ∀ (n : Nat) (x1 : Int32) (x2 : Int32) (M : Mem), V X G 0 vI 3 4 [(0, .ref (G.2 + 0)), (1, .int x1), (2, .int x2)] [] M (f_LP_nodesAsRead_b4 n x1 x2 M) := by
  intro n
  induction n with
  | zero =>
    intros
    exact V_none
  | succ n ih =>
    intro x1 x2 M
    rw [f_LP_nodesAsRead_b4]
    refine V_iload_n C0 2 rfl 2 rfl dX6_nodesAsRead_4 ?_
    refine V_aload_n C0 0 rfl 0 rfl dX6_nodesAsRead_5 ?_
    refine g6_19 C0 dX6_nodesAsRead_6 ?_
    refine g6_80 C0 s24 dX6_nodesAsRead_9 ?_
    refine V_icmpge C0 42 dX6_nodesAsRead_12 (by decide) (fun _ => ?_) (fun _ => ?_)
    · refine V_iload_n C0 1 rfl 1 rfl dX6_nodesAsRead_42 ?_
      exact V_iret C0 dX6_nodesAsRead_43
    · refine V_iload_n C0 2 rfl 2 rfl dX6_nodesAsRead_15 ?_
      refine V_bipush C0 dX6_nodesAsRead_16 bp_6 ?_
      refine V_icmpge C0 42 dX6_nodesAsRead_18 (by decide) (fun _ => ?_) (fun _ => ?_)
      · refine V_iload_n C0 1 rfl 1 rfl dX6_nodesAsRead_42 ?_
        exact V_iret C0 dX6_nodesAsRead_43
      · refine V_iload_n C0 1 rfl 1 rfl dX6_nodesAsRead_21 ?_
        refine V_aload_n C0 0 rfl 0 rfl dX6_nodesAsRead_22 ?_
        refine g6_19 C0 dX6_nodesAsRead_23 ?_
        refine g6_86 C0 s24 dX6_nodesAsRead_26 ?_
        refine V_iload_n C0 2 rfl 2 rfl dX6_nodesAsRead_29 ?_
        refine V_aaldF C0 27 s25 rfl dX6_nodesAsRead_30 (fun q1 => ?_)
        refine g6_135 C0 q1 dX6_nodesAsRead_31 ?_
        refine V_iadd C0 dX6_nodesAsRead_34 ?_
        refine V_bi (fun y2 => ?_)
        refine V_istore_n C0 1 [(1, .int y2), (0, .ref (G.2 + 0)), (2, .int x2)] rfl (by decide) rfl dX6_nodesAsRead_35 ?_
        refine V_iincB C0 2 2 (fun y3 => [(2, .int y3), (1, .int y2), (0, .ref (G.2 + 0))]) rfl ic_1 (by decide) (fun _ => rfl) dX6_nodesAsRead_36 (fun y3 => ?_)
        refine V_goto C0 4 dX6_nodesAsRead_39 (by decide) ?_
        exact V_sub [2, 1, 0] rfl (ih y2 y3 M)
set_option maxRecDepth 100000 in
set_option maxHeartbeats 4000000 in
theorem mc_f_LP_nodesAsRead {G : GT} (l : Launch) (M : Mem) (r : Int32) (M1 : Mem) (ho : f_LP_nodesAsRead  M = some (r, M1)) : MC l G yX6_nodesAsRead cX6_nodesAsRead 3 (some .int) 0 [.ref (G.2 + 0)] M (vI r) M1 :=
  MC.ofV (own := RX6) (lv := [(0, .ref (G.2 + 0))]) (by decide +kernel) rfl rfl (Nat.le_of_ble_eq_true rfl) ho (fun X hX C0 => by
    unfold f_LP_nodesAsRead
    refine V_iconst C0 dX6_nodesAsRead_0 ic_0 ?_
    refine V_istore_n C0 1 [(1, .int 0), (0, .ref (G.2 + 0))] rfl (by decide) rfl dX6_nodesAsRead_1 ?_
    refine V_iconst C0 dX6_nodesAsRead_2 ic_0 ?_
    refine V_istore_n C0 2 [(2, .int 0), (1, .int 0), (0, .ref (G.2 + 0))] rfl (by decide) rfl dX6_nodesAsRead_3 ?_
    exact V_sub [2, 1, 0] rfl (f_LP_nodesAsRead_b4_ok C0 FU 0 0 M))
set_option maxRecDepth 100000 in
set_option maxHeartbeats 4000000 in
theorem f_LP_greatestNeed_b4_ok {X : XT} {G : GT} (C0 : Cx X G cX6_greatestNeed 3 RX6 (some .int)) : ∀ (n : Nat) (x1 : Int32) (x2 : Int32) (M : Mem), V X G 2 vI 3 4 [(0, .ref (G.2 + 0)), (1, .int x1), (2, .int x2)] [] M (f_LP_greatestNeed_b4 n x1 x2 M) := by
  intro n
  induction n with
  | zero =>
    intros
    exact V_none
  | succ n ih =>
    intro x1 x2 M
    rw [f_LP_greatestNeed_b4]
    refine V_iload_n C0 2 rfl 2 rfl dX6_greatestNeed_4 ?_
    refine V_aload_n C0 0 rfl 0 rfl dX6_greatestNeed_5 ?_
    refine g6_19 C0 dX6_greatestNeed_6 ?_
    refine g6_80 C0 s24 dX6_greatestNeed_9 ?_
    refine V_icmpge C0 54 dX6_greatestNeed_12 (by decide) (fun _ => ?_) (fun _ => ?_)
    · refine V_iload_n C0 1 rfl 1 rfl dX6_greatestNeed_54 ?_
      exact V_iret C0 dX6_greatestNeed_55
    · refine V_iload_n C0 2 rfl 2 rfl dX6_greatestNeed_15 ?_
      refine V_bipush C0 dX6_greatestNeed_16 bp_6 ?_
      refine V_icmpge C0 54 dX6_greatestNeed_18 (by decide) (fun _ => ?_) (fun _ => ?_)
      · refine V_iload_n C0 1 rfl 1 rfl dX6_greatestNeed_54 ?_
        exact V_iret C0 dX6_greatestNeed_55
      · refine V_aload_n C0 0 rfl 0 rfl dX6_greatestNeed_21 ?_
        refine g6_29 C0 dX6_greatestNeed_22 ?_
        refine V_iload_n C0 2 rfl 2 rfl dX6_greatestNeed_25 ?_
        refine V_aaldE C0 dX6_greatestNeed_26 (fun q1 => ?_)
        refine g6_142 C0 q1 dX6_greatestNeed_27 ?_
        refine V_ifne C0 48 dX6_greatestNeed_30 (by decide) (fun _ => ?_) (fun _ => ?_)
        · refine V_iincB C0 2 2 (fun y2 => [(2, .int y2), (0, .ref (G.2 + 0)), (1, .int x1)]) rfl ic_1 (by decide) (fun _ => rfl) dX6_greatestNeed_48 (fun y2 => ?_)
          refine V_goto C0 4 dX6_greatestNeed_51 (by decide) ?_
          exact V_sub [1, 2, 0] rfl (ih x1 y2 M)
        · refine V_iload_n C0 1 rfl 1 rfl dX6_greatestNeed_33 ?_
          refine V_aload_n C0 0 rfl 0 rfl dX6_greatestNeed_34 ?_
          refine g6_29 C0 dX6_greatestNeed_35 ?_
          refine V_iload_n C0 2 rfl 2 rfl dX6_greatestNeed_38 ?_
          refine V_aaldE C0 dX6_greatestNeed_39 (fun q3 => ?_)
          refine V_iconst C0 dX6_greatestNeed_40 ic_0 ?_
          refine k6_103 C0 q3 (by decide) (fun lq rq Mq hh => mc_f_Expanded_needOf lq (160 + 8 * ix x2) 0 M rq Mq q3 hh) (Nat.le_of_ble_eq_true rfl) dX6_greatestNeed_41 (fun r4 M4 => ?_)
          refine V_mmax C0 wm6_220 wsM_max w0Math wcM_max (by decide) (Nat.le_of_ble_eq_true rfl) dX6_greatestNeed_44 ?_
          refine V_bi (fun y5 => ?_)
          refine V_istore_n C0 1 [(1, .int y5), (0, .ref (G.2 + 0)), (2, .int x2)] rfl (by decide) rfl dX6_greatestNeed_47 ?_
          refine V_iincB C0 2 2 (fun y6 => [(2, .int y6), (1, .int y5), (0, .ref (G.2 + 0))]) rfl ic_1 (by decide) (fun _ => rfl) dX6_greatestNeed_48 (fun y6 => ?_)
          refine V_goto C0 4 dX6_greatestNeed_51 (by decide) ?_
          exact V_sub [2, 1, 0] rfl (ih y5 y6 M4)
set_option maxRecDepth 100000 in
set_option maxHeartbeats 4000000 in
theorem mc_f_LP_greatestNeed {G : GT} (l : Launch) (M : Mem) (r : Int32) (M1 : Mem) (ho : f_LP_greatestNeed  M = some (r, M1)) : MC l G yX6_greatestNeed cX6_greatestNeed 3 (some .int) 2 [.ref (G.2 + 0)] M (vI r) M1 :=
  MC.ofV (own := RX6) (lv := [(0, .ref (G.2 + 0))]) (by decide +kernel) rfl rfl (Nat.le_of_ble_eq_true rfl) ho (fun X hX C0 => by
    unfold f_LP_greatestNeed
    refine V_iconst C0 dX6_greatestNeed_0 ic_0 ?_
    refine V_istore_n C0 1 [(1, .int 0), (0, .ref (G.2 + 0))] rfl (by decide) rfl dX6_greatestNeed_1 ?_
    refine V_iconst C0 dX6_greatestNeed_2 ic_0 ?_
    refine V_istore_n C0 2 [(2, .int 0), (1, .int 0), (0, .ref (G.2 + 0))] rfl (by decide) rfl dX6_greatestNeed_3 ?_
    exact V_sub [2, 1, 0] rfl (f_LP_greatestNeed_b4_ok C0 FU 0 0 M))
set_option maxRecDepth 100000 in
set_option maxHeartbeats 4000000 in
theorem mc_f_LP_count {G : GT} (l : Launch) (x1 : Int32) (M : Mem) (r : Int32) (M1 : Mem) (ho : f_LP_count x1 M = some (r, M1)) : MC l G yX6_count cX6_count 2 (some .int) 3 [.ref (G.2 + 0), .int x1] M (vI r) M1 :=
  MC.ofV (own := RX6) (lv := [(0, .ref (G.2 + 0)), (1, .int x1)]) (by decide +kernel) rfl rfl (Nat.le_of_ble_eq_true rfl) ho (fun X hX C0 => by
    unfold f_LP_count
    refine V_iload_n C0 1 rfl 1 rfl dX6_count_0 ?_
    refine V_ts C0 0 44 dX6_count_1 (by decide) (by decide) rfl (by decide) (fun _ => ?_) (fun hs0 => ?_)
    · refine V_aload_n C0 0 rfl 0 rfl dX6_count_44 ?_
      refine g6_19 C0 dX6_count_45 ?_
      refine g6_80 C0 s24 dX6_count_48 ?_
      exact V_iret C0 dX6_count_51
    refine V_ts C0 1 52 dX6_count_1 (by decide) (by decide) rfl (by decide) (fun _ => ?_) (fun hs1 => ?_)
    · refine V_aload_n C0 0 rfl 0 rfl dX6_count_52 ?_
      refine k6_125 C0 (by decide) (fun lq rq Mq hh => mc_f_LP_cheapDefinitions lq  M rq Mq  hh) (Nat.le_of_ble_eq_true rfl) dX6_count_53 (fun r1 M1 => ?_)
      exact V_iret C0 dX6_count_56
    refine V_ts C0 2 57 dX6_count_1 (by decide) (by decide) rfl (by decide) (fun _ => ?_) (fun hs2 => ?_)
    · refine V_aload_n C0 0 rfl 0 rfl dX6_count_57 ?_
      refine k6_129 C0 (by decide) (fun lq rq Mq hh => mc_f_LP_nodesAsRead lq  M rq Mq  hh) (Nat.le_of_ble_eq_true rfl) dX6_count_58 (fun r2 M2 => ?_)
      exact V_iret C0 dX6_count_61
    refine V_ts C0 3 62 dX6_count_1 (by decide) (by decide) rfl (by decide) (fun _ => ?_) (fun hs3 => ?_)
    · refine V_aload_n C0 0 rfl 0 rfl dX6_count_62 ?_
      refine g6_19 C0 dX6_count_63 ?_
      refine g6_116 C0 s24 dX6_count_66 ?_
      exact V_iret C0 dX6_count_69
    refine V_ts C0 4 70 dX6_count_1 (by decide) (by decide) rfl (by decide) (fun _ => ?_) (fun hs4 => ?_)
    · refine V_aload_n C0 0 rfl 0 rfl dX6_count_70 ?_
      refine k6_132 C0 (by decide) (fun lq rq Mq hh => mc_f_LP_greatestNeed lq  M rq Mq  hh) (Nat.le_of_ble_eq_true rfl) dX6_count_71 (fun r3 M3 => ?_)
      exact V_iret C0 dX6_count_74
    refine V_ts C0 5 75 dX6_count_1 (by decide) (by decide) rfl (by decide) (fun _ => ?_) (fun hs5 => ?_)
    · refine V_aload_n C0 0 rfl 0 rfl dX6_count_75 ?_
      refine g6_119 C0 dX6_count_76 ?_
      exact V_iret C0 dX6_count_79
    refine V_ts C0 6 80 dX6_count_1 (by decide) (by decide) rfl (by decide) (fun _ => ?_) (fun hs6 => ?_)
    · refine V_aload_n C0 0 rfl 0 rfl dX6_count_80 ?_
      refine g6_12 C0 dX6_count_81 ?_
      refine g6_55 C0 dX6_count_84 ?_
      exact V_iret C0 dX6_count_87
    refine V_tsO C0 88 dX6_count_1 (by have hz0 := lv_neT hs0 (a := 0) rfl; have hz1 := lv_neT hs1 (a := 1) rfl; have hz2 := lv_neT hs2 (a := 2) rfl; have hz3 := lv_neT hs3 (a := 3) rfl; have hz4 := lv_neT hs4 (a := 4) rfl; have hz5 := lv_neT hs5 (a := 5) rfl; have hz6 := lv_neT hs6 (a := 6) rfl; omega) (by decide) ?_
    refine V_ldc C0 wk6_50 dX6_count_88 ?_
    exact V_iret C0 dX6_count_90)
set_option maxRecDepth 100000 in
set_option maxHeartbeats 4000000 in
theorem f_LP_dropOldestState_b9_ok {X : XT} {G : GT} (C0 : Cx X G cX6_dropOldestState 3 RX6 none) : ∀ (n : Nat) (a1 : Nat) (x2 : Int32) (M : Mem), (sh a1).1 = 4 → V X G 0 vU 3 9 [(0, .ref (G.2 + 0)), (1, .ref (G.2 + a1)), (2, .int x2)] [] M (f_LP_dropOldestState_b9 n a1 x2 M) := by
  intro n
  induction n with
  | zero =>
    intros
    exact V_none
  | succ n ih =>
    intro a1 x2 M h_a1
    rw [f_LP_dropOldestState_b9]
    refine V_iload_n C0 2 rfl 2 rfl dX6_dropOldestState_9 ?_
    refine V_aload_n C0 0 rfl 0 rfl dX6_dropOldestState_10 ?_
    refine g6_23 C0 dX6_dropOldestState_11 ?_
    refine V_alenH C0 5 s45 m45 dX6_dropOldestState_14 ?_
    refine V_icmpge C0 38 dX6_dropOldestState_15 (by decide) (fun _ => ?_) (fun _ => ?_)
    · refine V_aload_n C0 0 rfl 0 rfl dX6_dropOldestState_38 ?_
      refine g6_23 C0 dX6_dropOldestState_39 ?_
      refine V_aload_n C0 0 rfl 0 rfl dX6_dropOldestState_42 ?_
      refine g6_23 C0 dX6_dropOldestState_43 ?_
      refine V_alenH C0 5 s45 m45 dX6_dropOldestState_46 ?_
      refine V_iconst C0 dX6_dropOldestState_47 ic_1 ?_
      refine V_isub C0 dX6_dropOldestState_48 ?_
      refine V_aload_n C0 1 rfl 1 rfl dX6_dropOldestState_49 ?_
      refine V_aastH C0 h_a1 dX6_dropOldestState_50 (fun M1 => ?_)
      refine V_aload_n C0 0 rfl 0 rfl dX6_dropOldestState_51 ?_
      refine V_aload_n C0 0 rfl 0 rfl dX6_dropOldestState_52 ?_
      refine g6_23 C0 dX6_dropOldestState_53 ?_
      refine V_alenH C0 5 s45 m45 dX6_dropOldestState_56 ?_
      refine V_iconst C0 dX6_dropOldestState_57 ic_1 ?_
      refine V_isub C0 dX6_dropOldestState_58 ?_
      refine p6_119 C0 dX6_dropOldestState_59 (fun M2 => ?_)
      exact V_vret C0 dX6_dropOldestState_62
    · refine V_aload_n C0 0 rfl 0 rfl dX6_dropOldestState_18 ?_
      refine g6_23 C0 dX6_dropOldestState_19 ?_
      refine V_iload_n C0 2 rfl 2 rfl dX6_dropOldestState_22 ?_
      refine V_iconst C0 dX6_dropOldestState_23 ic_1 ?_
      refine V_isub C0 dX6_dropOldestState_24 ?_
      refine V_aload_n C0 0 rfl 0 rfl dX6_dropOldestState_25 ?_
      refine g6_23 C0 dX6_dropOldestState_26 ?_
      refine V_iload_n C0 2 rfl 2 rfl dX6_dropOldestState_29 ?_
      refine V_aaldH C0 dX6_dropOldestState_30 (fun q3 => ?_)
      refine V_aastH C0 q3 dX6_dropOldestState_31 (fun M4 => ?_)
      refine V_iincB C0 2 2 (fun y5 => [(2, .int y5), (0, .ref (G.2 + 0)), (1, .ref (G.2 + a1))]) rfl ic_1 (by decide) (fun _ => rfl) dX6_dropOldestState_32 (fun y5 => ?_)
      refine V_goto C0 9 dX6_dropOldestState_35 (by decide) ?_
      exact V_sub [1, 2, 0] rfl (ih a1 y5 M4 h_a1)
set_option maxRecDepth 100000 in
set_option maxHeartbeats 4000000 in
theorem mc_f_LP_dropOldestState {G : GT} (l : Launch) (M : Mem) (r : Unit) (M1 : Mem) (ho : f_LP_dropOldestState  M = some (r, M1)) : MC l G yX6_dropOldestState cX6_dropOldestState 3 none 0 [.ref (G.2 + 0)] M (vU r) M1 :=
  MC.ofV (own := RX6) (lv := [(0, .ref (G.2 + 0))]) (by decide +kernel) rfl rfl (Nat.le_of_ble_eq_true rfl) ho (fun X hX C0 => by
    unfold f_LP_dropOldestState
    refine V_aload_n C0 0 rfl 0 rfl dX6_dropOldestState_0 ?_
    refine g6_23 C0 dX6_dropOldestState_1 ?_
    refine V_iconst C0 dX6_dropOldestState_4 ic_0 ?_
    refine V_aaldH C0 dX6_dropOldestState_5 (fun q1 => ?_)
    refine V_bn q1 (fun b2 h_b2 => ?_)
    refine V_astore_n C0 1 [(1, .ref (G.2 + b2)), (0, .ref (G.2 + 0))] rfl (by decide) rfl dX6_dropOldestState_6 ?_
    refine V_iconst C0 dX6_dropOldestState_7 ic_1 ?_
    refine V_istore_n C0 2 [(2, .int 1), (1, .ref (G.2 + b2)), (0, .ref (G.2 + 0))] rfl (by decide) rfl dX6_dropOldestState_8 ?_
    exact V_sub [2, 1, 0] rfl (f_LP_dropOldestState_b9_ok C0 FU b2 1 M h_b2))
set_option maxRecDepth 100000 in
set_option maxHeartbeats 4000000 in
theorem mc_f_LP_isFormula {G : GT} (l : Launch) (x1 : Int32) (M : Mem) (r : Int32) (M1 : Mem) (ho : f_LP_isFormula x1 M = some (r, M1)) : MC l G yX6_isFormula cX6_isFormula 2 (some .boolean) 0 [.ref (G.2 + 0), .int x1] M (vI r) M1 :=
  MC.ofV (own := RX6) (lv := [(0, .ref (G.2 + 0)), (1, .int x1)]) (by decide +kernel) rfl rfl (Nat.le_of_ble_eq_true rfl) ho (fun X hX C0 => by
    unfold f_LP_isFormula
    refine V_iload_n C0 1 rfl 1 rfl dX6_isFormula_0 ?_
    refine V_iflt C0 25 dX6_isFormula_1 (by decide) (fun _ => ?_) (fun _ => ?_)
    · refine V_iconst C0 dX6_isFormula_25 ic_0 ?_
      exact V_zret C0 dX6_isFormula_26
    · refine V_iload_n C0 1 rfl 1 rfl dX6_isFormula_4 ?_
      refine V_aload_n C0 0 rfl 0 rfl dX6_isFormula_5 ?_
      refine g6_19 C0 dX6_isFormula_6 ?_
      refine g6_80 C0 s24 dX6_isFormula_9 ?_
      refine V_icmpge C0 25 dX6_isFormula_12 (by decide) (fun _ => ?_) (fun _ => ?_)
      · refine V_iconst C0 dX6_isFormula_25 ic_0 ?_
        exact V_zret C0 dX6_isFormula_26
      · refine V_iload_n C0 1 rfl 1 rfl dX6_isFormula_15 ?_
        refine V_bipush C0 dX6_isFormula_16 bp_6 ?_
        refine V_icmpge C0 25 dX6_isFormula_18 (by decide) (fun _ => ?_) (fun _ => ?_)
        · refine V_iconst C0 dX6_isFormula_25 ic_0 ?_
          exact V_zret C0 dX6_isFormula_26
        · refine V_iconst C0 dX6_isFormula_21 ic_1 ?_
          refine V_goto C0 26 dX6_isFormula_22 (by decide) ?_
          exact V_zret C0 dX6_isFormula_26)
