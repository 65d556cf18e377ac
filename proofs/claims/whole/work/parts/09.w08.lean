set_option maxRecDepth 100000 in
set_option maxHeartbeats 4000000 in
theorem mc_f_LP_refusalToTry {G : GT} (l : Launch) (x1 : Int32) (M : Mem) (r : Int32) (M1 : Mem) (ho : f_LP_refusalToTry x1 M = some (r, M1)) : MC l G yX6_refusalToTry cX6_refusalToTry 2 (some .int) 3 [.ref (G.2 + 0), .int x1] M (vI r) M1 :=
  MC.ofV (own := RX6) (lv := [(0, .ref (G.2 + 0)), (1, .int x1)]) (by decide +kernel) rfl rfl (Nat.le_of_ble_eq_true rfl) ho (fun X hX C0 => by
    unfold f_LP_refusalToTry
    refine V_aload_n C0 0 rfl 0 rfl dX6_refusalToTry_0 ?_
    refine V_iload_n C0 1 rfl 1 rfl dX6_refusalToTry_1 ?_
    refine k6_83 C0 (by decide) (fun lq rq Mq hh => mc_f_LP_isFormula lq x1 M rq Mq  hh) (Nat.le_of_ble_eq_true rfl) dX6_refusalToTry_2 (fun r1 M1 => ?_)
    refine V_ifne C0 11 dX6_refusalToTry_5 (by decide) (fun _ => ?_) (fun _ => ?_)
    · refine V_aload_n C0 0 rfl 0 rfl dX6_refusalToTry_11 ?_
      refine g6_29 C0 dX6_refusalToTry_12 ?_
      refine V_iload_n C0 1 rfl 1 rfl dX6_refusalToTry_15 ?_
      refine V_aaldE C0 dX6_refusalToTry_16 (fun q2 => ?_)
      refine k6_207 C0 q2 (by decide) (fun lq rq Mq hh => mc_f_Expanded_pairs lq (160 + 8 * ix x1) M1 rq Mq q2 hh) (Nat.le_of_ble_eq_true rfl) dX6_refusalToTry_17 (fun r3 M3 => ?_)
      refine V_bipush C0 dX6_refusalToTry_20 bp_10 ?_
      refine V_icmple C0 30 dX6_refusalToTry_22 (by decide) (fun _ => ?_) (fun _ => ?_)
      · refine V_iconst C0 dX6_refusalToTry_30 ic_0 ?_
        exact V_iret C0 dX6_refusalToTry_31
      · refine V_ldc C0 wk6_161 dX6_refusalToTry_25 ?_
        refine V_goto C0 31 dX6_refusalToTry_27 (by decide) ?_
        exact V_iret C0 dX6_refusalToTry_31
    · refine V_ldc C0 wk6_50 dX6_refusalToTry_8 ?_
      exact V_iret C0 dX6_refusalToTry_10)
set_option maxRecDepth 100000 in
set_option maxHeartbeats 4000000 in
theorem mc_f_LP_proved {G : GT} (l : Launch) (x1 : Int32) (M : Mem) (r : Int32) (M1 : Mem) (ho : f_LP_proved x1 M = some (r, M1)) : MC l G yX6_proved cX6_proved 3 (some .int) 5 [.ref (G.2 + 0), .int x1] M (vI r) M1 :=
  MC.ofV (own := RX6) (lv := [(0, .ref (G.2 + 0)), (1, .int x1)]) (by decide +kernel) rfl rfl (Nat.le_of_ble_eq_true rfl) ho (fun X hX C0 => by
    unfold f_LP_proved
    refine V_aload_n C0 0 rfl 0 rfl dX6_proved_0 ?_
    refine V_iload_n C0 1 rfl 1 rfl dX6_proved_1 ?_
    refine k6_196 C0 (by decide) (fun lq rq Mq hh => mc_f_LP_refusalToTry lq x1 M rq Mq  hh) (Nat.le_of_ble_eq_true rfl) dX6_proved_2 (fun r1 M1 => ?_)
    refine V_istore_n C0 2 [(2, .int r1), (0, .ref (G.2 + 0)), (1, .int x1)] rfl (by decide) rfl dX6_proved_5 ?_
    refine V_iload_n C0 2 rfl 0 rfl dX6_proved_6 ?_
    refine V_ifeq C0 12 dX6_proved_7 (by decide) (fun _ => ?_) (fun _ => ?_)
    · refine V_aload_n C0 0 rfl 1 rfl dX6_proved_12 ?_
      refine g6_43 C0 dX6_proved_13 ?_
      refine V_aload_n C0 0 rfl 1 rfl dX6_proved_16 ?_
      refine g6_29 C0 dX6_proved_17 ?_
      refine V_iload_n C0 1 rfl 2 rfl dX6_proved_20 ?_
      refine V_aaldE C0 dX6_proved_21 (fun q2 => ?_)
      refine k6_199 C0 (by decide) (fun lq rq Mq hh => mc_f_Trial_tryOrders lq (160 + 8 * ix x1) M1 rq Mq q2 hh) (Nat.le_of_ble_eq_true rfl) dX6_proved_22 (fun _ M3 => ?_)
      refine V_aload_n C0 0 rfl 1 rfl dX6_proved_25 ?_
      refine g6_43 C0 dX6_proved_26 ?_
      refine g6_203 C0 dX6_proved_29 ?_
      exact V_iret C0 dX6_proved_32
    · refine V_iload_n C0 2 rfl 0 rfl dX6_proved_10 ?_
      exact V_iret C0 dX6_proved_11)
set_option maxRecDepth 100000 in
set_option maxHeartbeats 4000000 in
theorem f_LP_recordState_b16_ok {X : XT} {G : GT} (C0 : Cx X G cX6_recordState 1 RX6 none) (M : Mem) : V X G 6 vU 1 16 [(0, .ref (G.2 + 0))] [] M (f_LP_recordState_b16  M) := by
  unfold f_LP_recordState_b16
  refine V_aload_n C0 0 rfl 0 rfl dX6_recordState_16 ?_
  refine g6_119 C0 dX6_recordState_17 ?_
  refine V_iflt C0 61 dX6_recordState_20 (by decide) (fun _ => ?_) (fun _ => ?_)
  · exact V_vret C0 dX6_recordState_61
  · refine V_aload_n C0 0 rfl 0 rfl dX6_recordState_23 ?_
    refine g6_119 C0 dX6_recordState_24 ?_
    refine V_aload_n C0 0 rfl 0 rfl dX6_recordState_27 ?_
    refine g6_23 C0 dX6_recordState_28 ?_
    refine V_alenH C0 5 s45 m45 dX6_recordState_31 ?_
    refine V_icmpge C0 61 dX6_recordState_32 (by decide) (fun _ => ?_) (fun _ => ?_)
    · exact V_vret C0 dX6_recordState_61
    · refine V_aload_n C0 0 rfl 0 rfl dX6_recordState_35 ?_
      refine g6_23 C0 dX6_recordState_36 ?_
      refine V_aload_n C0 0 rfl 0 rfl dX6_recordState_39 ?_
      refine g6_119 C0 dX6_recordState_40 ?_
      refine V_aaldH C0 dX6_recordState_43 (fun q1 => ?_)
      refine V_aload_n C0 0 rfl 0 rfl dX6_recordState_44 ?_
      refine g6_19 C0 dX6_recordState_45 ?_
      refine k6_122 C0 q1 (by decide) (fun lq rq Mq hh => mc_f_Sheet_copyState lq (M.2 (ix (M.1 0 3))) 24 M rq Mq q1 s24 hh) (Nat.le_of_ble_eq_true rfl) dX6_recordState_48 (fun _ M2 => ?_)
      refine V_aload_n C0 0 rfl 0 rfl dX6_recordState_51 ?_
      refine V_dup C0 rfl dX6_recordState_52 ?_
      refine g6_119 C0 dX6_recordState_53 ?_
      refine V_iconst C0 dX6_recordState_56 ic_1 ?_
      refine V_iadd C0 dX6_recordState_57 ?_
      refine p6_119 C0 dX6_recordState_58 (fun M3 => ?_)
      exact V_vret C0 dX6_recordState_61
set_option maxRecDepth 100000 in
set_option maxHeartbeats 4000000 in
theorem mc_f_LP_recordState {G : GT} (l : Launch) (M : Mem) (r : Unit) (M1 : Mem) (ho : f_LP_recordState  M = some (r, M1)) : MC l G yX6_recordState cX6_recordState 1 none 6 [.ref (G.2 + 0)] M (vU r) M1 :=
  MC.ofV (own := RX6) (lv := [(0, .ref (G.2 + 0))]) (by decide +kernel) rfl rfl (Nat.le_of_ble_eq_true rfl) ho (fun X hX C0 => by
    unfold f_LP_recordState
    refine V_aload_n C0 0 rfl 0 rfl dX6_recordState_0 ?_
    refine g6_119 C0 dX6_recordState_1 ?_
    refine V_aload_n C0 0 rfl 0 rfl dX6_recordState_4 ?_
    refine g6_23 C0 dX6_recordState_5 ?_
    refine V_alenH C0 5 s45 m45 dX6_recordState_8 ?_
    refine V_icmplt C0 16 dX6_recordState_9 (by decide) (fun _ => ?_) (fun _ => ?_)
    · exact V_sub [0] rfl (f_LP_recordState_b16_ok C0 M)
    · refine V_aload_n C0 0 rfl 0 rfl dX6_recordState_12 ?_
      refine k6_210 C0 (by decide) (fun lq rq Mq hh => mc_f_LP_dropOldestState lq  M rq Mq  hh) (Nat.le_of_ble_eq_true rfl) dX6_recordState_13 (fun _ M1 => ?_)
      exact V_sub [0] rfl (f_LP_recordState_b16_ok C0 M1))
set_option maxRecDepth 100000 in
set_option maxHeartbeats 4000000 in
theorem f_LP_workAnew_b37_ok {X : XT} {G : GT} (C0 : Cx X G cX6_workAnew 3 RX6 none) (k2 : Int32 → Mem → Option (Unit × Mem)) (hk2 : ∀ (x1 : Int32) (M : Mem), V X G 4 vU 3 2 [(0, .ref (G.2 + 0)), (1, .int x1)] [] M (k2 x1 M)) (x1 : Int32) (t0 : Int32) (M : Mem) : V X G 4 vU 3 37 [(0, .ref (G.2 + 0)), (1, .int x1)] [.int t0] M (f_LP_workAnew_b37 k2 x1 t0 M) := by
  unfold f_LP_workAnew_b37
  refine V_istore_n C0 2 [(2, .int t0), (0, .ref (G.2 + 0)), (1, .int x1)] rfl (by decide) rfl dX6_workAnew_37 ?_
  refine V_aload_n C0 0 rfl 1 rfl dX6_workAnew_38 ?_
  refine g6_29 C0 dX6_workAnew_39 ?_
  refine V_iload_n C0 1 rfl 2 rfl dX6_workAnew_42 ?_
  refine V_aaldE C0 dX6_workAnew_43 (fun q1 => ?_)
  refine V_aload_n C0 0 rfl 1 rfl dX6_workAnew_44 ?_
  refine g6_19 C0 dX6_workAnew_45 ?_
  refine g6_86 C0 s24 dX6_workAnew_48 ?_
  refine V_iload_n C0 1 rfl 2 rfl dX6_workAnew_51 ?_
  refine V_aaldF C0 27 s25 rfl dX6_workAnew_52 (fun q2 => ?_)
  refine V_iload_n C0 2 rfl 0 rfl dX6_workAnew_53 ?_
  refine V_aload_n C0 0 rfl 1 rfl dX6_workAnew_54 ?_
  refine g6_29 C0 dX6_workAnew_55 ?_
  refine k6_213 C0 q1 (by decide) (fun lq rq Mq hh => mc_f_Expanded_make lq (160 + 8 * ix x1) (27 + 3 * ix x1) t0 M rq Mq q1 q2 hh) (Nat.le_of_ble_eq_true rfl) dX6_workAnew_58 (fun _ M3 => ?_)
  refine V_aload_n C0 0 rfl 1 rfl dX6_workAnew_61 ?_
  refine g6_29 C0 dX6_workAnew_62 ?_
  refine V_iload_n C0 1 rfl 2 rfl dX6_workAnew_65 ?_
  refine V_aaldE C0 dX6_workAnew_66 (fun q4 => ?_)
  refine V_aload_n C0 0 rfl 1 rfl dX6_workAnew_67 ?_
  refine g6_19 C0 dX6_workAnew_68 ?_
  refine g6_109 C0 s24 dX6_workAnew_71 ?_
  refine V_aload_n C0 0 rfl 1 rfl dX6_workAnew_74 ?_
  refine g6_29 C0 dX6_workAnew_75 ?_
  refine k6_216 C0 q4 (by decide) (fun lq rq Mq hh => mc_f_Expanded_measure lq (160 + 8 * ix x1) 26 M3 rq Mq q4 s26 hh) (Nat.le_of_ble_eq_true rfl) dX6_workAnew_78 (fun _ M5 => ?_)
  refine V_iincB C0 1 2 (fun y6 => [(1, .int y6), (2, .int t0), (0, .ref (G.2 + 0))]) rfl ic_1 (by decide) (fun _ => rfl) dX6_workAnew_81 (fun y6 => ?_)
  refine V_goto C0 2 dX6_workAnew_84 (by decide) ?_
  exact V_sub [2, 0] rfl (hk2 y6 M5)
set_option maxRecDepth 100000 in
set_option maxHeartbeats 4000000 in
theorem f_LP_workAnew_b2_ok {X : XT} {G : GT} (C0 : Cx X G cX6_workAnew 3 RX6 none) : ∀ (n : Nat) (x1 : Int32) (M : Mem), V X G 4 vU 3 2 [(0, .ref (G.2 + 0)), (1, .int x1)] [] M (f_LP_workAnew_b2 n x1 M) := by
  intro n
  induction n with
  | zero =>
    intros
    exact V_none
  | succ n ih =>
    intro x1 M
    rw [f_LP_workAnew_b2]
    refine V_iload_n C0 1 rfl 1 rfl dX6_workAnew_2 ?_
    refine V_aload_n C0 0 rfl 0 rfl dX6_workAnew_3 ?_
    refine g6_19 C0 dX6_workAnew_4 ?_
    refine g6_80 C0 s24 dX6_workAnew_7 ?_
    refine V_icmpge C0 87 dX6_workAnew_10 (by decide) (fun _ => ?_) (fun _ => ?_)
    · exact V_vret C0 dX6_workAnew_87
    · refine V_iload_n C0 1 rfl 1 rfl dX6_workAnew_13 ?_
      refine V_bipush C0 dX6_workAnew_14 bp_6 ?_
      refine V_icmpge C0 87 dX6_workAnew_16 (by decide) (fun _ => ?_) (fun _ => ?_)
      · exact V_vret C0 dX6_workAnew_87
      · refine V_iload_n C0 1 rfl 1 rfl dX6_workAnew_19 ?_
        refine V_aload_n C0 0 rfl 0 rfl dX6_workAnew_20 ?_
        refine g6_19 C0 dX6_workAnew_21 ?_
        refine g6_80 C0 s24 dX6_workAnew_24 ?_
        refine V_iconst C0 dX6_workAnew_27 ic_1 ?_
        refine V_isub C0 dX6_workAnew_28 ?_
        refine V_icmpge C0 36 dX6_workAnew_29 (by decide) (fun _ => ?_) (fun _ => ?_)
        · refine V_iconst C0 dX6_workAnew_36 ic_0 ?_
          exact V_sub [0, 1] rfl (f_LP_workAnew_b37_ok C0 (f_LP_workAnew_b2 n) ih x1 0 M)
        · refine V_iconst C0 dX6_workAnew_32 ic_1 ?_
          refine V_goto C0 37 dX6_workAnew_33 (by decide) ?_
          exact V_sub [0, 1] rfl (f_LP_workAnew_b37_ok C0 (f_LP_workAnew_b2 n) ih x1 1 M)
set_option maxRecDepth 100000 in
set_option maxHeartbeats 4000000 in
theorem mc_f_LP_workAnew {G : GT} (l : Launch) (M : Mem) (r : Unit) (M1 : Mem) (ho : f_LP_workAnew  M = some (r, M1)) : MC l G yX6_workAnew cX6_workAnew 3 none 4 [.ref (G.2 + 0)] M (vU r) M1 :=
  MC.ofV (own := RX6) (lv := [(0, .ref (G.2 + 0))]) (by decide +kernel) rfl rfl (Nat.le_of_ble_eq_true rfl) ho (fun X hX C0 => by
    unfold f_LP_workAnew
    refine V_iconst C0 dX6_workAnew_0 ic_0 ?_
    refine V_istore_n C0 1 [(1, .int 0), (0, .ref (G.2 + 0))] rfl (by decide) rfl dX6_workAnew_1 ?_
    exact V_sub [1, 0] rfl (f_LP_workAnew_b2_ok C0 FU 0 M))
set_option maxRecDepth 100000 in
set_option maxHeartbeats 4000000 in
theorem mc_f_LP_read {G : GT} (l : Launch) (M : Mem) (r : Int32) (M1 : Mem) (ho : f_LP_read  M = some (r, M1)) : MC l G yX6_read cX6_read 1 (some .int) 304 [.ref (G.2 + 0)] M (vI r) M1 :=
  MC.ofV (own := RX6) (lv := [(0, .ref (G.2 + 0))]) (by decide +kernel) rfl rfl (Nat.le_of_ble_eq_true rfl) ho (fun X hX C0 => by
    unfold f_LP_read
    refine V_aload_n C0 0 rfl 0 rfl dX6_read_0 ?_
    refine g6_12 C0 dX6_read_1 ?_
    refine k6_60 C0 (by decide) (fun lq rq Mq hh => mc_f_Reader_readSheet lq  M rq Mq  hh) (Nat.le_of_ble_eq_true rfl) dX6_read_4 (fun r1 M1 => ?_)
    refine V_ifne C0 22 dX6_read_7 (by decide) (fun _ => ?_) (fun _ => ?_)
    · refine V_aload_n C0 0 rfl 0 rfl dX6_read_22 ?_
      refine k6_67 C0 (by decide) (fun lq rq Mq hh => mc_f_LP_recordState lq  M1 rq Mq  hh) (Nat.le_of_ble_eq_true rfl) dX6_read_23 (fun _ M2 => ?_)
      refine V_aload_n C0 0 rfl 0 rfl dX6_read_26 ?_
      refine g6_19 C0 dX6_read_27 ?_
      refine V_aload_n C0 0 rfl 0 rfl dX6_read_30 ?_
      refine g6_12 C0 dX6_read_31 ?_
      refine g6_70 C0 dX6_read_34 ?_
      refine k6_73 C0 s24 (by decide) (fun lq rq Mq hh => mc_f_Sheet_copyFormulas lq 24 3 M2 rq Mq s24 s3 hh) (Nat.le_of_ble_eq_true rfl) dX6_read_37 (fun _ M3 => ?_)
      refine V_aload_n C0 0 rfl 0 rfl dX6_read_40 ?_
      refine k6_77 C0 (by decide) (fun lq rq Mq hh => mc_f_LP_workAnew lq  M3 rq Mq  hh) (Nat.le_of_ble_eq_true rfl) dX6_read_41 (fun _ M4 => ?_)
      refine V_aload_n C0 0 rfl 0 rfl dX6_read_44 ?_
      refine g6_19 C0 dX6_read_45 ?_
      refine g6_80 C0 s24 dX6_read_48 ?_
      exact V_iret C0 dX6_read_51
    · refine V_sipush C0 dX6_read_10 sp_m1000 ?_
      refine V_aload_n C0 0 rfl 0 rfl dX6_read_13 ?_
      refine g6_12 C0 dX6_read_14 ?_
      refine g6_64 C0 dX6_read_17 ?_
      refine V_isub C0 dX6_read_20 ?_
      exact V_iret C0 dX6_read_21)
set_option maxRecDepth 100000 in
set_option maxHeartbeats 4000000 in
theorem mc_f_LP_setCell {G : GT} (l : Launch) (x1 : Int32) (x2 : Int32) (M : Mem) (r : Int32) (M1 : Mem) (ho : f_LP_setCell x1 x2 M = some (r, M1)) : MC l G yX6_setCell cX6_setCell 4 (some .int) 7 [.ref (G.2 + 0), .int x1, .int x2] M (vI r) M1 :=
  MC.ofV (own := RX6) (lv := [(0, .ref (G.2 + 0)), (1, .int x1), (2, .int x2)]) (by decide +kernel) rfl rfl (Nat.le_of_ble_eq_true rfl) ho (fun X hX C0 => by
    unfold f_LP_setCell
    refine V_iload_n C0 1 rfl 1 rfl dX6_setCell_0 ?_
    refine k6_106 C0 (by decide) (fun lq rq Mq hh => mc_f_LP_isCell lq x1 M rq Mq  hh) (Nat.le_of_ble_eq_true rfl) dX6_setCell_1 (fun r1 M1 => ?_)
    refine V_ifeq C0 21 dX6_setCell_4 (by decide) (fun _ => ?_) (fun _ => ?_)
    · refine V_ldc C0 wk6_50 dX6_setCell_21 ?_
      exact V_iret C0 dX6_setCell_23
    · refine V_iload_n C0 2 rfl 2 rfl dX6_setCell_7 ?_
      refine V_sipush C0 dX6_setCell_8 sp_m999 ?_
      refine V_icmplt C0 21 dX6_setCell_11 (by decide) (fun _ => ?_) (fun _ => ?_)
      · refine V_ldc C0 wk6_50 dX6_setCell_21 ?_
        exact V_iret C0 dX6_setCell_23
      · refine V_iload_n C0 2 rfl 2 rfl dX6_setCell_14 ?_
        refine V_sipush C0 dX6_setCell_15 sp_999 ?_
        refine V_icmple C0 24 dX6_setCell_18 (by decide) (fun _ => ?_) (fun _ => ?_)
        · refine V_aload_n C0 0 rfl 0 rfl dX6_setCell_24 ?_
          refine k6_67 C0 (by decide) (fun lq rq Mq hh => mc_f_LP_recordState lq  M1 rq Mq  hh) (Nat.le_of_ble_eq_true rfl) dX6_setCell_25 (fun _ M2 => ?_)
          refine V_aload_n C0 0 rfl 0 rfl dX6_setCell_28 ?_
          refine g6_19 C0 dX6_setCell_29 ?_
          refine g6_109 C0 s24 dX6_setCell_32 ?_
          refine V_iload_n C0 1 rfl 1 rfl dX6_setCell_35 ?_
          refine V_iald C0 8 s26 n26 dX6_setCell_36 ?_
          refine V_bi (fun y3 => ?_)
          refine V_istore_n C0 3 [(3, .int y3), (0, .ref (G.2 + 0)), (1, .int x1), (2, .int x2)] rfl (by decide) rfl dX6_setCell_37 ?_
          refine V_aload_n C0 0 rfl 1 rfl dX6_setCell_38 ?_
          refine g6_19 C0 dX6_setCell_39 ?_
          refine g6_109 C0 s24 dX6_setCell_42 ?_
          refine V_iload_n C0 1 rfl 2 rfl dX6_setCell_45 ?_
          refine V_iload_n C0 2 rfl 3 rfl dX6_setCell_46 ?_
          refine V_iast C0 8 s26 n26 dX6_setCell_47 (fun M4 => ?_)
          refine V_aload_n C0 0 rfl 1 rfl dX6_setCell_48 ?_
          refine k6_77 C0 (by decide) (fun lq rq Mq hh => mc_f_LP_workAnew lq  M4 rq Mq  hh) (Nat.le_of_ble_eq_true rfl) dX6_setCell_49 (fun _ M5 => ?_)
          refine V_iload_n C0 3 rfl 0 rfl dX6_setCell_52 ?_
          exact V_iret C0 dX6_setCell_53
        · refine V_ldc C0 wk6_50 dX6_setCell_21 ?_
          exact V_iret C0 dX6_setCell_23)
set_option maxRecDepth 100000 in
set_option maxHeartbeats 4000000 in
theorem mc_f_LP_setPlaces {G : GT} (l : Launch) (x1 : Int32) (M : Mem) (r : Int32) (M1 : Mem) (ho : f_LP_setPlaces x1 M = some (r, M1)) : MC l G yX6_setPlaces cX6_setPlaces 3 (some .int) 7 [.ref (G.2 + 0), .int x1] M (vI r) M1 :=
  MC.ofV (own := RX6) (lv := [(0, .ref (G.2 + 0)), (1, .int x1)]) (by decide +kernel) rfl rfl (Nat.le_of_ble_eq_true rfl) ho (fun X hX C0 => by
    unfold f_LP_setPlaces
    refine V_iload_n C0 1 rfl 1 rfl dX6_setPlaces_0 ?_
    refine k6_113 C0 (by decide) (fun lq rq Mq hh => mc_f_LP_arePlaces lq x1 M rq Mq  hh) (Nat.le_of_ble_eq_true rfl) dX6_setPlaces_1 (fun r1 M1 => ?_)
    refine V_ifne C0 10 dX6_setPlaces_4 (by decide) (fun _ => ?_) (fun _ => ?_)
    · refine V_aload_n C0 0 rfl 0 rfl dX6_setPlaces_10 ?_
      refine k6_67 C0 (by decide) (fun lq rq Mq hh => mc_f_LP_recordState lq  M1 rq Mq  hh) (Nat.le_of_ble_eq_true rfl) dX6_setPlaces_11 (fun _ M2 => ?_)
      refine V_aload_n C0 0 rfl 0 rfl dX6_setPlaces_14 ?_
      refine g6_19 C0 dX6_setPlaces_15 ?_
      refine g6_116 C0 s24 dX6_setPlaces_18 ?_
      refine V_bi (fun y3 => ?_)
      refine V_istore_n C0 2 [(2, .int y3), (0, .ref (G.2 + 0)), (1, .int x1)] rfl (by decide) rfl dX6_setPlaces_21 ?_
      refine V_aload_n C0 0 rfl 1 rfl dX6_setPlaces_22 ?_
      refine g6_19 C0 dX6_setPlaces_23 ?_
      refine V_iload_n C0 1 rfl 2 rfl dX6_setPlaces_26 ?_
      refine p6_116 C0 s24 dX6_setPlaces_27 (fun M4 => ?_)
      refine V_iload_n C0 2 rfl 0 rfl dX6_setPlaces_30 ?_
      exact V_iret C0 dX6_setPlaces_31
    · refine V_ldc C0 wk6_50 dX6_setPlaces_7 ?_
      exact V_iret C0 dX6_setPlaces_9)
set_option maxRecDepth 100000 in
set_option maxHeartbeats 4000000 in
theorem mc_f_LP_step {G : GT} (l : Launch) (x1 : Int32) (x2 : Int32) (M : Mem) (r : Int32) (M1 : Mem) (ho : f_LP_step x1 x2 M = some (r, M1)) : MC l G yX6_step cX6_step 3 (some .int) 304 [.ref (G.2 + 0), .int x1, .int x2] M (vI r) M1 :=
  MC.ofV (own := RX6) (lv := [(0, .ref (G.2 + 0)), (1, .int x1), (2, .int x2)]) (by decide +kernel) rfl rfl (Nat.le_of_ble_eq_true rfl) ho (fun X hX C0 => by
    unfold f_LP_step
    refine V_iload_n C0 1 rfl 1 rfl dX6_step_0 ?_
    refine V_iflt C0 13 dX6_step_1 (by decide) (fun _ => ?_) (fun _ => ?_)
    · refine V_ldc C0 wk6_50 dX6_step_13 ?_
      exact V_iret C0 dX6_step_15
    · refine V_iload_n C0 2 rfl 2 rfl dX6_step_4 ?_
      refine V_iflt C0 13 dX6_step_5 (by decide) (fun _ => ?_) (fun _ => ?_)
      · refine V_ldc C0 wk6_50 dX6_step_13 ?_
        exact V_iret C0 dX6_step_15
      · refine V_iload_n C0 2 rfl 2 rfl dX6_step_8 ?_
        refine V_iconst C0 dX6_step_9 ic_3 ?_
        refine V_icmple C0 16 dX6_step_10 (by decide) (fun _ => ?_) (fun _ => ?_)
        · refine V_aload_n C0 0 rfl 0 rfl dX6_step_16 ?_
          refine g6_36 C0 dX6_step_17 ?_
          refine V_aload_n C0 0 rfl 0 rfl dX6_step_20 ?_
          refine g6_29 C0 dX6_step_21 ?_
          refine V_aload_n C0 0 rfl 0 rfl dX6_step_24 ?_
          refine g6_19 C0 dX6_step_25 ?_
          refine g6_80 C0 s24 dX6_step_28 ?_
          refine V_aload_n C0 0 rfl 0 rfl dX6_step_31 ?_
          refine g6_19 C0 dX6_step_32 ?_
          refine g6_116 C0 s24 dX6_step_35 ?_
          refine k6_168 C0 (by decide) (fun lq rq Mq hh => mc_f_Plan_make lq (M.1 24 1) (M.1 24 3) M rq Mq  hh) (Nat.le_of_ble_eq_true rfl) dX6_step_38 (fun _ M1 => ?_)
          refine V_aload_n C0 0 rfl 0 rfl dX6_step_41 ?_
          refine g6_36 C0 dX6_step_42 ?_
          refine V_iload_n C0 1 rfl 1 rfl dX6_step_45 ?_
          refine k6_185 C0 (by decide) (fun lq rq Mq hh => mc_f_Plan_has lq x1 M1 rq Mq  hh) (Nat.le_of_ble_eq_true rfl) dX6_step_46 (fun r2 M2 => ?_)
          refine V_ifne C0 55 dX6_step_49 (by decide) (fun _ => ?_) (fun _ => ?_)
          · refine V_iload_n C0 2 rfl 2 rfl dX6_step_55 ?_
            refine V_ts C0 0 84 dX6_step_56 (by decide) (by decide) rfl (by decide) (fun _ => ?_) (fun hs0 => ?_)
            · refine V_aload_n C0 0 rfl 0 rfl dX6_step_84 ?_
              refine g6_36 C0 dX6_step_85 ?_
              refine g6_186 C0 dX6_step_88 ?_
              refine V_iload_n C0 1 rfl 1 rfl dX6_step_91 ?_
              refine V_iald C0 726 s48 n48 dX6_step_92 ?_
              exact V_iret C0 dX6_step_93
            refine V_ts C0 1 94 dX6_step_56 (by decide) (by decide) rfl (by decide) (fun _ => ?_) (fun hs1 => ?_)
            · refine V_aload_n C0 0 rfl 0 rfl dX6_step_94 ?_
              refine g6_36 C0 dX6_step_95 ?_
              refine g6_189 C0 dX6_step_98 ?_
              refine V_iload_n C0 1 rfl 1 rfl dX6_step_101 ?_
              refine V_iald C0 726 s49 n49 dX6_step_102 ?_
              exact V_iret C0 dX6_step_103
            refine V_ts C0 2 104 dX6_step_56 (by decide) (by decide) rfl (by decide) (fun _ => ?_) (fun hs2 => ?_)
            · refine V_aload_n C0 0 rfl 0 rfl dX6_step_104 ?_
              refine g6_36 C0 dX6_step_105 ?_
              refine g6_191 C0 dX6_step_108 ?_
              refine V_iload_n C0 1 rfl 1 rfl dX6_step_111 ?_
              refine V_iald C0 726 s50 n50 dX6_step_112 ?_
              exact V_iret C0 dX6_step_113
            refine V_tsO C0 114 dX6_step_56 (by have hz0 := lv_neT hs0 (a := 0) rfl; have hz1 := lv_neT hs1 (a := 1) rfl; have hz2 := lv_neT hs2 (a := 2) rfl; omega) (by decide) ?_
            refine V_aload_n C0 0 rfl 0 rfl dX6_step_114 ?_
            refine g6_36 C0 dX6_step_115 ?_
            refine g6_193 C0 dX6_step_118 ?_
            refine V_iload_n C0 1 rfl 1 rfl dX6_step_121 ?_
            refine V_iald C0 726 s51 n51 dX6_step_122 ?_
            exact V_iret C0 dX6_step_123
          · refine V_ldc C0 wk6_161 dX6_step_52 ?_
            exact V_iret C0 dX6_step_54
        · refine V_ldc C0 wk6_50 dX6_step_13 ?_
          exact V_iret C0 dX6_step_15)
set_option maxRecDepth 100000 in
set_option maxHeartbeats 4000000 in
theorem f_LP_turn_b55_ok {X : XT} {G : GT} (C0 : Cx X G cX6_turn 4 RX6 (some .int)) (x1 : Int32) (x2 : Int32) (M : Mem) : V X G 7 vI 4 55 [(0, .ref (G.2 + 0)), (1, .int x1), (2, .int x2)] [] M (f_LP_turn_b55 x1 x2 M) := by
  unfold f_LP_turn_b55
  refine V_aload_n C0 0 rfl 0 rfl dX6_turn_55 ?_
  refine k6_67 C0 (by decide) (fun lq rq Mq hh => mc_f_LP_recordState lq  M rq Mq  hh) (Nat.le_of_ble_eq_true rfl) dX6_turn_56 (fun _ M1 => ?_)
  refine V_aload_n C0 0 rfl 0 rfl dX6_turn_59 ?_
  refine g6_19 C0 dX6_turn_60 ?_
  refine g6_86 C0 s24 dX6_turn_63 ?_
  refine V_iload_n C0 1 rfl 1 rfl dX6_turn_66 ?_
  refine V_aaldF C0 27 s25 rfl dX6_turn_67 (fun q2 => ?_)
  refine V_iload_n C0 2 rfl 2 rfl dX6_turn_68 ?_
  refine k6_100 C0 q2 (by decide) (fun lq rq Mq hh => mc_f_Form_exchange lq (27 + 3 * ix x1) x2 M1 rq Mq q2 hh) (Nat.le_of_ble_eq_true rfl) dX6_turn_69 (fun _ M3 => ?_)
  refine V_aload_n C0 0 rfl 0 rfl dX6_turn_72 ?_
  refine k6_77 C0 (by decide) (fun lq rq Mq hh => mc_f_LP_workAnew lq  M3 rq Mq  hh) (Nat.le_of_ble_eq_true rfl) dX6_turn_73 (fun _ M4 => ?_)
  refine V_aload_n C0 0 rfl 0 rfl dX6_turn_76 ?_
  refine g6_29 C0 dX6_turn_77 ?_
  refine V_iload_n C0 1 rfl 1 rfl dX6_turn_80 ?_
  refine V_aaldE C0 dX6_turn_81 (fun q5 => ?_)
  refine V_iconst C0 dX6_turn_82 ic_0 ?_
  refine k6_103 C0 q5 (by decide) (fun lq rq Mq hh => mc_f_Expanded_needOf lq (160 + 8 * ix x1) 0 M4 rq Mq q5 hh) (Nat.le_of_ble_eq_true rfl) dX6_turn_83 (fun r6 M6 => ?_)
  exact V_iret C0 dX6_turn_86
set_option maxRecDepth 100000 in
set_option maxHeartbeats 4000000 in
theorem mc_f_LP_turn {G : GT} (l : Launch) (x1 : Int32) (x2 : Int32) (M : Mem) (r : Int32) (M1 : Mem) (ho : f_LP_turn x1 x2 M = some (r, M1)) : MC l G yX6_turn cX6_turn 4 (some .int) 7 [.ref (G.2 + 0), .int x1, .int x2] M (vI r) M1 :=
  MC.ofV (own := RX6) (lv := [(0, .ref (G.2 + 0)), (1, .int x1), (2, .int x2)]) (by decide +kernel) rfl rfl (Nat.le_of_ble_eq_true rfl) ho (fun X hX C0 => by
    unfold f_LP_turn
    refine V_aload_n C0 0 rfl 0 rfl dX6_turn_0 ?_
    refine V_iload_n C0 1 rfl 1 rfl dX6_turn_1 ?_
    refine k6_83 C0 (by decide) (fun lq rq Mq hh => mc_f_LP_isFormula lq x1 M rq Mq  hh) (Nat.le_of_ble_eq_true rfl) dX6_turn_2 (fun r1 M1 => ?_)
    refine V_ifeq C0 24 dX6_turn_5 (by decide) (fun _ => ?_) (fun _ => ?_)
    · refine V_ldc C0 wk6_50 dX6_turn_24 ?_
      exact V_iret C0 dX6_turn_26
    · refine V_aload_n C0 0 rfl 0 rfl dX6_turn_8 ?_
      refine g6_19 C0 dX6_turn_9 ?_
      refine g6_86 C0 s24 dX6_turn_12 ?_
      refine V_iload_n C0 1 rfl 1 rfl dX6_turn_15 ?_
      refine V_aaldF C0 27 s25 rfl dX6_turn_16 (fun q2 => ?_)
      refine V_iload_n C0 2 rfl 2 rfl dX6_turn_17 ?_
      refine k6_90 C0 q2 (by decide) (fun lq rq Mq hh => mc_f_Form_has lq (27 + 3 * ix x1) x2 M1 rq Mq q2 hh) (Nat.le_of_ble_eq_true rfl) dX6_turn_18 (fun r3 M3 => ?_)
      refine V_ifne C0 27 dX6_turn_21 (by decide) (fun _ => ?_) (fun _ => ?_)
      · refine V_aload_n C0 0 rfl 0 rfl dX6_turn_27 ?_
        refine g6_19 C0 dX6_turn_28 ?_
        refine g6_86 C0 s24 dX6_turn_31 ?_
        refine V_iload_n C0 1 rfl 1 rfl dX6_turn_34 ?_
        refine V_aaldF C0 27 s25 rfl dX6_turn_35 (fun q4 => ?_)
        refine V_iload_n C0 2 rfl 2 rfl dX6_turn_36 ?_
        refine k6_95 C0 q4 (by decide) (fun lq rq Mq hh => mc_f_Form_kindOf lq (27 + 3 * ix x1) x2 M3 rq Mq q4 hh) (Nat.le_of_ble_eq_true rfl) dX6_turn_37 (fun r5 M5 => ?_)
        refine V_istore_n C0 3 [(3, .int r5), (0, .ref (G.2 + 0)), (1, .int x1), (2, .int x2)] rfl (by decide) rfl dX6_turn_40 ?_
        refine V_iload_n C0 3 rfl 0 rfl dX6_turn_41 ?_
        refine V_iconst C0 dX6_turn_42 ic_4 ?_
        refine V_icmpeq C0 55 dX6_turn_43 (by decide) (fun _ => ?_) (fun _ => ?_)
        · exact V_sub [1, 2, 3] rfl (f_LP_turn_b55_ok C0 x1 x2 M5)
        · refine V_iload_n C0 3 rfl 0 rfl dX6_turn_46 ?_
          refine V_bipush C0 dX6_turn_47 bp_6 ?_
          refine V_icmpeq C0 55 dX6_turn_49 (by decide) (fun _ => ?_) (fun _ => ?_)
          · exact V_sub [1, 2, 3] rfl (f_LP_turn_b55_ok C0 x1 x2 M5)
          · refine V_ldc C0 wk6_99 dX6_turn_52 ?_
            exact V_iret C0 dX6_turn_54
      · refine V_ldc C0 wk6_50 dX6_turn_24 ?_
        exact V_iret C0 dX6_turn_26)
set_option maxRecDepth 100000 in
set_option maxHeartbeats 4000000 in
theorem mc_f_LP_undo {G : GT} (l : Launch) (M : Mem) (r : Int32) (M1 : Mem) (ho : f_LP_undo  M = some (r, M1)) : MC l G yX6_undo cX6_undo 1 (some .int) 6 [.ref (G.2 + 0)] M (vI r) M1 :=
  MC.ofV (own := RX6) (lv := [(0, .ref (G.2 + 0))]) (by decide +kernel) rfl rfl (Nat.le_of_ble_eq_true rfl) ho (fun X hX C0 => by
    unfold f_LP_undo
    refine V_aload_n C0 0 rfl 0 rfl dX6_undo_0 ?_
    refine g6_119 C0 dX6_undo_1 ?_
    refine V_iconst C0 dX6_undo_4 ic_1 ?_
    refine V_icmplt C0 20 dX6_undo_5 (by decide) (fun _ => ?_) (fun _ => ?_)
    · refine V_ldc C0 wk6_99 dX6_undo_20 ?_
      exact V_iret C0 dX6_undo_22
    · refine V_aload_n C0 0 rfl 0 rfl dX6_undo_8 ?_
      refine g6_119 C0 dX6_undo_9 ?_
      refine V_aload_n C0 0 rfl 0 rfl dX6_undo_12 ?_
      refine g6_23 C0 dX6_undo_13 ?_
      refine V_alenH C0 5 s45 m45 dX6_undo_16 ?_
      refine V_icmple C0 23 dX6_undo_17 (by decide) (fun _ => ?_) (fun _ => ?_)
      · refine V_aload_n C0 0 rfl 0 rfl dX6_undo_23 ?_
        refine V_dup C0 rfl dX6_undo_24 ?_
        refine g6_119 C0 dX6_undo_25 ?_
        refine V_iconst C0 dX6_undo_28 ic_1 ?_
        refine V_isub C0 dX6_undo_29 ?_
        refine p6_119 C0 dX6_undo_30 (fun M1 => ?_)
        refine V_aload_n C0 0 rfl 0 rfl dX6_undo_33 ?_
        refine g6_19 C0 dX6_undo_34 ?_
        refine V_aload_n C0 0 rfl 0 rfl dX6_undo_37 ?_
        refine g6_23 C0 dX6_undo_38 ?_
        refine V_aload_n C0 0 rfl 0 rfl dX6_undo_41 ?_
        refine g6_119 C0 dX6_undo_42 ?_
        refine V_aaldH C0 dX6_undo_45 (fun q2 => ?_)
        refine k6_122 C0 s24 (by decide) (fun lq rq Mq hh => mc_f_Sheet_copyState lq 24 (M1.2 (ix (M1.1 0 3))) M1 rq Mq s24 q2 hh) (Nat.le_of_ble_eq_true rfl) dX6_undo_46 (fun _ M3 => ?_)
        refine V_aload_n C0 0 rfl 0 rfl dX6_undo_49 ?_
        refine k6_77 C0 (by decide) (fun lq rq Mq hh => mc_f_LP_workAnew lq  M3 rq Mq  hh) (Nat.le_of_ble_eq_true rfl) dX6_undo_50 (fun _ M4 => ?_)
        refine V_aload_n C0 0 rfl 0 rfl dX6_undo_53 ?_
        refine g6_119 C0 dX6_undo_54 ?_
        exact V_iret C0 dX6_undo_57
      · refine V_ldc C0 wk6_99 dX6_undo_20 ?_
        exact V_iret C0 dX6_undo_22)
set_option maxRecDepth 100000 in
set_option maxHeartbeats 4000000 in
theorem mc_f_LP_ways {G : GT} (l : Launch) (x1 : Int32) (M : Mem) (r : Int32) (M1 : Mem) (ho : f_LP_ways x1 M = some (r, M1)) : MC l G yX6_ways cX6_ways 3 (some .int) 5 [.ref (G.2 + 0), .int x1] M (vI r) M1 :=
  MC.ofV (own := RX6) (lv := [(0, .ref (G.2 + 0)), (1, .int x1)]) (by decide +kernel) rfl rfl (Nat.le_of_ble_eq_true rfl) ho (fun X hX C0 => by
    unfold f_LP_ways
    refine V_aload_n C0 0 rfl 0 rfl dX6_ways_0 ?_
    refine V_iload_n C0 1 rfl 1 rfl dX6_ways_1 ?_
    refine k6_196 C0 (by decide) (fun lq rq Mq hh => mc_f_LP_refusalToTry lq x1 M rq Mq  hh) (Nat.le_of_ble_eq_true rfl) dX6_ways_2 (fun r1 M1 => ?_)
    refine V_istore_n C0 2 [(2, .int r1), (0, .ref (G.2 + 0)), (1, .int x1)] rfl (by decide) rfl dX6_ways_5 ?_
    refine V_iload_n C0 2 rfl 0 rfl dX6_ways_6 ?_
    refine V_ifeq C0 12 dX6_ways_7 (by decide) (fun _ => ?_) (fun _ => ?_)
    · refine V_aload_n C0 0 rfl 1 rfl dX6_ways_12 ?_
      refine g6_43 C0 dX6_ways_13 ?_
      refine V_aload_n C0 0 rfl 1 rfl dX6_ways_16 ?_
      refine g6_29 C0 dX6_ways_17 ?_
      refine V_iload_n C0 1 rfl 2 rfl dX6_ways_20 ?_
      refine V_aaldE C0 dX6_ways_21 (fun q2 => ?_)
      refine k6_199 C0 (by decide) (fun lq rq Mq hh => mc_f_Trial_tryOrders lq (160 + 8 * ix x1) M1 rq Mq q2 hh) (Nat.le_of_ble_eq_true rfl) dX6_ways_22 (fun _ M3 => ?_)
      refine V_aload_n C0 0 rfl 1 rfl dX6_ways_25 ?_
      refine g6_43 C0 dX6_ways_26 ?_
      refine g6_204 C0 dX6_ways_29 ?_
      refine V_iconst C0 dX6_ways_32 ic_0 ?_
      refine V_iald C0 60 s53 n53 dX6_ways_33 ?_
      exact V_iret C0 dX6_ways_34
    · refine V_iload_n C0 2 rfl 0 rfl dX6_ways_10 ?_
      exact V_iret C0 dX6_ways_11)
