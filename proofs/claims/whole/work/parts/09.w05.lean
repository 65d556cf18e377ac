set_option maxRecDepth 100000 in
set_option maxHeartbeats 4000000 in
theorem f_Plan_make_b33_ok {X : XT} {G : GT} (C0 : Cx X G cX2_make 5 RX2 none) : ∀ (n : Nat) (x2 : Int32) (x3 : Int32) (x4 : Int32) (M : Mem), V X G 303 vU 5 33 [(0, .ref (G.2 + 47)), (1, .ref (G.2 + 46)), (2, .int x2), (3, .int x3), (4, .int x4)] [] M (f_Plan_make_b33 n x2 x3 x4 M) := by
  intro n
  induction n with
  | zero =>
    intros
    exact V_none
  | succ n ih =>
    intro x2 x3 x4 M
    rw [f_Plan_make_b33]
    refine V_iload C0 4 4 rfl dX2_make_33 ?_
    refine V_iload_n C0 2 rfl 2 rfl dX2_make_35 ?_
    refine V_icmpge C0 93 dX2_make_36 (by decide) (fun _ => ?_) (fun _ => ?_)
    · exact V_vret C0 dX2_make_93
    · refine V_iload C0 4 4 rfl dX2_make_39 ?_
      refine V_aload_n C0 1 rfl 1 rfl dX2_make_41 ?_
      refine V_alenE C0 6 s46 m46 dX2_make_42 ?_
      refine V_icmpge C0 93 dX2_make_43 (by decide) (fun _ => ?_) (fun _ => ?_)
      · exact V_vret C0 dX2_make_93
      · refine V_aload_n C0 1 rfl 1 rfl dX2_make_46 ?_
        refine V_iload C0 4 4 rfl dX2_make_47 ?_
        refine V_aaldE C0 dX2_make_49 (fun q1 => ?_)
        refine g2_43 C0 q1 dX2_make_50 ?_
        refine V_ifne C0 87 dX2_make_53 (by decide) (fun _ => ?_) (fun _ => ?_)
        · refine V_iincB C0 4 4 (fun y2 => [(4, .int y2), (0, .ref (G.2 + 47)), (1, .ref (G.2 + 46)), (2, .int x2), (3, .int x3)]) rfl ic_1 (by decide) (fun _ => rfl) dX2_make_87 (fun y2 => ?_)
          refine V_goto C0 33 dX2_make_90 (by decide) ?_
          exact V_sub [1, 2, 3, 4, 0] rfl (ih x2 x3 y2 M)
        · refine V_aload_n C0 0 rfl 0 rfl dX2_make_56 ?_
          refine V_aload_n C0 1 rfl 1 rfl dX2_make_57 ?_
          refine V_iload C0 4 4 rfl dX2_make_58 ?_
          refine V_aaldE C0 dX2_make_60 (fun q3 => ?_)
          refine V_iconst C0 dX2_make_61 ic_0 ?_
          refine V_iload_n C0 3 rfl 3 rfl dX2_make_62 ?_
          refine V_iconst C0 dX2_make_63 ic_1 ?_
          refine k2_49 C0 (by decide) (fun lq rq Mq hh => mc_f_Plan_workOut 60 lq (160 + 8 * ix x4) 0 x3 1 M rq Mq q3 hh) (Nat.le_of_ble_eq_true rfl) dX2_make_64 (fun _ M4 => ?_)
          refine V_iload C0 4 4 rfl dX2_make_67 ?_
          refine V_iload_n C0 2 rfl 2 rfl dX2_make_69 ?_
          refine V_iconst C0 dX2_make_70 ic_1 ?_
          refine V_isub C0 dX2_make_71 ?_
          refine V_icmpge C0 87 dX2_make_72 (by decide) (fun _ => ?_) (fun _ => ?_)
          · refine V_iincB C0 4 4 (fun y5 => [(4, .int y5), (0, .ref (G.2 + 47)), (1, .ref (G.2 + 46)), (2, .int x2), (3, .int x3)]) rfl ic_1 (by decide) (fun _ => rfl) dX2_make_87 (fun y5 => ?_)
            refine V_goto C0 33 dX2_make_90 (by decide) ?_
            exact V_sub [1, 2, 3, 4, 0] rfl (ih x2 x3 y5 M4)
          · refine V_aload_n C0 0 rfl 0 rfl dX2_make_75 ?_
            refine V_iconst C0 dX2_make_76 ic_4 ?_
            refine V_aload_n C0 1 rfl 1 rfl dX2_make_77 ?_
            refine V_iload C0 4 4 rfl dX2_make_78 ?_
            refine V_aaldE C0 dX2_make_80 (fun q6 => ?_)
            refine V_iconst C0 dX2_make_81 ic_0 ?_
            refine V_iconst C0 dX2_make_82 ic_4 ?_
            refine V_iconst C0 dX2_make_83 ic_m1 ?_
            refine k2_53 C0 (by decide) (fun lq rq Mq hh => mc_f_Plan_addStep lq 4 (160 + 8 * ix x4) 0 4 (-1) M4 rq Mq q6 hh) (Nat.le_of_ble_eq_true rfl) dX2_make_84 (fun _ M7 => ?_)
            refine V_iincB C0 4 4 (fun y8 => [(4, .int y8), (0, .ref (G.2 + 47)), (1, .ref (G.2 + 46)), (2, .int x2), (3, .int x3)]) rfl ic_1 (by decide) (fun _ => rfl) dX2_make_87 (fun y8 => ?_)
            refine V_goto C0 33 dX2_make_90 (by decide) ?_
            exact V_sub [1, 2, 3, 4, 0] rfl (ih x2 x3 y8 M7)
set_option maxRecDepth 100000 in
set_option maxHeartbeats 4000000 in
theorem mc_f_Plan_make {G : GT} (l : Launch) (x2 : Int32) (x3 : Int32) (M : Mem) (r : Unit) (M1 : Mem) (ho : f_Plan_make x2 x3 M = some (r, M1)) : MC l G yX2_make cX2_make 5 none 303 [.ref (G.2 + 47), .ref (G.2 + 46), .int x2, .int x3] M (vU r) M1 :=
  MC.ofV (own := RX2) (lv := [(0, .ref (G.2 + 47)), (1, .ref (G.2 + 46)), (2, .int x2), (3, .int x3)]) (by decide +kernel) rfl rfl (Nat.le_of_ble_eq_true rfl) ho (fun X hX C0 => by
    unfold f_Plan_make
    refine V_aload_n C0 0 rfl 0 rfl dX2_make_0 ?_
    refine V_iconst C0 dX2_make_1 ic_0 ?_
    refine p2_24 C0 dX2_make_2 (fun M1 => ?_)
    refine V_aload_n C0 0 rfl 0 rfl dX2_make_5 ?_
    refine V_iconst C0 dX2_make_6 ic_0 ?_
    refine p2_28 C0 dX2_make_7 (fun M2 => ?_)
    refine V_aload_n C0 0 rfl 0 rfl dX2_make_10 ?_
    refine V_iconst C0 dX2_make_11 ic_0 ?_
    refine p2_31 C0 dX2_make_12 (fun M3 => ?_)
    refine V_aload_n C0 0 rfl 0 rfl dX2_make_15 ?_
    refine V_iconst C0 dX2_make_16 ic_0 ?_
    refine p2_34 C0 dX2_make_17 (fun M4 => ?_)
    refine V_aload_n C0 0 rfl 0 rfl dX2_make_20 ?_
    refine V_iconst C0 dX2_make_21 ic_0 ?_
    refine p2_37 C0 dX2_make_22 (fun M5 => ?_)
    refine V_aload_n C0 0 rfl 0 rfl dX2_make_25 ?_
    refine V_iconst C0 dX2_make_26 ic_0 ?_
    refine p2_40 C0 dX2_make_27 (fun M6 => ?_)
    refine V_iconst C0 dX2_make_30 ic_0 ?_
    refine V_istore C0 4 [(4, .int 0), (0, .ref (G.2 + 47)), (1, .ref (G.2 + 46)), (2, .int x2), (3, .int x3)] (by decide) rfl dX2_make_31 ?_
    exact V_sub [1, 2, 3, 4, 0] rfl (f_Plan_make_b33_ok C0 FU x2 x3 0 M6))
set_option maxRecDepth 100000 in
set_option maxHeartbeats 4000000 in
theorem mc_f_Reader_isDigit {G : GT} (l : Launch) (x0 : Int32) (M : Mem) (r : Int32) (M1 : Mem) (ho : f_Reader_isDigit x0 M = some (r, M1)) : MC l G yX3_isDigit cX3_isDigit 1 (some .boolean) 0 [.int x0] M (vI r) M1 :=
  MC.ofV (own := RX3) (lv := [(0, .int x0)]) (by decide +kernel) rfl rfl (Nat.le_of_ble_eq_true rfl) ho (fun X hX C0 => by
    unfold f_Reader_isDigit
    refine V_iload_n C0 0 rfl 0 rfl dX3_isDigit_0 ?_
    refine V_bipush C0 dX3_isDigit_1 bp_48 ?_
    refine V_icmplt C0 16 dX3_isDigit_3 (by decide) (fun _ => ?_) (fun _ => ?_)
    · refine V_iconst C0 dX3_isDigit_16 ic_0 ?_
      exact V_zret C0 dX3_isDigit_17
    · refine V_iload_n C0 0 rfl 0 rfl dX3_isDigit_6 ?_
      refine V_bipush C0 dX3_isDigit_7 bp_57 ?_
      refine V_icmpgt C0 16 dX3_isDigit_9 (by decide) (fun _ => ?_) (fun _ => ?_)
      · refine V_iconst C0 dX3_isDigit_16 ic_0 ?_
        exact V_zret C0 dX3_isDigit_17
      · refine V_iconst C0 dX3_isDigit_12 ic_1 ?_
        refine V_goto C0 17 dX3_isDigit_13 (by decide) ?_
        exact V_zret C0 dX3_isDigit_17)
set_option maxRecDepth 100000 in
set_option maxHeartbeats 4000000 in
theorem mc_f_Reader_sign {G : GT} (l : Launch) (M : Mem) (r : Int32) (M1 : Mem) (ho : f_Reader_sign  M = some (r, M1)) : MC l G yX3_sign cX3_sign 1 (some .int) 0 [.ref (G.2 + 1)] M (vI r) M1 :=
  MC.ofV (own := RX3) (lv := [(0, .ref (G.2 + 1))]) (by decide +kernel) rfl rfl (Nat.le_of_ble_eq_true rfl) ho (fun X hX C0 => by
    unfold f_Reader_sign
    refine V_aload_n C0 0 rfl 0 rfl dX3_sign_0 ?_
    refine g3_26 C0 dX3_sign_1 ?_
    refine V_iflt C0 42 dX3_sign_4 (by decide) (fun _ => ?_) (fun _ => ?_)
    · refine V_iconst C0 dX3_sign_42 ic_0 ?_
      exact V_iret C0 dX3_sign_43
    · refine V_aload_n C0 0 rfl 0 rfl dX3_sign_7 ?_
      refine g3_26 C0 dX3_sign_8 ?_
      refine V_aload_n C0 0 rfl 0 rfl dX3_sign_11 ?_
      refine g3_22 C0 dX3_sign_12 ?_
      refine V_icmpge C0 42 dX3_sign_15 (by decide) (fun _ => ?_) (fun _ => ?_)
      · refine V_iconst C0 dX3_sign_42 ic_0 ?_
        exact V_iret C0 dX3_sign_43
      · refine V_aload_n C0 0 rfl 0 rfl dX3_sign_18 ?_
        refine g3_26 C0 dX3_sign_19 ?_
        refine V_aload_n C0 0 rfl 0 rfl dX3_sign_22 ?_
        refine g3_9 C0 dX3_sign_23 ?_
        refine V_alenI C0 100 s2 m2 dX3_sign_26 ?_
        refine V_icmpge C0 42 dX3_sign_27 (by decide) (fun _ => ?_) (fun _ => ?_)
        · refine V_iconst C0 dX3_sign_42 ic_0 ?_
          exact V_iret C0 dX3_sign_43
        · refine V_aload_n C0 0 rfl 0 rfl dX3_sign_30 ?_
          refine g3_9 C0 dX3_sign_31 ?_
          refine V_aload_n C0 0 rfl 0 rfl dX3_sign_34 ?_
          refine g3_26 C0 dX3_sign_35 ?_
          refine V_iald C0 100 s2 n2 dX3_sign_38 ?_
          refine V_goto C0 43 dX3_sign_39 (by decide) ?_
          exact V_iret C0 dX3_sign_43)
set_option maxRecDepth 100000 in
set_option maxHeartbeats 4000000 in
theorem f_Reader_pass_b13_ok {X : XT} {G : GT} (C0 : Cx X G cX3_pass 3 RX3 (some .boolean)) (t0 : Int32) (M : Mem) : V X G 1 vI 3 13 [(0, .ref (G.2 + 1))] [.int t0] M (f_Reader_pass_b13 t0 M) := by
  unfold f_Reader_pass_b13
  refine V_istore_n C0 2 [(2, .int t0), (0, .ref (G.2 + 1))] rfl (by decide) rfl dX3_pass_13 ?_
  refine V_aload_n C0 0 rfl 1 rfl dX3_pass_14 ?_
  refine V_dup C0 rfl dX3_pass_15 ?_
  refine g3_26 C0 dX3_pass_16 ?_
  refine V_iload_n C0 2 rfl 0 rfl dX3_pass_19 ?_
  refine V_ifeq C0 27 dX3_pass_20 (by decide) (fun _ => ?_) (fun _ => ?_)
  · refine V_iconst C0 dX3_pass_27 ic_0 ?_
    refine V_iadd C0 dX3_pass_28 ?_
    refine p3_26 C0 dX3_pass_29 (fun M1 => ?_)
    refine V_iload_n C0 2 rfl 0 rfl dX3_pass_32 ?_
    exact V_zret C0 dX3_pass_33
  · refine V_iconst C0 dX3_pass_23 ic_1 ?_
    refine V_goto C0 28 dX3_pass_24 (by decide) ?_
    refine V_iadd C0 dX3_pass_28 ?_
    refine p3_26 C0 dX3_pass_29 (fun M2 => ?_)
    refine V_iload_n C0 2 rfl 0 rfl dX3_pass_32 ?_
    exact V_zret C0 dX3_pass_33
set_option maxRecDepth 100000 in
set_option maxHeartbeats 4000000 in
theorem mc_f_Reader_pass {G : GT} (l : Launch) (x1 : Int32) (M : Mem) (r : Int32) (M1 : Mem) (ho : f_Reader_pass x1 M = some (r, M1)) : MC l G yX3_pass cX3_pass 3 (some .boolean) 1 [.ref (G.2 + 1), .int x1] M (vI r) M1 :=
  MC.ofV (own := RX3) (lv := [(0, .ref (G.2 + 1)), (1, .int x1)]) (by decide +kernel) rfl rfl (Nat.le_of_ble_eq_true rfl) ho (fun X hX C0 => by
    unfold f_Reader_pass
    refine V_aload_n C0 0 rfl 0 rfl dX3_pass_0 ?_
    refine k3_29 C0 (by decide) (fun lq rq Mq hh => mc_f_Reader_sign lq  M rq Mq  hh) (Nat.le_of_ble_eq_true rfl) dX3_pass_1 (fun r1 M1 => ?_)
    refine V_iload_n C0 1 rfl 1 rfl dX3_pass_4 ?_
    refine V_icmpne C0 12 dX3_pass_5 (by decide) (fun _ => ?_) (fun _ => ?_)
    · refine V_iconst C0 dX3_pass_12 ic_0 ?_
      exact V_sub [0] rfl (f_Reader_pass_b13_ok C0 0 M1)
    · refine V_iconst C0 dX3_pass_8 ic_1 ?_
      refine V_goto C0 13 dX3_pass_9 (by decide) ?_
      exact V_sub [0] rfl (f_Reader_pass_b13_ok C0 1 M1))
set_option maxRecDepth 100000 in
set_option maxHeartbeats 4000000 in
theorem mc_f_Reader_readOperation {G : GT} (l : Launch) (a1 : Nat) (x2 : Int32) (x3 : Int32) (M : Mem) (r : Int32) (M1 : Mem) (h_a1 : (sh a1).1 = 1) (ho : f_Reader_readOperation a1 x2 x3 M = some (r, M1)) : MC l G yX3_readOperation cX3_readOperation 5 (some .boolean) 2 [.ref (G.2 + 1), .ref (G.2 + a1), .int x2, .int x3] M (vI r) M1 :=
  MC.ofV (own := RX3) (lv := [(0, .ref (G.2 + 1)), (1, .ref (G.2 + a1)), (2, .int x2), (3, .int x3)]) (by decide +kernel) rfl rfl (Nat.le_of_ble_eq_true rfl) ho (fun X hX C0 => by
    unfold f_Reader_readOperation
    refine V_aload_n C0 1 rfl 1 rfl dX3_readOperation_0 ?_
    refine V_iload_n C0 2 rfl 2 rfl dX3_readOperation_1 ?_
    refine V_iload_n C0 3 rfl 3 rfl dX3_readOperation_2 ?_
    refine V_iconst C0 dX3_readOperation_3 ic_0 ?_
    refine k3_62 C0 h_a1 (by decide) (fun lq rq Mq hh => mc_f_Form_insert lq a1 x2 x3 0 M rq Mq h_a1 hh) (Nat.le_of_ble_eq_true rfl) dX3_readOperation_4 (fun r1 M1 => ?_)
    refine V_istore C0 4 [(4, .int r1), (0, .ref (G.2 + 1)), (1, .ref (G.2 + a1)), (2, .int x2), (3, .int x3)] (by decide) rfl dX3_readOperation_7 ?_
    refine V_aload_n C0 0 rfl 1 rfl dX3_readOperation_9 ?_
    refine V_dup C0 rfl dX3_readOperation_10 ?_
    refine g3_26 C0 dX3_readOperation_11 ?_
    refine V_iload C0 4 0 rfl dX3_readOperation_14 ?_
    refine V_ifeq C0 23 dX3_readOperation_16 (by decide) (fun _ => ?_) (fun _ => ?_)
    · refine V_iconst C0 dX3_readOperation_23 ic_0 ?_
      refine V_iadd C0 dX3_readOperation_24 ?_
      refine p3_26 C0 dX3_readOperation_25 (fun M2 => ?_)
      refine V_iload C0 4 0 rfl dX3_readOperation_28 ?_
      exact V_zret C0 dX3_readOperation_30
    · refine V_iconst C0 dX3_readOperation_19 ic_1 ?_
      refine V_goto C0 24 dX3_readOperation_20 (by decide) ?_
      refine V_iadd C0 dX3_readOperation_24 ?_
      refine p3_26 C0 dX3_readOperation_25 (fun M3 => ?_)
      refine V_iload C0 4 0 rfl dX3_readOperation_28 ?_
      exact V_zret C0 dX3_readOperation_30)
set_option maxRecDepth 100000 in
set_option maxHeartbeats 4000000 in
theorem f_Reader_readNumber_b27_ok {X : XT} {G : GT} (C0 : Cx X G cX3_readNumber 3 RX3 (some .int)) (k4 : Int32 → Int32 → Mem → Option (Int32 × Mem)) (hk4 : ∀ (x1 : Int32) (x2 : Int32) (M : Mem), V X G 1 vI 3 4 [(0, .ref (G.2 + 1)), (1, .int x1), (2, .int x2)] [] M (k4 x1 x2 M)) (x1 : Int32) (x2 : Int32) (M : Mem) : V X G 1 vI 3 27 [(0, .ref (G.2 + 1)), (1, .int x1), (2, .int x2)] [] M (f_Reader_readNumber_b27 k4 x1 x2 M) := by
  unfold f_Reader_readNumber_b27
  refine V_bipush C0 dX3_readNumber_27 bp_10 ?_
  refine V_iload_n C0 1 rfl 1 rfl dX3_readNumber_29 ?_
  refine V_imul C0 dX3_readNumber_30 ?_
  refine V_aload_n C0 0 rfl 0 rfl dX3_readNumber_31 ?_
  refine k3_29 C0 (by decide) (fun lq rq Mq hh => mc_f_Reader_sign lq  M rq Mq  hh) (Nat.le_of_ble_eq_true rfl) dX3_readNumber_32 (fun r1 M1 => ?_)
  refine V_iadd C0 dX3_readNumber_35 ?_
  refine V_bipush C0 dX3_readNumber_36 bp_48 ?_
  refine V_isub C0 dX3_readNumber_38 ?_
  refine V_bi (fun y2 => ?_)
  refine V_istore_n C0 1 [(1, .int y2), (0, .ref (G.2 + 1)), (2, .int x2)] rfl (by decide) rfl dX3_readNumber_39 ?_
  refine V_iincB C0 2 2 (fun y3 => [(2, .int y3), (1, .int y2), (0, .ref (G.2 + 1))]) rfl ic_1 (by decide) (fun _ => rfl) dX3_readNumber_40 (fun y3 => ?_)
  refine V_aload_n C0 0 rfl 2 rfl dX3_readNumber_43 ?_
  refine V_dup C0 rfl dX3_readNumber_44 ?_
  refine g3_26 C0 dX3_readNumber_45 ?_
  refine V_iconst C0 dX3_readNumber_48 ic_1 ?_
  refine V_iadd C0 dX3_readNumber_49 ?_
  refine p3_26 C0 dX3_readNumber_50 (fun M4 => ?_)
  refine V_goto C0 4 dX3_readNumber_53 (by decide) ?_
  exact V_sub [2, 1, 0] rfl (hk4 y2 y3 M4)
set_option maxRecDepth 100000 in
set_option maxHeartbeats 4000000 in
theorem f_Reader_readNumber_b4_ok {X : XT} {G : GT} (C0 : Cx X G cX3_readNumber 3 RX3 (some .int)) : ∀ (n : Nat) (x1 : Int32) (x2 : Int32) (M : Mem), V X G 1 vI 3 4 [(0, .ref (G.2 + 1)), (1, .int x1), (2, .int x2)] [] M (f_Reader_readNumber_b4 n x1 x2 M) := by
  intro n
  induction n with
  | zero =>
    intros
    exact V_none
  | succ n ih =>
    intro x1 x2 M
    rw [f_Reader_readNumber_b4]
    refine V_iload_n C0 2 rfl 2 rfl dX3_readNumber_4 ?_
    refine V_iconst C0 dX3_readNumber_5 ic_3 ?_
    refine V_icmpge C0 56 dX3_readNumber_6 (by decide) (fun _ => ?_) (fun _ => ?_)
    · refine V_iload_n C0 1 rfl 1 rfl dX3_readNumber_56 ?_
      exact V_iret C0 dX3_readNumber_57
    · refine V_aload_n C0 0 rfl 0 rfl dX3_readNumber_9 ?_
      refine k3_29 C0 (by decide) (fun lq rq Mq hh => mc_f_Reader_sign lq  M rq Mq  hh) (Nat.le_of_ble_eq_true rfl) dX3_readNumber_10 (fun r1 M1 => ?_)
      refine k3_81 C0 (by decide) (fun lq rq Mq hh => mc_f_Reader_isDigit lq r1 M1 rq Mq  hh) (Nat.le_of_ble_eq_true rfl) dX3_readNumber_13 (fun r2 M2 => ?_)
      refine V_ifeq C0 56 dX3_readNumber_16 (by decide) (fun _ => ?_) (fun _ => ?_)
      · refine V_iload_n C0 1 rfl 1 rfl dX3_readNumber_56 ?_
        exact V_iret C0 dX3_readNumber_57
      · refine V_iload_n C0 2 rfl 2 rfl dX3_readNumber_19 ?_
        refine V_ifeq C0 27 dX3_readNumber_20 (by decide) (fun _ => ?_) (fun _ => ?_)
        · exact V_sub [0, 1, 2] rfl (f_Reader_readNumber_b27_ok C0 (f_Reader_readNumber_b4 n) ih x1 x2 M2)
        · refine V_iload_n C0 1 rfl 1 rfl dX3_readNumber_23 ?_
          refine V_ifle C0 56 dX3_readNumber_24 (by decide) (fun _ => ?_) (fun _ => ?_)
          · refine V_iload_n C0 1 rfl 1 rfl dX3_readNumber_56 ?_
            exact V_iret C0 dX3_readNumber_57
          · exact V_sub [0, 1, 2] rfl (f_Reader_readNumber_b27_ok C0 (f_Reader_readNumber_b4 n) ih x1 x2 M2)
set_option maxRecDepth 100000 in
set_option maxHeartbeats 4000000 in
theorem mc_f_Reader_readNumber {G : GT} (l : Launch) (M : Mem) (r : Int32) (M1 : Mem) (ho : f_Reader_readNumber  M = some (r, M1)) : MC l G yX3_readNumber cX3_readNumber 3 (some .int) 1 [.ref (G.2 + 1)] M (vI r) M1 :=
  MC.ofV (own := RX3) (lv := [(0, .ref (G.2 + 1))]) (by decide +kernel) rfl rfl (Nat.le_of_ble_eq_true rfl) ho (fun X hX C0 => by
    unfold f_Reader_readNumber
    refine V_iconst C0 dX3_readNumber_0 ic_0 ?_
    refine V_istore_n C0 1 [(1, .int 0), (0, .ref (G.2 + 1))] rfl (by decide) rfl dX3_readNumber_1 ?_
    refine V_iconst C0 dX3_readNumber_2 ic_0 ?_
    refine V_istore_n C0 2 [(2, .int 0), (1, .int 0), (0, .ref (G.2 + 1))] rfl (by decide) rfl dX3_readNumber_3 ?_
    exact V_sub [2, 1, 0] rfl (f_Reader_readNumber_b4_ok C0 FU 0 0 M))
