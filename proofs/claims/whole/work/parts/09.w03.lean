set_option maxRecDepth 100000 in
set_option maxHeartbeats 4000000 in
theorem f_Expanded_pairs_b4_ok {X : XT} {G : GT} (C0 : Cx X G cX0_pairs 3 RX0 (some .int)) : ∀ (n : Nat) (a0 : Nat) (x1 : Int32) (x2 : Int32) (M : Mem), (sh a0).1 = 0 → V X G 2 vI 3 4 [(0, .ref (G.2 + a0)), (1, .int x1), (2, .int x2)] [] M (f_Expanded_pairs_b4 n a0 x1 x2 M) := by
  intro n
  induction n with
  | zero =>
    intros
    exact V_none
  | succ n ih =>
    intro a0 x1 x2 M h_a0
    rw [f_Expanded_pairs_b4]
    refine V_iload_n C0 2 rfl 2 rfl dX0_pairs_4 ?_
    refine V_aload_n C0 0 rfl 0 rfl dX0_pairs_5 ?_
    refine g0_14 C0 h_a0 dX0_pairs_6 ?_
    refine g0_45 C0 (tE1 h_a0) dX0_pairs_9 ?_
    refine V_icmpge C0 44 dX0_pairs_12 (by decide) (fun _ => ?_) (fun _ => ?_)
    · refine V_iload_n C0 1 rfl 1 rfl dX0_pairs_44 ?_
      exact V_iret C0 dX0_pairs_45
    · refine V_iload_n C0 1 rfl 1 rfl dX0_pairs_15 ?_
      refine V_aload_n C0 0 rfl 0 rfl dX0_pairs_16 ?_
      refine g0_14 C0 h_a0 dX0_pairs_17 ?_
      refine V_iload_n C0 2 rfl 2 rfl dX0_pairs_20 ?_
      refine k0_48 C0 (tE1 h_a0) (by decide) (fun lq rq Mq hh => mc_f_Form_kindOf lq (a0 + 1) x2 M rq Mq (tE1 h_a0) hh) (Nat.le_of_ble_eq_true rfl) dX0_pairs_21 (fun r1 M1 => ?_)
      refine k0_51 C0 (by decide) (fun lq rq Mq hh => mc_f_LP_partsOf lq r1 M1 rq Mq  hh) (Nat.le_of_ble_eq_true rfl) dX0_pairs_24 (fun r2 M2 => ?_)
      refine V_iconst C0 dX0_pairs_27 ic_2 ?_
      refine V_icmpne C0 35 dX0_pairs_28 (by decide) (fun _ => ?_) (fun _ => ?_)
      · refine V_iconst C0 dX0_pairs_35 ic_0 ?_
        refine V_iadd C0 dX0_pairs_36 ?_
        refine V_bi (fun y3 => ?_)
        refine V_istore_n C0 1 [(1, .int y3), (0, .ref (G.2 + a0)), (2, .int x2)] rfl (by decide) rfl dX0_pairs_37 ?_
        refine V_iincB C0 2 2 (fun y4 => [(2, .int y4), (1, .int y3), (0, .ref (G.2 + a0))]) rfl ic_1 (by decide) (fun _ => rfl) dX0_pairs_38 (fun y4 => ?_)
        refine V_goto C0 4 dX0_pairs_41 (by decide) ?_
        exact V_sub [2, 1, 0] rfl (ih a0 y3 y4 M2 h_a0)
      · refine V_iconst C0 dX0_pairs_31 ic_1 ?_
        refine V_goto C0 36 dX0_pairs_32 (by decide) ?_
        refine V_iadd C0 dX0_pairs_36 ?_
        refine V_bi (fun y5 => ?_)
        refine V_istore_n C0 1 [(1, .int y5), (0, .ref (G.2 + a0)), (2, .int x2)] rfl (by decide) rfl dX0_pairs_37 ?_
        refine V_iincB C0 2 2 (fun y6 => [(2, .int y6), (1, .int y5), (0, .ref (G.2 + a0))]) rfl ic_1 (by decide) (fun _ => rfl) dX0_pairs_38 (fun y6 => ?_)
        refine V_goto C0 4 dX0_pairs_41 (by decide) ?_
        exact V_sub [2, 1, 0] rfl (ih a0 y5 y6 M2 h_a0)
set_option maxRecDepth 100000 in
set_option maxHeartbeats 4000000 in
theorem mc_f_Expanded_pairs {G : GT} (l : Launch) (a0 : Nat) (M : Mem) (r : Int32) (M1 : Mem) (h_a0 : (sh a0).1 = 0) (ho : f_Expanded_pairs a0 M = some (r, M1)) : MC l G yX0_pairs cX0_pairs 3 (some .int) 2 [.ref (G.2 + a0)] M (vI r) M1 :=
  MC.ofV (own := RX0) (lv := [(0, .ref (G.2 + a0))]) (by decide +kernel) rfl rfl (Nat.le_of_ble_eq_true rfl) ho (fun X hX C0 => by
    unfold f_Expanded_pairs
    refine V_iconst C0 dX0_pairs_0 ic_0 ?_
    refine V_istore_n C0 1 [(1, .int 0), (0, .ref (G.2 + a0))] rfl (by decide) rfl dX0_pairs_1 ?_
    refine V_iconst C0 dX0_pairs_2 ic_0 ?_
    refine V_istore_n C0 2 [(2, .int 0), (1, .int 0), (0, .ref (G.2 + a0))] rfl (by decide) rfl dX0_pairs_3 ?_
    exact V_sub [2, 1, 0] rfl (f_Expanded_pairs_b4_ok C0 FU a0 0 0 M h_a0))
set_option maxRecDepth 100000 in
set_option maxHeartbeats 4000000 in
theorem f_Form_behind_b8_ok {X : XT} {G : GT} (C0 : Cx X G cX1_behind 4 RX1 (some .int)) : ∀ (n : Nat) (a0 : Nat) (x2 : Int32) (x3 : Int32) (M : Mem), (sh a0).1 = 1 → V X G 2 vI 4 8 [(0, .ref (G.2 + a0)), (2, .int x2), (3, .int x3)] [] M (f_Form_behind_b8 n a0 x2 x3 M) := by
  intro n
  induction n with
  | zero =>
    intros
    exact V_none
  | succ n ih =>
    intro a0 x2 x3 M h_a0
    rw [f_Form_behind_b8]
    refine V_iload_n C0 3 rfl 2 rfl dX1_behind_8 ?_
    refine V_ifle C0 39 dX1_behind_9 (by decide) (fun _ => ?_) (fun _ => ?_)
    · refine V_iload_n C0 2 rfl 1 rfl dX1_behind_39 ?_
      exact V_iret C0 dX1_behind_40
    · refine V_iload_n C0 2 rfl 1 rfl dX1_behind_12 ?_
      refine V_aload_n C0 0 rfl 0 rfl dX1_behind_13 ?_
      refine g1_9 C0 h_a0 dX1_behind_14 ?_
      refine V_icmpge C0 39 dX1_behind_17 (by decide) (fun _ => ?_) (fun _ => ?_)
      · refine V_iload_n C0 2 rfl 1 rfl dX1_behind_39 ?_
        exact V_iret C0 dX1_behind_40
      · refine V_iload_n C0 3 rfl 2 rfl dX1_behind_20 ?_
        refine V_aload_n C0 0 rfl 0 rfl dX1_behind_21 ?_
        refine V_iload_n C0 2 rfl 1 rfl dX1_behind_22 ?_
        refine k1_32 C0 h_a0 (by decide) (fun lq rq Mq hh => mc_f_Form_kindOf lq a0 x2 M rq Mq h_a0 hh) (Nat.le_of_ble_eq_true rfl) dX1_behind_23 (fun r1 M1 => ?_)
        refine k1_57 C0 (by decide) (fun lq rq Mq hh => mc_f_LP_partsOf lq r1 M1 rq Mq  hh) (Nat.le_of_ble_eq_true rfl) dX1_behind_26 (fun r2 M2 => ?_)
        refine V_iconst C0 dX1_behind_29 ic_1 ?_
        refine V_isub C0 dX1_behind_30 ?_
        refine V_iadd C0 dX1_behind_31 ?_
        refine V_bi (fun y3 => ?_)
        refine V_istore_n C0 3 [(3, .int y3), (0, .ref (G.2 + a0)), (2, .int x2)] rfl (by decide) rfl dX1_behind_32 ?_
        refine V_iincB C0 2 2 (fun y4 => [(2, .int y4), (3, .int y3), (0, .ref (G.2 + a0))]) rfl ic_1 (by decide) (fun _ => rfl) dX1_behind_33 (fun y4 => ?_)
        refine V_goto C0 8 dX1_behind_36 (by decide) ?_
        exact V_sub [2, 0, 1] rfl (ih a0 y4 y3 M2 h_a0)
set_option maxRecDepth 100000 in
set_option maxHeartbeats 4000000 in
theorem mc_f_Form_behind {G : GT} (l : Launch) (a0 : Nat) (x1 : Int32) (M : Mem) (r : Int32) (M1 : Mem) (h_a0 : (sh a0).1 = 1) (ho : f_Form_behind a0 x1 M = some (r, M1)) : MC l G yX1_behind cX1_behind 4 (some .int) 2 [.ref (G.2 + a0), .int x1] M (vI r) M1 :=
  MC.ofV (own := RX1) (lv := [(0, .ref (G.2 + a0)), (1, .int x1)]) (by decide +kernel) rfl rfl (Nat.le_of_ble_eq_true rfl) ho (fun X hX C0 => by
    unfold f_Form_behind
    refine V_iconst C0 dX1_behind_0 ic_0 ?_
    refine V_iload_n C0 1 rfl 1 rfl dX1_behind_1 ?_
    refine V_mmax C0 wm1_15 wsM_max w0Math wcM_max (by decide) (Nat.le_of_ble_eq_true rfl) dX1_behind_2 ?_
    refine V_bi (fun y1 => ?_)
    refine V_istore_n C0 2 [(2, .int y1), (0, .ref (G.2 + a0)), (1, .int x1)] rfl (by decide) rfl dX1_behind_5 ?_
    refine V_iconst C0 dX1_behind_6 ic_1 ?_
    refine V_istore_n C0 3 [(3, .int 1), (2, .int y1), (0, .ref (G.2 + a0)), (1, .int x1)] rfl (by decide) rfl dX1_behind_7 ?_
    exact V_sub [2, 1, 0] rfl (f_Form_behind_b8_ok C0 FU a0 y1 1 M h_a0))
set_option maxRecDepth 100000 in
set_option maxHeartbeats 4000000 in
theorem mc_f_Form_copy {G : GT} (l : Launch) (a0 : Nat) (a1 : Nat) (M : Mem) (r : Unit) (M1 : Mem) (h_a0 : (sh a0).1 = 1) (h_a1 : (sh a1).1 = 1) (ho : f_Form_copy a0 a1 M = some (r, M1)) : MC l G yX1_copy cX1_copy 2 none 3 [.ref (G.2 + a0), .ref (G.2 + a1)] M (vU r) M1 :=
  MC.ofV (own := RX1) (lv := [(0, .ref (G.2 + a0)), (1, .ref (G.2 + a1))]) (by decide +kernel) rfl rfl (Nat.le_of_ble_eq_true rfl) ho (fun X hX C0 => by
    unfold f_Form_copy
    refine V_aload_n C0 0 rfl 0 rfl dX1_copy_0 ?_
    refine V_iconst C0 dX1_copy_1 ic_0 ?_
    refine p1_9 C0 h_a0 dX1_copy_2 (fun M1 => ?_)
    refine V_aload_n C0 0 rfl 0 rfl dX1_copy_5 ?_
    refine V_aload_n C0 1 rfl 1 rfl dX1_copy_6 ?_
    refine k1_53 C0 h_a0 (by decide) (fun lq rq Mq hh => mc_f_Form_addAll lq a0 a1 M1 rq Mq h_a0 h_a1 hh) (Nat.le_of_ble_eq_true rfl) dX1_copy_7 (fun _ M2 => ?_)
    exact V_vret C0 dX1_copy_10)
set_option maxRecDepth 100000 in
set_option maxHeartbeats 4000000 in
theorem f_Form_turnAround_b5_ok {X : XT} {G : GT} (C0 : Cx X G cX1_turnAround 7 RX1 none) : ∀ (n : Nat) (a0 : Nat) (x3 : Int32) (x4 : Int32) (M : Mem), (sh a0).1 = 1 → V X G 1 vU 7 5 [(0, .ref (G.2 + a0)), (3, .int x3), (4, .int x4)] [] M (f_Form_turnAround_b5 n a0 x3 x4 M) := by
  intro n
  induction n with
  | zero =>
    intros
    exact V_none
  | succ n ih =>
    intro a0 x3 x4 M h_a0
    rw [f_Form_turnAround_b5]
    refine V_iload_n C0 3 rfl 1 rfl dX1_turnAround_5 ?_
    refine V_iload C0 4 2 rfl dX1_turnAround_6 ?_
    refine V_icmpge C0 97 dX1_turnAround_8 (by decide) (fun _ => ?_) (fun _ => ?_)
    · exact V_vret C0 dX1_turnAround_97
    · refine V_aload_n C0 0 rfl 0 rfl dX1_turnAround_11 ?_
      refine V_iload_n C0 3 rfl 1 rfl dX1_turnAround_12 ?_
      refine k1_28 C0 h_a0 (by decide) (fun lq rq Mq hh => mc_f_Form_has lq a0 x3 M rq Mq h_a0 hh) (Nat.le_of_ble_eq_true rfl) dX1_turnAround_13 (fun r1 M1 => ?_)
      refine V_ifeq C0 97 dX1_turnAround_16 (by decide) (fun _ => ?_) (fun _ => ?_)
      · exact V_vret C0 dX1_turnAround_97
      · refine V_aload_n C0 0 rfl 0 rfl dX1_turnAround_19 ?_
        refine V_iload C0 4 2 rfl dX1_turnAround_20 ?_
        refine k1_28 C0 h_a0 (by decide) (fun lq rq Mq hh => mc_f_Form_has lq a0 x4 M1 rq Mq h_a0 hh) (Nat.le_of_ble_eq_true rfl) dX1_turnAround_22 (fun r2 M2 => ?_)
        refine V_ifeq C0 97 dX1_turnAround_25 (by decide) (fun _ => ?_) (fun _ => ?_)
        · exact V_vret C0 dX1_turnAround_97
        · refine V_aload_n C0 0 rfl 0 rfl dX1_turnAround_28 ?_
          refine g1_21 C0 h_a0 dX1_turnAround_29 ?_
          refine V_iload_n C0 3 rfl 1 rfl dX1_turnAround_32 ?_
          refine V_iald C0 (ln (a0 + 1)) (tF0 h_a0) rfl dX1_turnAround_33 ?_
          refine V_bi (fun y3 => ?_)
          refine V_istore C0 5 [(5, .int y3), (0, .ref (G.2 + a0)), (3, .int x3), (4, .int x4)] (by decide) rfl dX1_turnAround_34 ?_
          refine V_aload_n C0 0 rfl 1 rfl dX1_turnAround_36 ?_
          refine g1_21 C0 h_a0 dX1_turnAround_37 ?_
          refine V_iload_n C0 3 rfl 2 rfl dX1_turnAround_40 ?_
          refine V_aload_n C0 0 rfl 1 rfl dX1_turnAround_41 ?_
          refine g1_21 C0 h_a0 dX1_turnAround_42 ?_
          refine V_iload C0 4 3 rfl dX1_turnAround_45 ?_
          refine V_iald C0 (ln (a0 + 1)) (tF0 h_a0) rfl dX1_turnAround_47 ?_
          refine V_iast C0 (ln (a0 + 1)) (tF0 h_a0) rfl dX1_turnAround_48 (fun M4 => ?_)
          refine V_aload_n C0 0 rfl 1 rfl dX1_turnAround_49 ?_
          refine g1_21 C0 h_a0 dX1_turnAround_50 ?_
          refine V_iload C0 4 3 rfl dX1_turnAround_53 ?_
          refine V_iload C0 5 0 rfl dX1_turnAround_55 ?_
          refine V_iast C0 (ln (a0 + 1)) (tF0 h_a0) rfl dX1_turnAround_57 (fun M5 => ?_)
          refine V_aload_n C0 0 rfl 1 rfl dX1_turnAround_58 ?_
          refine g1_25 C0 h_a0 dX1_turnAround_59 ?_
          refine V_iload_n C0 3 rfl 2 rfl dX1_turnAround_62 ?_
          refine V_iald C0 (ln (a0 + 2)) (tF1 h_a0) rfl dX1_turnAround_63 ?_
          refine V_bi (fun y6 => ?_)
          refine V_istore C0 6 [(6, .int y6), (5, .int y3), (0, .ref (G.2 + a0)), (3, .int x3), (4, .int x4)] (by decide) rfl dX1_turnAround_64 ?_
          refine V_aload_n C0 0 rfl 2 rfl dX1_turnAround_66 ?_
          refine g1_25 C0 h_a0 dX1_turnAround_67 ?_
          refine V_iload_n C0 3 rfl 3 rfl dX1_turnAround_70 ?_
          refine V_aload_n C0 0 rfl 2 rfl dX1_turnAround_71 ?_
          refine g1_25 C0 h_a0 dX1_turnAround_72 ?_
          refine V_iload C0 4 4 rfl dX1_turnAround_75 ?_
          refine V_iald C0 (ln (a0 + 2)) (tF1 h_a0) rfl dX1_turnAround_77 ?_
          refine V_iast C0 (ln (a0 + 2)) (tF1 h_a0) rfl dX1_turnAround_78 (fun M7 => ?_)
          refine V_aload_n C0 0 rfl 2 rfl dX1_turnAround_79 ?_
          refine g1_25 C0 h_a0 dX1_turnAround_80 ?_
          refine V_iload C0 4 4 rfl dX1_turnAround_83 ?_
          refine V_iload C0 6 0 rfl dX1_turnAround_85 ?_
          refine V_iast C0 (ln (a0 + 2)) (tF1 h_a0) rfl dX1_turnAround_87 (fun M8 => ?_)
          refine V_iincB C0 3 3 (fun y9 => [(3, .int y9), (6, .int y6), (5, .int y3), (0, .ref (G.2 + a0)), (4, .int x4)]) rfl ic_1 (by decide) (fun _ => rfl) dX1_turnAround_88 (fun y9 => ?_)
          refine V_iincB C0 4 4 (fun y10 => [(4, .int y10), (3, .int y9), (6, .int y6), (5, .int y3), (0, .ref (G.2 + a0))]) rfl ic_m1 (by decide) (fun _ => rfl) dX1_turnAround_91 (fun y10 => ?_)
          refine V_goto C0 5 dX1_turnAround_94 (by decide) ?_
          exact V_sub [4, 1, 0] rfl (ih a0 y9 y10 M8 h_a0)
set_option maxRecDepth 100000 in
set_option maxHeartbeats 4000000 in
theorem mc_f_Form_turnAround {G : GT} (l : Launch) (a0 : Nat) (x1 : Int32) (x2 : Int32) (M : Mem) (r : Unit) (M1 : Mem) (h_a0 : (sh a0).1 = 1) (ho : f_Form_turnAround a0 x1 x2 M = some (r, M1)) : MC l G yX1_turnAround cX1_turnAround 7 none 1 [.ref (G.2 + a0), .int x1, .int x2] M (vU r) M1 :=
  MC.ofV (own := RX1) (lv := [(0, .ref (G.2 + a0)), (1, .int x1), (2, .int x2)]) (by decide +kernel) rfl rfl (Nat.le_of_ble_eq_true rfl) ho (fun X hX C0 => by
    unfold f_Form_turnAround
    refine V_iload_n C0 1 rfl 1 rfl dX1_turnAround_0 ?_
    refine V_istore_n C0 3 [(3, .int x1), (0, .ref (G.2 + a0)), (1, .int x1), (2, .int x2)] rfl (by decide) rfl dX1_turnAround_1 ?_
    refine V_iload_n C0 2 rfl 3 rfl dX1_turnAround_2 ?_
    refine V_istore C0 4 [(4, .int x2), (3, .int x1), (0, .ref (G.2 + a0)), (1, .int x1), (2, .int x2)] (by decide) rfl dX1_turnAround_3 ?_
    exact V_sub [2, 1, 0] rfl (f_Form_turnAround_b5_ok C0 FU a0 x1 x2 M h_a0))
set_option maxRecDepth 100000 in
set_option maxHeartbeats 4000000 in
theorem mc_f_Form_exchange {G : GT} (l : Launch) (a0 : Nat) (x1 : Int32) (M : Mem) (r : Unit) (M1 : Mem) (h_a0 : (sh a0).1 = 1) (ho : f_Form_exchange a0 x1 M = some (r, M1)) : MC l G yX1_exchange cX1_exchange 4 none 3 [.ref (G.2 + a0), .int x1] M (vU r) M1 :=
  MC.ofV (own := RX1) (lv := [(0, .ref (G.2 + a0)), (1, .int x1)]) (by decide +kernel) rfl rfl (Nat.le_of_ble_eq_true rfl) ho (fun X hX C0 => by
    unfold f_Form_exchange
    refine V_aload_n C0 0 rfl 0 rfl dX1_exchange_0 ?_
    refine V_iload_n C0 1 rfl 1 rfl dX1_exchange_1 ?_
    refine V_iconst C0 dX1_exchange_2 ic_1 ?_
    refine V_iadd C0 dX1_exchange_3 ?_
    refine k1_60 C0 h_a0 (by decide) (fun lq rq Mq hh => mc_f_Form_behind lq a0 (x1 + 1) M rq Mq h_a0 hh) (Nat.le_of_ble_eq_true rfl) dX1_exchange_4 (fun r1 M1 => ?_)
    refine V_istore_n C0 2 [(2, .int r1), (0, .ref (G.2 + a0)), (1, .int x1)] rfl (by decide) rfl dX1_exchange_7 ?_
    refine V_aload_n C0 0 rfl 1 rfl dX1_exchange_8 ?_
    refine V_iload_n C0 2 rfl 0 rfl dX1_exchange_9 ?_
    refine k1_60 C0 h_a0 (by decide) (fun lq rq Mq hh => mc_f_Form_behind lq a0 r1 M1 rq Mq h_a0 hh) (Nat.le_of_ble_eq_true rfl) dX1_exchange_10 (fun r2 M2 => ?_)
    refine V_istore_n C0 3 [(3, .int r2), (2, .int r1), (0, .ref (G.2 + a0)), (1, .int x1)] rfl (by decide) rfl dX1_exchange_13 ?_
    refine V_aload_n C0 0 rfl 2 rfl dX1_exchange_14 ?_
    refine V_iload_n C0 1 rfl 3 rfl dX1_exchange_15 ?_
    refine V_iconst C0 dX1_exchange_16 ic_1 ?_
    refine V_iadd C0 dX1_exchange_17 ?_
    refine V_iload_n C0 2 rfl 1 rfl dX1_exchange_18 ?_
    refine V_iconst C0 dX1_exchange_19 ic_1 ?_
    refine V_isub C0 dX1_exchange_20 ?_
    refine k1_63 C0 h_a0 (by decide) (fun lq rq Mq hh => mc_f_Form_turnAround lq a0 (x1 + 1) (r1 - 1) M2 rq Mq h_a0 hh) (Nat.le_of_ble_eq_true rfl) dX1_exchange_21 (fun _ M3 => ?_)
    refine V_aload_n C0 0 rfl 2 rfl dX1_exchange_24 ?_
    refine V_iload_n C0 2 rfl 1 rfl dX1_exchange_25 ?_
    refine V_iload_n C0 3 rfl 0 rfl dX1_exchange_26 ?_
    refine V_iconst C0 dX1_exchange_27 ic_1 ?_
    refine V_isub C0 dX1_exchange_28 ?_
    refine k1_63 C0 h_a0 (by decide) (fun lq rq Mq hh => mc_f_Form_turnAround lq a0 r1 (r2 - 1) M3 rq Mq h_a0 hh) (Nat.le_of_ble_eq_true rfl) dX1_exchange_29 (fun _ M4 => ?_)
    refine V_aload_n C0 0 rfl 2 rfl dX1_exchange_32 ?_
    refine V_iload_n C0 1 rfl 3 rfl dX1_exchange_33 ?_
    refine V_iconst C0 dX1_exchange_34 ic_1 ?_
    refine V_iadd C0 dX1_exchange_35 ?_
    refine V_iload_n C0 3 rfl 0 rfl dX1_exchange_36 ?_
    refine V_iconst C0 dX1_exchange_37 ic_1 ?_
    refine V_isub C0 dX1_exchange_38 ?_
    refine k1_63 C0 h_a0 (by decide) (fun lq rq Mq hh => mc_f_Form_turnAround lq a0 (x1 + 1) (r2 - 1) M4 rq Mq h_a0 hh) (Nat.le_of_ble_eq_true rfl) dX1_exchange_39 (fun _ M5 => ?_)
    exact V_vret C0 dX1_exchange_42)
set_option maxRecDepth 100000 in
set_option maxHeartbeats 4000000 in
theorem mc_f_Form_insert {G : GT} (l : Launch) (a0 : Nat) (x1 : Int32) (x2 : Int32) (x3 : Int32) (M : Mem) (r : Int32) (M1 : Mem) (h_a0 : (sh a0).1 = 1) (ho : f_Form_insert a0 x1 x2 x3 M = some (r, M1)) : MC l G yX1_insert cX1_insert 4 (some .boolean) 1 [.ref (G.2 + a0), .int x1, .int x2, .int x3] M (vI r) M1 :=
  MC.ofV (own := RX1) (lv := [(0, .ref (G.2 + a0)), (1, .int x1), (2, .int x2), (3, .int x3)]) (by decide +kernel) rfl rfl (Nat.le_of_ble_eq_true rfl) ho (fun X hX C0 => by
    unfold f_Form_insert
    refine V_aload_n C0 0 rfl 0 rfl dX1_insert_0 ?_
    refine k1_36 C0 h_a0 (by decide) (fun lq rq Mq hh => mc_f_Form_isFull lq a0 M rq Mq h_a0 hh) (Nat.le_of_ble_eq_true rfl) dX1_insert_1 (fun r1 M1 => ?_)
    refine V_ifne C0 19 dX1_insert_4 (by decide) (fun _ => ?_) (fun _ => ?_)
    · refine V_iconst C0 dX1_insert_19 ic_0 ?_
      exact V_zret C0 dX1_insert_20
    · refine V_iload_n C0 1 rfl 1 rfl dX1_insert_7 ?_
      refine V_iflt C0 19 dX1_insert_8 (by decide) (fun _ => ?_) (fun _ => ?_)
      · refine V_iconst C0 dX1_insert_19 ic_0 ?_
        exact V_zret C0 dX1_insert_20
      · refine V_iload_n C0 1 rfl 1 rfl dX1_insert_11 ?_
        refine V_aload_n C0 0 rfl 0 rfl dX1_insert_12 ?_
        refine g1_9 C0 h_a0 dX1_insert_13 ?_
        refine V_icmple C0 21 dX1_insert_16 (by decide) (fun _ => ?_) (fun _ => ?_)
        · refine V_aload_n C0 0 rfl 0 rfl dX1_insert_21 ?_
          refine g1_21 C0 h_a0 dX1_insert_22 ?_
          refine V_iload_n C0 1 rfl 1 rfl dX1_insert_25 ?_
          refine V_aload_n C0 0 rfl 0 rfl dX1_insert_26 ?_
          refine g1_21 C0 h_a0 dX1_insert_27 ?_
          refine V_iload_n C0 1 rfl 1 rfl dX1_insert_30 ?_
          refine V_iconst C0 dX1_insert_31 ic_1 ?_
          refine V_iadd C0 dX1_insert_32 ?_
          refine V_aload_n C0 0 rfl 0 rfl dX1_insert_33 ?_
          refine g1_9 C0 h_a0 dX1_insert_34 ?_
          refine V_iload_n C0 1 rfl 1 rfl dX1_insert_37 ?_
          refine V_isub C0 dX1_insert_38 ?_
          refine V_copy C0 (ln (a0 + 1)) (ln (a0 + 1)) wm1_40 wnM_copy wsM_copy w0System (tF0 h_a0) (tF0 h_a0) rfl rfl (by decide) (Nat.le_of_ble_eq_true rfl) dX1_insert_39 (fun M2 => ?_)
          refine V_aload_n C0 0 rfl 0 rfl dX1_insert_42 ?_
          refine g1_25 C0 h_a0 dX1_insert_43 ?_
          refine V_iload_n C0 1 rfl 1 rfl dX1_insert_46 ?_
          refine V_aload_n C0 0 rfl 0 rfl dX1_insert_47 ?_
          refine g1_25 C0 h_a0 dX1_insert_48 ?_
          refine V_iload_n C0 1 rfl 1 rfl dX1_insert_51 ?_
          refine V_iconst C0 dX1_insert_52 ic_1 ?_
          refine V_iadd C0 dX1_insert_53 ?_
          refine V_aload_n C0 0 rfl 0 rfl dX1_insert_54 ?_
          refine g1_9 C0 h_a0 dX1_insert_55 ?_
          refine V_iload_n C0 1 rfl 1 rfl dX1_insert_58 ?_
          refine V_isub C0 dX1_insert_59 ?_
          refine V_copy C0 (ln (a0 + 2)) (ln (a0 + 2)) wm1_40 wnM_copy wsM_copy w0System (tF1 h_a0) (tF1 h_a0) rfl rfl (by decide) (Nat.le_of_ble_eq_true rfl) dX1_insert_60 (fun M3 => ?_)
          refine V_aload_n C0 0 rfl 0 rfl dX1_insert_63 ?_
          refine g1_21 C0 h_a0 dX1_insert_64 ?_
          refine V_iload_n C0 1 rfl 1 rfl dX1_insert_67 ?_
          refine V_iload_n C0 2 rfl 2 rfl dX1_insert_68 ?_
          refine V_iast C0 (ln (a0 + 1)) (tF0 h_a0) rfl dX1_insert_69 (fun M4 => ?_)
          refine V_aload_n C0 0 rfl 0 rfl dX1_insert_70 ?_
          refine g1_25 C0 h_a0 dX1_insert_71 ?_
          refine V_iload_n C0 1 rfl 1 rfl dX1_insert_74 ?_
          refine V_iload_n C0 3 rfl 3 rfl dX1_insert_75 ?_
          refine V_iast C0 (ln (a0 + 2)) (tF1 h_a0) rfl dX1_insert_76 (fun M5 => ?_)
          refine V_aload_n C0 0 rfl 0 rfl dX1_insert_77 ?_
          refine V_dup C0 rfl dX1_insert_78 ?_
          refine g1_9 C0 h_a0 dX1_insert_79 ?_
          refine V_iconst C0 dX1_insert_82 ic_1 ?_
          refine V_iadd C0 dX1_insert_83 ?_
          refine p1_9 C0 h_a0 dX1_insert_84 (fun M6 => ?_)
          refine V_iconst C0 dX1_insert_87 ic_1 ?_
          exact V_zret C0 dX1_insert_88
        · refine V_iconst C0 dX1_insert_19 ic_0 ?_
          exact V_zret C0 dX1_insert_20)
