set_option maxRecDepth 100000 in
set_option maxHeartbeats 4000000 in
theorem mc_f_LP_append {G : GT} (l : Launch) (x1 : Int32) (M : Mem) (r : Int32) (M1 : Mem) (ho : f_LP_append x1 M = some (r, M1)) : MC l G yX6_append cX6_append 2 (some .int) 1 [.ref (G.2 + 0), .int x1] M (vI r) M1 :=
  MC.ofV (own := RX6) (lv := [(0, .ref (G.2 + 0)), (1, .int x1)]) (by decide +kernel) rfl rfl (Nat.le_of_ble_eq_true rfl) ho (fun X hX C0 => by
    unfold f_LP_append
    refine V_iload_n C0 1 rfl 1 rfl dX6_append_0 ?_
    refine V_iconst C0 dX6_append_1 ic_1 ?_
    refine V_icmplt C0 12 dX6_append_2 (by decide) (fun _ => ?_) (fun _ => ?_)
    · refine V_ldc C0 wk6_50 dX6_append_12 ?_
      exact V_iret C0 dX6_append_14
    · refine V_iload_n C0 1 rfl 1 rfl dX6_append_5 ?_
      refine V_sipush C0 dX6_append_6 sp_255 ?_
      refine V_icmple C0 15 dX6_append_9 (by decide) (fun _ => ?_) (fun _ => ?_)
      · refine V_aload_n C0 0 rfl 0 rfl dX6_append_15 ?_
        refine g6_12 C0 dX6_append_16 ?_
        refine V_iload_n C0 1 rfl 1 rfl dX6_append_19 ?_
        refine k6_51 C0 (by decide) (fun lq rq Mq hh => mc_f_Reader_take lq x1 M rq Mq  hh) (Nat.le_of_ble_eq_true rfl) dX6_append_20 (fun r1 M1 => ?_)
        refine V_ifeq C0 36 dX6_append_23 (by decide) (fun _ => ?_) (fun _ => ?_)
        · refine V_ldc C0 wk6_59 dX6_append_36 ?_
          exact V_iret C0 dX6_append_38
        · refine V_aload_n C0 0 rfl 0 rfl dX6_append_26 ?_
          refine g6_12 C0 dX6_append_27 ?_
          refine g6_55 C0 dX6_append_30 ?_
          refine V_goto C0 38 dX6_append_33 (by decide) ?_
          exact V_iret C0 dX6_append_38
      · refine V_ldc C0 wk6_50 dX6_append_12 ?_
        exact V_iret C0 dX6_append_14)
set_option maxRecDepth 100000 in
set_option maxHeartbeats 4000000 in
theorem mc_f_LP_arePlaces {G : GT} (l : Launch) (x0 : Int32) (M : Mem) (r : Int32) (M1 : Mem) (ho : f_LP_arePlaces x0 M = some (r, M1)) : MC l G yX6_arePlaces cX6_arePlaces 1 (some .boolean) 0 [.int x0] M (vI r) M1 :=
  MC.ofV (own := RX6) (lv := [(0, .int x0)]) (by decide +kernel) rfl rfl (Nat.le_of_ble_eq_true rfl) ho (fun X hX C0 => by
    unfold f_LP_arePlaces
    refine V_iload_n C0 0 rfl 0 rfl dX6_arePlaces_0 ?_
    refine V_iconst C0 dX6_arePlaces_1 ic_2 ?_
    refine V_icmplt C0 15 dX6_arePlaces_2 (by decide) (fun _ => ?_) (fun _ => ?_)
    · refine V_iconst C0 dX6_arePlaces_15 ic_0 ?_
      exact V_zret C0 dX6_arePlaces_16
    · refine V_iload_n C0 0 rfl 0 rfl dX6_arePlaces_5 ?_
      refine V_bipush C0 dX6_arePlaces_6 bp_8 ?_
      refine V_icmpgt C0 15 dX6_arePlaces_8 (by decide) (fun _ => ?_) (fun _ => ?_)
      · refine V_iconst C0 dX6_arePlaces_15 ic_0 ?_
        exact V_zret C0 dX6_arePlaces_16
      · refine V_iconst C0 dX6_arePlaces_11 ic_1 ?_
        refine V_goto C0 16 dX6_arePlaces_12 (by decide) ?_
        exact V_zret C0 dX6_arePlaces_16)
set_option maxRecDepth 100000 in
set_option maxHeartbeats 4000000 in
theorem mc_f_LP_isCell {G : GT} (l : Launch) (x0 : Int32) (M : Mem) (r : Int32) (M1 : Mem) (ho : f_LP_isCell x0 M = some (r, M1)) : MC l G yX6_isCell cX6_isCell 1 (some .boolean) 0 [.int x0] M (vI r) M1 :=
  MC.ofV (own := RX6) (lv := [(0, .int x0)]) (by decide +kernel) rfl rfl (Nat.le_of_ble_eq_true rfl) ho (fun X hX C0 => by
    unfold f_LP_isCell
    refine V_iload_n C0 0 rfl 0 rfl dX6_isCell_0 ?_
    refine V_iflt C0 14 dX6_isCell_1 (by decide) (fun _ => ?_) (fun _ => ?_)
    · refine V_iconst C0 dX6_isCell_14 ic_0 ?_
      exact V_zret C0 dX6_isCell_15
    · refine V_iload_n C0 0 rfl 0 rfl dX6_isCell_4 ?_
      refine V_bipush C0 dX6_isCell_5 bp_8 ?_
      refine V_icmpge C0 14 dX6_isCell_7 (by decide) (fun _ => ?_) (fun _ => ?_)
      · refine V_iconst C0 dX6_isCell_14 ic_0 ?_
        exact V_zret C0 dX6_isCell_15
      · refine V_iconst C0 dX6_isCell_10 ic_1 ?_
        refine V_goto C0 15 dX6_isCell_11 (by decide) ?_
        exact V_zret C0 dX6_isCell_15)
set_option maxRecDepth 100000 in
set_option maxHeartbeats 4000000 in
theorem mc_f_LP_cell {G : GT} (l : Launch) (x1 : Int32) (M : Mem) (r : Int32) (M1 : Mem) (ho : f_LP_cell x1 M = some (r, M1)) : MC l G yX6_cell cX6_cell 2 (some .int) 1 [.ref (G.2 + 0), .int x1] M (vI r) M1 :=
  MC.ofV (own := RX6) (lv := [(0, .ref (G.2 + 0)), (1, .int x1)]) (by decide +kernel) rfl rfl (Nat.le_of_ble_eq_true rfl) ho (fun X hX C0 => by
    unfold f_LP_cell
    refine V_iload_n C0 1 rfl 1 rfl dX6_cell_0 ?_
    refine k6_106 C0 (by decide) (fun lq rq Mq hh => mc_f_LP_isCell lq x1 M rq Mq  hh) (Nat.le_of_ble_eq_true rfl) dX6_cell_1 (fun r1 M1 => ?_)
    refine V_ifeq C0 19 dX6_cell_4 (by decide) (fun _ => ?_) (fun _ => ?_)
    · refine V_ldc C0 wk6_50 dX6_cell_19 ?_
      exact V_iret C0 dX6_cell_21
    · refine V_aload_n C0 0 rfl 0 rfl dX6_cell_7 ?_
      refine g6_19 C0 dX6_cell_8 ?_
      refine g6_109 C0 s24 dX6_cell_11 ?_
      refine V_iload_n C0 1 rfl 1 rfl dX6_cell_14 ?_
      refine V_iald C0 8 s26 n26 dX6_cell_15 ?_
      refine V_goto C0 21 dX6_cell_16 (by decide) ?_
      exact V_iret C0 dX6_cell_21)
set_option maxRecDepth 100000 in
set_option maxHeartbeats 4000000 in
theorem f_LP_cheapDefinitions_b4_ok {X : XT} {G : GT} (C0 : Cx X G cX6_cheapDefinitions 3 RX6 (some .int)) : ∀ (n : Nat) (x1 : Int32) (x2 : Int32) (M : Mem), V X G 0 vI 3 4 [(0, .ref (G.2 + 0)), (1, .int x1), (2, .int x2)] [] M (f_LP_cheapDefinitions_b4 n x1 x2 M) := by
  intro n
  induction n with
  | zero =>
    intros
    exact V_none
  | succ n ih =>
    intro x1 x2 M
    rw [f_LP_cheapDefinitions_b4]
    refine V_iload_n C0 2 rfl 2 rfl dX6_cheapDefinitions_4 ?_
    refine V_aload_n C0 0 rfl 0 rfl dX6_cheapDefinitions_5 ?_
    refine g6_19 C0 dX6_cheapDefinitions_6 ?_
    refine g6_80 C0 s24 dX6_cheapDefinitions_9 ?_
    refine V_icmpge C0 47 dX6_cheapDefinitions_12 (by decide) (fun _ => ?_) (fun _ => ?_)
    · refine V_iload_n C0 1 rfl 1 rfl dX6_cheapDefinitions_47 ?_
      exact V_iret C0 dX6_cheapDefinitions_48
    · refine V_iload_n C0 2 rfl 2 rfl dX6_cheapDefinitions_15 ?_
      refine V_bipush C0 dX6_cheapDefinitions_16 bp_6 ?_
      refine V_icmpge C0 47 dX6_cheapDefinitions_18 (by decide) (fun _ => ?_) (fun _ => ?_)
      · refine V_iload_n C0 1 rfl 1 rfl dX6_cheapDefinitions_47 ?_
        exact V_iret C0 dX6_cheapDefinitions_48
      · refine V_iload_n C0 1 rfl 1 rfl dX6_cheapDefinitions_21 ?_
        refine V_aload_n C0 0 rfl 0 rfl dX6_cheapDefinitions_22 ?_
        refine g6_29 C0 dX6_cheapDefinitions_23 ?_
        refine V_iload_n C0 2 rfl 2 rfl dX6_cheapDefinitions_26 ?_
        refine V_aaldE C0 dX6_cheapDefinitions_27 (fun q1 => ?_)
        refine g6_142 C0 q1 dX6_cheapDefinitions_28 ?_
        refine V_ifeq C0 38 dX6_cheapDefinitions_31 (by decide) (fun _ => ?_) (fun _ => ?_)
        · refine V_iconst C0 dX6_cheapDefinitions_38 ic_0 ?_
          refine V_iadd C0 dX6_cheapDefinitions_39 ?_
          refine V_bi (fun y2 => ?_)
          refine V_istore_n C0 1 [(1, .int y2), (0, .ref (G.2 + 0)), (2, .int x2)] rfl (by decide) rfl dX6_cheapDefinitions_40 ?_
          refine V_iincB C0 2 2 (fun y3 => [(2, .int y3), (1, .int y2), (0, .ref (G.2 + 0))]) rfl ic_1 (by decide) (fun _ => rfl) dX6_cheapDefinitions_41 (fun y3 => ?_)
          refine V_goto C0 4 dX6_cheapDefinitions_44 (by decide) ?_
          exact V_sub [2, 1, 0] rfl (ih y2 y3 M)
        · refine V_iconst C0 dX6_cheapDefinitions_34 ic_1 ?_
          refine V_goto C0 39 dX6_cheapDefinitions_35 (by decide) ?_
          refine V_iadd C0 dX6_cheapDefinitions_39 ?_
          refine V_bi (fun y4 => ?_)
          refine V_istore_n C0 1 [(1, .int y4), (0, .ref (G.2 + 0)), (2, .int x2)] rfl (by decide) rfl dX6_cheapDefinitions_40 ?_
          refine V_iincB C0 2 2 (fun y5 => [(2, .int y5), (1, .int y4), (0, .ref (G.2 + 0))]) rfl ic_1 (by decide) (fun _ => rfl) dX6_cheapDefinitions_41 (fun y5 => ?_)
          refine V_goto C0 4 dX6_cheapDefinitions_44 (by decide) ?_
          exact V_sub [2, 1, 0] rfl (ih y4 y5 M)
set_option maxRecDepth 100000 in
set_option maxHeartbeats 4000000 in
theorem mc_f_LP_cheapDefinitions {G : GT} (l : Launch) (M : Mem) (r : Int32) (M1 : Mem) (ho : f_LP_cheapDefinitions  M = some (r, M1)) : MC l G yX6_cheapDefinitions cX6_cheapDefinitions 3 (some .int) 0 [.ref (G.2 + 0)] M (vI r) M1 :=
  MC.ofV (own := RX6) (lv := [(0, .ref (G.2 + 0))]) (by decide +kernel) rfl rfl (Nat.le_of_ble_eq_true rfl) ho (fun X hX C0 => by
    unfold f_LP_cheapDefinitions
    refine V_iconst C0 dX6_cheapDefinitions_0 ic_0 ?_
    refine V_istore_n C0 1 [(1, .int 0), (0, .ref (G.2 + 0))] rfl (by decide) rfl dX6_cheapDefinitions_1 ?_
    refine V_iconst C0 dX6_cheapDefinitions_2 ic_0 ?_
    refine V_istore_n C0 2 [(2, .int 0), (1, .int 0), (0, .ref (G.2 + 0))] rfl (by decide) rfl dX6_cheapDefinitions_3 ?_
    exact V_sub [2, 1, 0] rfl (f_LP_cheapDefinitions_b4_ok C0 FU 0 0 M))
set_option maxRecDepth 100000 in
set_option maxHeartbeats 4000000 in
theorem mc_f_LP_clearText {G : GT} (l : Launch) (M : Mem) (r : Int32) (M1 : Mem) (ho : f_LP_clearText  M = some (r, M1)) : MC l G yX6_clearText cX6_clearText 2 (some .int) 0 [.ref (G.2 + 0)] M (vI r) M1 :=
  MC.ofV (own := RX6) (lv := [(0, .ref (G.2 + 0))]) (by decide +kernel) rfl rfl (Nat.le_of_ble_eq_true rfl) ho (fun X hX C0 => by
    unfold f_LP_clearText
    refine V_aload_n C0 0 rfl 0 rfl dX6_clearText_0 ?_
    refine g6_12 C0 dX6_clearText_1 ?_
    refine g6_55 C0 dX6_clearText_4 ?_
    refine V_bi (fun y1 => ?_)
    refine V_istore_n C0 1 [(1, .int y1), (0, .ref (G.2 + 0))] rfl (by decide) rfl dX6_clearText_7 ?_
    refine V_aload_n C0 0 rfl 1 rfl dX6_clearText_8 ?_
    refine g6_12 C0 dX6_clearText_9 ?_
    refine V_iconst C0 dX6_clearText_12 ic_0 ?_
    refine p6_55 C0 dX6_clearText_13 (fun M2 => ?_)
    refine V_iload_n C0 1 rfl 0 rfl dX6_clearText_16 ?_
    exact V_iret C0 dX6_clearText_17)
set_option maxRecDepth 100000 in
set_option maxHeartbeats 4000000 in
theorem mc_f_LP_costWith {G : GT} (l : Launch) (x1 : Int32) (M : Mem) (r : Int32) (M1 : Mem) (ho : f_LP_costWith x1 M = some (r, M1)) : MC l G yX6_costWith cX6_costWith 2 (some .int) 304 [.ref (G.2 + 0), .int x1] M (vI r) M1 :=
  MC.ofV (own := RX6) (lv := [(0, .ref (G.2 + 0)), (1, .int x1)]) (by decide +kernel) rfl rfl (Nat.le_of_ble_eq_true rfl) ho (fun X hX C0 => by
    unfold f_LP_costWith
    refine V_iload_n C0 1 rfl 1 rfl dX6_costWith_0 ?_
    refine k6_113 C0 (by decide) (fun lq rq Mq hh => mc_f_LP_arePlaces lq x1 M rq Mq  hh) (Nat.le_of_ble_eq_true rfl) dX6_costWith_1 (fun r1 M1 => ?_)
    refine V_ifne C0 10 dX6_costWith_4 (by decide) (fun _ => ?_) (fun _ => ?_)
    · refine V_aload_n C0 0 rfl 0 rfl dX6_costWith_10 ?_
      refine g6_36 C0 dX6_costWith_11 ?_
      refine V_aload_n C0 0 rfl 0 rfl dX6_costWith_14 ?_
      refine g6_29 C0 dX6_costWith_15 ?_
      refine V_aload_n C0 0 rfl 0 rfl dX6_costWith_18 ?_
      refine g6_19 C0 dX6_costWith_19 ?_
      refine g6_80 C0 s24 dX6_costWith_22 ?_
      refine V_iload_n C0 1 rfl 1 rfl dX6_costWith_25 ?_
      refine k6_168 C0 (by decide) (fun lq rq Mq hh => mc_f_Plan_make lq (M1.1 24 1) x1 M1 rq Mq  hh) (Nat.le_of_ble_eq_true rfl) dX6_costWith_26 (fun _ M2 => ?_)
      refine V_aload_n C0 0 rfl 0 rfl dX6_costWith_29 ?_
      refine g6_36 C0 dX6_costWith_30 ?_
      refine g6_173 C0 dX6_costWith_33 ?_
      exact V_iret C0 dX6_costWith_36
    · refine V_ldc C0 wk6_50 dX6_costWith_7 ?_
      exact V_iret C0 dX6_costWith_9)
set_option maxRecDepth 100000 in
set_option maxHeartbeats 4000000 in
theorem f_LP_nodesAsRead_b4_ok {X : XT} {G : GT} (C0 : Cx X G cX6_nodesAsRead 3 RX6 (some .int)) : ∀ (n : Nat) (x1 : Int32) (x2 : Int32) (M : Mem), V X G 0 vI 3 4 [(0, .ref (G.2 + 0)), (1, .int x1), (2, .int x2)] [] M (f_LP_nodesAsRead_b4 n x1 x2 M) := by
  intro n
  induction n with
  | zero =>
    intros
    exact V_none
  | succ n ih =>
    intro x1 x2 M
    rw [f_LP_nodesAsRead_b4]
    refine V_iload_n C0 2 rfl 2 rfl dX6_nodesAsRead_4 ?_
    refine V_aload_n C0 0 rfl 0 rfl dX6_nodesAsRead_5 ?_
    refine g6_19 C0 dX6_nodesAsRead_6 ?_
    refine g6_80 C0 s24 dX6_nodesAsRead_9 ?_
    refine V_icmpge C0 42 dX6_nodesAsRead_12 (by decide) (fun _ => ?_) (fun _ => ?_)
    · refine V_iload_n C0 1 rfl 1 rfl dX6_nodesAsRead_42 ?_
      exact V_iret C0 dX6_nodesAsRead_43
    · refine V_iload_n C0 2 rfl 2 rfl dX6_nodesAsRead_15 ?_
      refine V_bipush C0 dX6_nodesAsRead_16 bp_6 ?_
      refine V_icmpge C0 42 dX6_nodesAsRead_18 (by decide) (fun _ => ?_) (fun _ => ?_)
      · refine V_iload_n C0 1 rfl 1 rfl dX6_nodesAsRead_42 ?_
        exact V_iret C0 dX6_nodesAsRead_43
      · refine V_iload_n C0 1 rfl 1 rfl dX6_nodesAsRead_21 ?_
        refine V_aload_n C0 0 rfl 0 rfl dX6_nodesAsRead_22 ?_
        refine g6_19 C0 dX6_nodesAsRead_23 ?_
        refine g6_86 C0 s24 dX6_nodesAsRead_26 ?_
        refine V_iload_n C0 2 rfl 2 rfl dX6_nodesAsRead_29 ?_
        refine V_aaldF C0 27 s25 rfl dX6_nodesAsRead_30 (fun q1 => ?_)
        refine g6_135 C0 q1 dX6_nodesAsRead_31 ?_
        refine V_iadd C0 dX6_nodesAsRead_34 ?_
        refine V_bi (fun y2 => ?_)
        refine V_istore_n C0 1 [(1, .int y2), (0, .ref (G.2 + 0)), (2, .int x2)] rfl (by decide) rfl dX6_nodesAsRead_35 ?_
        refine V_iincB C0 2 2 (fun y3 => [(2, .int y3), (1, .int y2), (0, .ref (G.2 + 0))]) rfl ic_1 (by decide) (fun _ => rfl) dX6_nodesAsRead_36 (fun y3 => ?_)
        refine V_goto C0 4 dX6_nodesAsRead_39 (by decide) ?_
        exact V_sub [2, 1, 0] rfl (ih y2 y3 M)
set_option maxRecDepth 100000 in
set_option maxHeartbeats 4000000 in
theorem mc_f_LP_nodesAsRead {G : GT} (l : Launch) (M : Mem) (r : Int32) (M1 : Mem) (ho : f_LP_nodesAsRead  M = some (r, M1)) : MC l G yX6_nodesAsRead cX6_nodesAsRead 3 (some .int) 0 [.ref (G.2 + 0)] M (vI r) M1 :=
  MC.ofV (own := RX6) (lv := [(0, .ref (G.2 + 0))]) (by decide +kernel) rfl rfl (Nat.le_of_ble_eq_true rfl) ho (fun X hX C0 => by
    unfold f_LP_nodesAsRead
    refine V_iconst C0 dX6_nodesAsRead_0 ic_0 ?_
    refine V_istore_n C0 1 [(1, .int 0), (0, .ref (G.2 + 0))] rfl (by decide) rfl dX6_nodesAsRead_1 ?_
    refine V_iconst C0 dX6_nodesAsRead_2 ic_0 ?_
    refine V_istore_n C0 2 [(2, .int 0), (1, .int 0), (0, .ref (G.2 + 0))] rfl (by decide) rfl dX6_nodesAsRead_3 ?_
    exact V_sub [2, 1, 0] rfl (f_LP_nodesAsRead_b4_ok C0 FU 0 0 M))
set_option maxRecDepth 100000 in
set_option maxHeartbeats 4000000 in
theorem f_LP_greatestNeed_b4_ok {X : XT} {G : GT} (C0 : Cx X G cX6_greatestNeed 3 RX6 (some .int)) : ∀ (n : Nat) (x1 : Int32) (x2 : Int32) (M : Mem), V X G 2 vI 3 4 [(0, .ref (G.2 + 0)), (1, .int x1), (2, .int x2)] [] M (f_LP_greatestNeed_b4 n x1 x2 M) := by
  intro n
  induction n with
  | zero =>
    intros
    exact V_none
  | succ n ih =>
    intro x1 x2 M
    rw [f_LP_greatestNeed_b4]
    refine V_iload_n C0 2 rfl 2 rfl dX6_greatestNeed_4 ?_
    refine V_aload_n C0 0 rfl 0 rfl dX6_greatestNeed_5 ?_
    refine g6_19 C0 dX6_greatestNeed_6 ?_
    refine g6_80 C0 s24 dX6_greatestNeed_9 ?_
    refine V_icmpge C0 54 dX6_greatestNeed_12 (by decide) (fun _ => ?_) (fun _ => ?_)
    · refine V_iload_n C0 1 rfl 1 rfl dX6_greatestNeed_54 ?_
      exact V_iret C0 dX6_greatestNeed_55
    · refine V_iload_n C0 2 rfl 2 rfl dX6_greatestNeed_15 ?_
      refine V_bipush C0 dX6_greatestNeed_16 bp_6 ?_
      refine V_icmpge C0 54 dX6_greatestNeed_18 (by decide) (fun _ => ?_) (fun _ => ?_)
      · refine V_iload_n C0 1 rfl 1 rfl dX6_greatestNeed_54 ?_
        exact V_iret C0 dX6_greatestNeed_55
      · refine V_aload_n C0 0 rfl 0 rfl dX6_greatestNeed_21 ?_
        refine g6_29 C0 dX6_greatestNeed_22 ?_
        refine V_iload_n C0 2 rfl 2 rfl dX6_greatestNeed_25 ?_
        refine V_aaldE C0 dX6_greatestNeed_26 (fun q1 => ?_)
        refine g6_142 C0 q1 dX6_greatestNeed_27 ?_
        refine V_ifne C0 48 dX6_greatestNeed_30 (by decide) (fun _ => ?_) (fun _ => ?_)
        · refine V_iincB C0 2 2 (fun y2 => [(2, .int y2), (0, .ref (G.2 + 0)), (1, .int x1)]) rfl ic_1 (by decide) (fun _ => rfl) dX6_greatestNeed_48 (fun y2 => ?_)
          refine V_goto C0 4 dX6_greatestNeed_51 (by decide) ?_
          exact V_sub [1, 2, 0] rfl (ih x1 y2 M)
        · refine V_iload_n C0 1 rfl 1 rfl dX6_greatestNeed_33 ?_
          refine V_aload_n C0 0 rfl 0 rfl dX6_greatestNeed_34 ?_
          refine g6_29 C0 dX6_greatestNeed_35 ?_
          refine V_iload_n C0 2 rfl 2 rfl dX6_greatestNeed_38 ?_
          refine V_aaldE C0 dX6_greatestNeed_39 (fun q3 => ?_)
          refine V_iconst C0 dX6_greatestNeed_40 ic_0 ?_
          refine k6_103 C0 q3 (by decide) (fun lq rq Mq hh => mc_f_Expanded_needOf lq (160 + 8 * ix x2) 0 M rq Mq q3 hh) (Nat.le_of_ble_eq_true rfl) dX6_greatestNeed_41 (fun r4 M4 => ?_)
          refine V_mmax C0 wm6_220 wsM_max w0Math wcM_max (by decide) (Nat.le_of_ble_eq_true rfl) dX6_greatestNeed_44 ?_
          refine V_bi (fun y5 => ?_)
          refine V_istore_n C0 1 [(1, .int y5), (0, .ref (G.2 + 0)), (2, .int x2)] rfl (by decide) rfl dX6_greatestNeed_47 ?_
          refine V_iincB C0 2 2 (fun y6 => [(2, .int y6), (1, .int y5), (0, .ref (G.2 + 0))]) rfl ic_1 (by decide) (fun _ => rfl) dX6_greatestNeed_48 (fun y6 => ?_)
          refine V_goto C0 4 dX6_greatestNeed_51 (by decide) ?_
          exact V_sub [2, 1, 0] rfl (ih y5 y6 M4)
set_option maxRecDepth 100000 in
set_option maxHeartbeats 4000000 in
theorem mc_f_LP_greatestNeed {G : GT} (l : Launch) (M : Mem) (r : Int32) (M1 : Mem) (ho : f_LP_greatestNeed  M = some (r, M1)) : MC l G yX6_greatestNeed cX6_greatestNeed 3 (some .int) 2 [.ref (G.2 + 0)] M (vI r) M1 :=
  MC.ofV (own := RX6) (lv := [(0, .ref (G.2 + 0))]) (by decide +kernel) rfl rfl (Nat.le_of_ble_eq_true rfl) ho (fun X hX C0 => by
    unfold f_LP_greatestNeed
    refine V_iconst C0 dX6_greatestNeed_0 ic_0 ?_
    refine V_istore_n C0 1 [(1, .int 0), (0, .ref (G.2 + 0))] rfl (by decide) rfl dX6_greatestNeed_1 ?_
    refine V_iconst C0 dX6_greatestNeed_2 ic_0 ?_
    refine V_istore_n C0 2 [(2, .int 0), (1, .int 0), (0, .ref (G.2 + 0))] rfl (by decide) rfl dX6_greatestNeed_3 ?_
    exact V_sub [2, 1, 0] rfl (f_LP_greatestNeed_b4_ok C0 FU 0 0 M))
