set_option maxRecDepth 100000 in
set_option maxHeartbeats 4000000 in
theorem mc_f_Expanded_entry {G : GT} (l : Launch) (a0 : Nat) (x1 : Int32) (M : Mem) (r : Int32) (M1 : Mem) (h_a0 : (sh a0).1 = 10) (ho : f_Expanded_entry a0 x1 M = some (r, M1)) : MC l G yX0_entry cX0_entry 2 (some .int) 0 [.ref (G.2 + a0), .int x1] M (vI r) M1 :=
  MC.ofV (own := RX0) (lv := [(0, .ref (G.2 + a0)), (1, .int x1)]) (by decide +kernel) rfl rfl (Nat.le_of_ble_eq_true rfl) ho (fun X hX C0 => by
    unfold f_Expanded_entry
    refine V_iload_n C0 1 rfl 1 rfl dX0_entry_0 ?_
    refine V_iflt C0 16 dX0_entry_1 (by decide) (fun _ => ?_) (fun _ => ?_)
    · refine V_iconst C0 dX0_entry_16 ic_0 ?_
      exact V_iret C0 dX0_entry_17
    · refine V_iload_n C0 1 rfl 1 rfl dX0_entry_4 ?_
      refine V_aload_n C0 0 rfl 0 rfl dX0_entry_5 ?_
      refine V_alenI C0 (nI (ln a0)) h_a0 rfl dX0_entry_6 ?_
      refine V_icmpge C0 16 dX0_entry_7 (by decide) (fun _ => ?_) (fun _ => ?_)
      · refine V_iconst C0 dX0_entry_16 ic_0 ?_
        exact V_iret C0 dX0_entry_17
      · refine V_aload_n C0 0 rfl 0 rfl dX0_entry_10 ?_
        refine V_iload_n C0 1 rfl 1 rfl dX0_entry_11 ?_
        refine V_iald C0 (ln a0) h_a0 rfl dX0_entry_12 ?_
        refine V_goto C0 17 dX0_entry_13 (by decide) ?_
        exact V_iret C0 dX0_entry_17)
set_option maxRecDepth 100000 in
set_option maxHeartbeats 4000000 in
theorem mc_f_Expanded_depthOf {G : GT} (l : Launch) (a0 : Nat) (x1 : Int32) (M : Mem) (r : Int32) (M1 : Mem) (h_a0 : (sh a0).1 = 0) (ho : f_Expanded_depthOf a0 x1 M = some (r, M1)) : MC l G yX0_depthOf cX0_depthOf 2 (some .int) 1 [.ref (G.2 + a0), .int x1] M (vI r) M1 :=
  MC.ofV (own := RX0) (lv := [(0, .ref (G.2 + a0)), (1, .int x1)]) (by decide +kernel) rfl rfl (Nat.le_of_ble_eq_true rfl) ho (fun X hX C0 => by
    unfold f_Expanded_depthOf
    refine V_aload_n C0 0 rfl 0 rfl dX0_depthOf_0 ?_
    refine g0_27 C0 h_a0 dX0_depthOf_1 ?_
    refine V_iload_n C0 1 rfl 1 rfl dX0_depthOf_4 ?_
    refine k0_37 C0 (by decide) (fun lq rq Mq hh => mc_f_Expanded_entry lq (a0 + 6) x1 M rq Mq (tE5 h_a0) hh) (Nat.le_of_ble_eq_true rfl) dX0_depthOf_5 (fun r1 M1 => ?_)
    exact V_iret C0 dX0_depthOf_8)
set_option maxRecDepth 100000 in
set_option maxHeartbeats 4000000 in
theorem mc_f_Form_has {G : GT} (l : Launch) (a0 : Nat) (x1 : Int32) (M : Mem) (r : Int32) (M1 : Mem) (h_a0 : (sh a0).1 = 1) (ho : f_Form_has a0 x1 M = some (r, M1)) : MC l G yX1_has cX1_has 2 (some .boolean) 0 [.ref (G.2 + a0), .int x1] M (vI r) M1 :=
  MC.ofV (own := RX1) (lv := [(0, .ref (G.2 + a0)), (1, .int x1)]) (by decide +kernel) rfl rfl (Nat.le_of_ble_eq_true rfl) ho (fun X hX C0 => by
    unfold f_Form_has
    refine V_iload_n C0 1 rfl 1 rfl dX1_has_0 ?_
    refine V_iflt C0 34 dX1_has_1 (by decide) (fun _ => ?_) (fun _ => ?_)
    · refine V_iconst C0 dX1_has_34 ic_0 ?_
      exact V_zret C0 dX1_has_35
    · refine V_iload_n C0 1 rfl 1 rfl dX1_has_4 ?_
      refine V_aload_n C0 0 rfl 0 rfl dX1_has_5 ?_
      refine g1_9 C0 h_a0 dX1_has_6 ?_
      refine V_icmpge C0 34 dX1_has_9 (by decide) (fun _ => ?_) (fun _ => ?_)
      · refine V_iconst C0 dX1_has_34 ic_0 ?_
        exact V_zret C0 dX1_has_35
      · refine V_iload_n C0 1 rfl 1 rfl dX1_has_12 ?_
        refine V_aload_n C0 0 rfl 0 rfl dX1_has_13 ?_
        refine g1_21 C0 h_a0 dX1_has_14 ?_
        refine V_alenI C0 (nI (ln (a0 + 1))) (tF0 h_a0) rfl dX1_has_17 ?_
        refine V_icmpge C0 34 dX1_has_18 (by decide) (fun _ => ?_) (fun _ => ?_)
        · refine V_iconst C0 dX1_has_34 ic_0 ?_
          exact V_zret C0 dX1_has_35
        · refine V_iload_n C0 1 rfl 1 rfl dX1_has_21 ?_
          refine V_aload_n C0 0 rfl 0 rfl dX1_has_22 ?_
          refine g1_25 C0 h_a0 dX1_has_23 ?_
          refine V_alenI C0 (nI (ln (a0 + 2))) (tF1 h_a0) rfl dX1_has_26 ?_
          refine V_icmpge C0 34 dX1_has_27 (by decide) (fun _ => ?_) (fun _ => ?_)
          · refine V_iconst C0 dX1_has_34 ic_0 ?_
            exact V_zret C0 dX1_has_35
          · refine V_iconst C0 dX1_has_30 ic_1 ?_
            refine V_goto C0 35 dX1_has_31 (by decide) ?_
            exact V_zret C0 dX1_has_35)
set_option maxRecDepth 100000 in
set_option maxHeartbeats 4000000 in
theorem mc_f_Form_kindOf {G : GT} (l : Launch) (a0 : Nat) (x1 : Int32) (M : Mem) (r : Int32) (M1 : Mem) (h_a0 : (sh a0).1 = 1) (ho : f_Form_kindOf a0 x1 M = some (r, M1)) : MC l G yX1_kindOf cX1_kindOf 2 (some .int) 1 [.ref (G.2 + a0), .int x1] M (vI r) M1 :=
  MC.ofV (own := RX1) (lv := [(0, .ref (G.2 + a0)), (1, .int x1)]) (by decide +kernel) rfl rfl (Nat.le_of_ble_eq_true rfl) ho (fun X hX C0 => by
    unfold f_Form_kindOf
    refine V_aload_n C0 0 rfl 0 rfl dX1_kindOf_0 ?_
    refine V_iload_n C0 1 rfl 1 rfl dX1_kindOf_1 ?_
    refine k1_28 C0 h_a0 (by decide) (fun lq rq Mq hh => mc_f_Form_has lq a0 x1 M rq Mq h_a0 hh) (Nat.le_of_ble_eq_true rfl) dX1_kindOf_2 (fun r1 M1 => ?_)
    refine V_ifeq C0 17 dX1_kindOf_5 (by decide) (fun _ => ?_) (fun _ => ?_)
    · refine V_iconst C0 dX1_kindOf_17 ic_0 ?_
      exact V_iret C0 dX1_kindOf_18
    · refine V_aload_n C0 0 rfl 0 rfl dX1_kindOf_8 ?_
      refine g1_21 C0 h_a0 dX1_kindOf_9 ?_
      refine V_iload_n C0 1 rfl 1 rfl dX1_kindOf_12 ?_
      refine V_iald C0 (ln (a0 + 1)) (tF0 h_a0) rfl dX1_kindOf_13 ?_
      refine V_goto C0 18 dX1_kindOf_14 (by decide) ?_
      exact V_iret C0 dX1_kindOf_18)
set_option maxRecDepth 100000 in
set_option maxHeartbeats 4000000 in
theorem mc_f_Form_contentOf {G : GT} (l : Launch) (a0 : Nat) (x1 : Int32) (M : Mem) (r : Int32) (M1 : Mem) (h_a0 : (sh a0).1 = 1) (ho : f_Form_contentOf a0 x1 M = some (r, M1)) : MC l G yX1_contentOf cX1_contentOf 2 (some .int) 1 [.ref (G.2 + a0), .int x1] M (vI r) M1 :=
  MC.ofV (own := RX1) (lv := [(0, .ref (G.2 + a0)), (1, .int x1)]) (by decide +kernel) rfl rfl (Nat.le_of_ble_eq_true rfl) ho (fun X hX C0 => by
    unfold f_Form_contentOf
    refine V_aload_n C0 0 rfl 0 rfl dX1_contentOf_0 ?_
    refine V_iload_n C0 1 rfl 1 rfl dX1_contentOf_1 ?_
    refine k1_28 C0 h_a0 (by decide) (fun lq rq Mq hh => mc_f_Form_has lq a0 x1 M rq Mq h_a0 hh) (Nat.le_of_ble_eq_true rfl) dX1_contentOf_2 (fun r1 M1 => ?_)
    refine V_ifeq C0 17 dX1_contentOf_5 (by decide) (fun _ => ?_) (fun _ => ?_)
    · refine V_iconst C0 dX1_contentOf_17 ic_0 ?_
      exact V_iret C0 dX1_contentOf_18
    · refine V_aload_n C0 0 rfl 0 rfl dX1_contentOf_8 ?_
      refine g1_25 C0 h_a0 dX1_contentOf_9 ?_
      refine V_iload_n C0 1 rfl 1 rfl dX1_contentOf_12 ?_
      refine V_iald C0 (ln (a0 + 2)) (tF1 h_a0) rfl dX1_contentOf_13 ?_
      refine V_goto C0 18 dX1_contentOf_14 (by decide) ?_
      exact V_iret C0 dX1_contentOf_18)
set_option maxRecDepth 100000 in
set_option maxHeartbeats 4000000 in
theorem mc_f_Expanded_valueOf {G : GT} (l : Launch) (a0 : Nat) (x1 : Int32) (M : Mem) (r : Int32) (M1 : Mem) (h_a0 : (sh a0).1 = 0) (ho : f_Expanded_valueOf a0 x1 M = some (r, M1)) : MC l G yX0_valueOf cX0_valueOf 2 (some .int) 1 [.ref (G.2 + a0), .int x1] M (vI r) M1 :=
  MC.ofV (own := RX0) (lv := [(0, .ref (G.2 + a0)), (1, .int x1)]) (by decide +kernel) rfl rfl (Nat.le_of_ble_eq_true rfl) ho (fun X hX C0 => by
    unfold f_Expanded_valueOf
    refine V_aload_n C0 0 rfl 0 rfl dX0_valueOf_0 ?_
    refine g0_30 C0 h_a0 dX0_valueOf_1 ?_
    refine V_iload_n C0 1 rfl 1 rfl dX0_valueOf_4 ?_
    refine k0_37 C0 (by decide) (fun lq rq Mq hh => mc_f_Expanded_entry lq (a0 + 7) x1 M rq Mq (tE6 h_a0) hh) (Nat.le_of_ble_eq_true rfl) dX0_valueOf_5 (fun r1 M1 => ?_)
    exact V_iret C0 dX0_valueOf_8)
set_option maxRecDepth 100000 in
set_option maxHeartbeats 4000000 in
theorem mc_f_Expanded_leafValue {G : GT} (l : Launch) (a0 : Nat) (x1 : Int32) (a2 : Nat) (M : Mem) (r : Int32) (M1 : Mem) (h_a0 : (sh a0).1 = 0) (h_a2 : (sh a2).1 = 10) (ho : f_Expanded_leafValue a0 x1 a2 M = some (r, M1)) : MC l G yX0_leafValue cX0_leafValue 6 (some .int) 2 [.ref (G.2 + a0), .int x1, .ref (G.2 + a2), .ref (G.2 + 46)] M (vI r) M1 :=
  MC.ofV (own := RX0) (lv := [(0, .ref (G.2 + a0)), (1, .int x1), (2, .ref (G.2 + a2)), (3, .ref (G.2 + 46))]) (by decide +kernel) rfl rfl (Nat.le_of_ble_eq_true rfl) ho (fun X hX C0 => by
    unfold f_Expanded_leafValue
    refine V_aload_n C0 0 rfl 0 rfl dX0_leafValue_0 ?_
    refine g0_14 C0 h_a0 dX0_leafValue_1 ?_
    refine V_iload_n C0 1 rfl 1 rfl dX0_leafValue_4 ?_
    refine k0_48 C0 (tE1 h_a0) (by decide) (fun lq rq Mq hh => mc_f_Form_kindOf lq (a0 + 1) x1 M rq Mq (tE1 h_a0) hh) (Nat.le_of_ble_eq_true rfl) dX0_leafValue_5 (fun r1 M1 => ?_)
    refine V_istore C0 4 [(4, .int r1), (0, .ref (G.2 + a0)), (1, .int x1), (2, .ref (G.2 + a2)), (3, .ref (G.2 + 46))] (by decide) rfl dX0_leafValue_8 ?_
    refine V_aload_n C0 0 rfl 1 rfl dX0_leafValue_10 ?_
    refine g0_14 C0 h_a0 dX0_leafValue_11 ?_
    refine V_iload_n C0 1 rfl 2 rfl dX0_leafValue_14 ?_
    refine k0_54 C0 (tE1 h_a0) (by decide) (fun lq rq Mq hh => mc_f_Form_contentOf lq (a0 + 1) x1 M1 rq Mq (tE1 h_a0) hh) (Nat.le_of_ble_eq_true rfl) dX0_leafValue_15 (fun r2 M2 => ?_)
    refine V_istore C0 5 [(5, .int r2), (4, .int r1), (0, .ref (G.2 + a0)), (1, .int x1), (2, .ref (G.2 + a2)), (3, .ref (G.2 + 46))] (by decide) rfl dX0_leafValue_18 ?_
    refine V_iload C0 4 1 rfl dX0_leafValue_20 ?_
    refine V_iconst C0 dX0_leafValue_22 ic_1 ?_
    refine V_icmpne C0 33 dX0_leafValue_23 (by decide) (fun _ => ?_) (fun _ => ?_)
    · refine V_iload C0 4 1 rfl dX0_leafValue_33 ?_
      refine V_iconst C0 dX0_leafValue_35 ic_2 ?_
      refine V_icmpne C0 64 dX0_leafValue_36 (by decide) (fun _ => ?_) (fun _ => ?_)
      · refine V_iload C0 5 0 rfl dX0_leafValue_64 ?_
        exact V_iret C0 dX0_leafValue_66
      · refine V_iload C0 5 0 rfl dX0_leafValue_39 ?_
        refine V_iflt C0 62 dX0_leafValue_41 (by decide) (fun _ => ?_) (fun _ => ?_)
        · refine V_iconst C0 dX0_leafValue_62 ic_0 ?_
          exact V_iret C0 dX0_leafValue_63
        · refine V_iload C0 5 0 rfl dX0_leafValue_44 ?_
          refine V_aload_n C0 3 rfl 5 rfl dX0_leafValue_46 ?_
          refine V_alenE C0 6 s46 m46 dX0_leafValue_47 ?_
          refine V_icmpge C0 62 dX0_leafValue_48 (by decide) (fun _ => ?_) (fun _ => ?_)
          · refine V_iconst C0 dX0_leafValue_62 ic_0 ?_
            exact V_iret C0 dX0_leafValue_63
          · refine V_aload_n C0 3 rfl 5 rfl dX0_leafValue_51 ?_
            refine V_iload C0 5 0 rfl dX0_leafValue_52 ?_
            refine V_aaldE C0 dX0_leafValue_54 (fun q3 => ?_)
            refine V_iconst C0 dX0_leafValue_55 ic_0 ?_
            refine k0_93 C0 q3 (by decide) (fun lq rq Mq hh => mc_f_Expanded_valueOf lq (160 + 8 * ix r2) 0 M2 rq Mq q3 hh) (Nat.le_of_ble_eq_true rfl) dX0_leafValue_56 (fun r4 M4 => ?_)
            refine V_goto C0 63 dX0_leafValue_59 (by decide) ?_
            exact V_iret C0 dX0_leafValue_63
    · refine V_aload_n C0 2 rfl 4 rfl dX0_leafValue_26 ?_
      refine V_iload C0 5 0 rfl dX0_leafValue_27 ?_
      refine k0_37 C0 (by decide) (fun lq rq Mq hh => mc_f_Expanded_entry lq a2 r2 M2 rq Mq h_a2 hh) (Nat.le_of_ble_eq_true rfl) dX0_leafValue_29 (fun r5 M5 => ?_)
      exact V_iret C0 dX0_leafValue_32)
set_option maxRecDepth 100000 in
set_option maxHeartbeats 4000000 in
theorem mc_f_Form_isFull {G : GT} (l : Launch) (a0 : Nat) (M : Mem) (r : Int32) (M1 : Mem) (h_a0 : (sh a0).1 = 1) (ho : f_Form_isFull a0 M = some (r, M1)) : MC l G yX1_isFull cX1_isFull 1 (some .boolean) 0 [.ref (G.2 + a0)] M (vI r) M1 :=
  MC.ofV (own := RX1) (lv := [(0, .ref (G.2 + a0))]) (by decide +kernel) rfl rfl (Nat.le_of_ble_eq_true rfl) ho (fun X hX C0 => by
    unfold f_Form_isFull
    refine V_aload_n C0 0 rfl 0 rfl dX1_isFull_0 ?_
    refine g1_9 C0 h_a0 dX1_isFull_1 ?_
    refine V_aload_n C0 0 rfl 0 rfl dX1_isFull_4 ?_
    refine g1_21 C0 h_a0 dX1_isFull_5 ?_
    refine V_alenI C0 (nI (ln (a0 + 1))) (tF0 h_a0) rfl dX1_isFull_8 ?_
    refine V_icmpge C0 24 dX1_isFull_9 (by decide) (fun _ => ?_) (fun _ => ?_)
    · refine V_iconst C0 dX1_isFull_24 ic_1 ?_
      refine V_goto C0 29 dX1_isFull_25 (by decide) ?_
      exact V_zret C0 dX1_isFull_29
    · refine V_aload_n C0 0 rfl 0 rfl dX1_isFull_12 ?_
      refine g1_9 C0 h_a0 dX1_isFull_13 ?_
      refine V_aload_n C0 0 rfl 0 rfl dX1_isFull_16 ?_
      refine g1_25 C0 h_a0 dX1_isFull_17 ?_
      refine V_alenI C0 (nI (ln (a0 + 2))) (tF1 h_a0) rfl dX1_isFull_20 ?_
      refine V_icmplt C0 28 dX1_isFull_21 (by decide) (fun _ => ?_) (fun _ => ?_)
      · refine V_iconst C0 dX1_isFull_28 ic_0 ?_
        exact V_zret C0 dX1_isFull_29
      · refine V_iconst C0 dX1_isFull_24 ic_1 ?_
        refine V_goto C0 29 dX1_isFull_25 (by decide) ?_
        exact V_zret C0 dX1_isFull_29)
set_option maxRecDepth 100000 in
set_option maxHeartbeats 4000000 in
theorem mc_f_Form_add {G : GT} (l : Launch) (a0 : Nat) (x1 : Int32) (x2 : Int32) (M : Mem) (r : Int32) (M1 : Mem) (h_a0 : (sh a0).1 = 1) (ho : f_Form_add a0 x1 x2 M = some (r, M1)) : MC l G yX1_add cX1_add 3 (some .boolean) 1 [.ref (G.2 + a0), .int x1, .int x2] M (vI r) M1 :=
  MC.ofV (own := RX1) (lv := [(0, .ref (G.2 + a0)), (1, .int x1), (2, .int x2)]) (by decide +kernel) rfl rfl (Nat.le_of_ble_eq_true rfl) ho (fun X hX C0 => by
    unfold f_Form_add
    refine V_aload_n C0 0 rfl 0 rfl dX1_add_0 ?_
    refine k1_36 C0 h_a0 (by decide) (fun lq rq Mq hh => mc_f_Form_isFull lq a0 M rq Mq h_a0 hh) (Nat.le_of_ble_eq_true rfl) dX1_add_1 (fun r1 M1 => ?_)
    refine V_ifeq C0 9 dX1_add_4 (by decide) (fun _ => ?_) (fun _ => ?_)
    · refine V_aload_n C0 0 rfl 0 rfl dX1_add_9 ?_
      refine g1_21 C0 h_a0 dX1_add_10 ?_
      refine V_aload_n C0 0 rfl 0 rfl dX1_add_13 ?_
      refine g1_9 C0 h_a0 dX1_add_14 ?_
      refine V_iload_n C0 1 rfl 1 rfl dX1_add_17 ?_
      refine V_iast C0 (ln (a0 + 1)) (tF0 h_a0) rfl dX1_add_18 (fun M2 => ?_)
      refine V_aload_n C0 0 rfl 0 rfl dX1_add_19 ?_
      refine g1_25 C0 h_a0 dX1_add_20 ?_
      refine V_aload_n C0 0 rfl 0 rfl dX1_add_23 ?_
      refine g1_9 C0 h_a0 dX1_add_24 ?_
      refine V_iload_n C0 2 rfl 2 rfl dX1_add_27 ?_
      refine V_iast C0 (ln (a0 + 2)) (tF1 h_a0) rfl dX1_add_28 (fun M3 => ?_)
      refine V_aload_n C0 0 rfl 0 rfl dX1_add_29 ?_
      refine V_dup C0 rfl dX1_add_30 ?_
      refine g1_9 C0 h_a0 dX1_add_31 ?_
      refine V_iconst C0 dX1_add_34 ic_1 ?_
      refine V_iadd C0 dX1_add_35 ?_
      refine p1_9 C0 h_a0 dX1_add_36 (fun M4 => ?_)
      refine V_iconst C0 dX1_add_39 ic_1 ?_
      exact V_zret C0 dX1_add_40
    · refine V_iconst C0 dX1_add_7 ic_0 ?_
      exact V_zret C0 dX1_add_8)
set_option maxRecDepth 100000 in
set_option maxHeartbeats 4000000 in
theorem f_Form_addAll_b7_ok {X : XT} {G : GT} (C0 : Cx X G cX1_addAll 4 RX1 none) : ∀ (n : Nat) (a0 : Nat) (a1 : Nat) (x2 : Int32) (x3 : Int32) (M : Mem), (sh a0).1 = 1 → (sh a1).1 = 1 → V X G 2 vU 4 7 [(0, .ref (G.2 + a0)), (1, .ref (G.2 + a1)), (2, .int x2), (3, .int x3)] [] M (f_Form_addAll_b7 n a0 a1 x2 x3 M) := by
  intro n
  induction n with
  | zero =>
    intros
    exact V_none
  | succ n ih =>
    intro a0 a1 x2 x3 M h_a0 h_a1
    rw [f_Form_addAll_b7]
    refine V_iload_n C0 3 rfl 3 rfl dX1_addAll_7 ?_
    refine V_iload_n C0 2 rfl 2 rfl dX1_addAll_8 ?_
    refine V_icmpge C0 33 dX1_addAll_9 (by decide) (fun _ => ?_) (fun _ => ?_)
    · exact V_vret C0 dX1_addAll_33
    · refine V_aload_n C0 0 rfl 0 rfl dX1_addAll_12 ?_
      refine V_aload_n C0 1 rfl 1 rfl dX1_addAll_13 ?_
      refine V_iload_n C0 3 rfl 3 rfl dX1_addAll_14 ?_
      refine k1_32 C0 h_a1 (by decide) (fun lq rq Mq hh => mc_f_Form_kindOf lq a1 x3 M rq Mq h_a1 hh) (Nat.le_of_ble_eq_true rfl) dX1_addAll_15 (fun r1 M1 => ?_)
      refine V_aload_n C0 1 rfl 1 rfl dX1_addAll_18 ?_
      refine V_iload_n C0 3 rfl 3 rfl dX1_addAll_19 ?_
      refine k1_46 C0 h_a1 (by decide) (fun lq rq Mq hh => mc_f_Form_contentOf lq a1 x3 M1 rq Mq h_a1 hh) (Nat.le_of_ble_eq_true rfl) dX1_addAll_20 (fun r2 M2 => ?_)
      refine k1_49 C0 h_a0 (by decide) (fun lq rq Mq hh => mc_f_Form_add lq a0 r1 r2 M2 rq Mq h_a0 hh) (Nat.le_of_ble_eq_true rfl) dX1_addAll_23 (fun r3 M3 => ?_)
      refine V_pop C0 rfl dX1_addAll_26 ?_
      refine V_iincB C0 3 3 (fun y4 => [(3, .int y4), (0, .ref (G.2 + a0)), (1, .ref (G.2 + a1)), (2, .int x2)]) rfl ic_1 (by decide) (fun _ => rfl) dX1_addAll_27 (fun y4 => ?_)
      refine V_goto C0 7 dX1_addAll_30 (by decide) ?_
      exact V_sub [1, 2, 3, 0] rfl (ih a0 a1 x2 y4 M3 h_a0 h_a1)
set_option maxRecDepth 100000 in
set_option maxHeartbeats 4000000 in
theorem mc_f_Form_addAll {G : GT} (l : Launch) (a0 : Nat) (a1 : Nat) (M : Mem) (r : Unit) (M1 : Mem) (h_a0 : (sh a0).1 = 1) (h_a1 : (sh a1).1 = 1) (ho : f_Form_addAll a0 a1 M = some (r, M1)) : MC l G yX1_addAll cX1_addAll 4 none 2 [.ref (G.2 + a0), .ref (G.2 + a1)] M (vU r) M1 :=
  MC.ofV (own := RX1) (lv := [(0, .ref (G.2 + a0)), (1, .ref (G.2 + a1))]) (by decide +kernel) rfl rfl (Nat.le_of_ble_eq_true rfl) ho (fun X hX C0 => by
    unfold f_Form_addAll
    refine V_aload_n C0 1 rfl 1 rfl dX1_addAll_0 ?_
    refine g1_9 C0 h_a1 dX1_addAll_1 ?_
    refine V_bi (fun y1 => ?_)
    refine V_istore_n C0 2 [(2, .int y1), (0, .ref (G.2 + a0)), (1, .ref (G.2 + a1))] rfl (by decide) rfl dX1_addAll_4 ?_
    refine V_iconst C0 dX1_addAll_5 ic_0 ?_
    refine V_istore_n C0 3 [(3, .int 0), (2, .int y1), (0, .ref (G.2 + a0)), (1, .ref (G.2 + a1))] rfl (by decide) rfl dX1_addAll_6 ?_
    exact V_sub [2, 3, 1, 0] rfl (f_Form_addAll_b7_ok C0 FU a0 a1 y1 0 M h_a0 h_a1))
set_option maxRecDepth 100000 in
set_option maxHeartbeats 4000000 in
theorem f_Form_hasKind_b2_ok {X : XT} {G : GT} (C0 : Cx X G cX1_hasKind 3 RX1 (some .boolean)) : ∀ (n : Nat) (a0 : Nat) (x1 : Int32) (x2 : Int32) (M : Mem), (sh a0).1 = 1 → V X G 2 vI 3 2 [(0, .ref (G.2 + a0)), (1, .int x1), (2, .int x2)] [] M (f_Form_hasKind_b2 n a0 x1 x2 M) := by
  intro n
  induction n with
  | zero =>
    intros
    exact V_none
  | succ n ih =>
    intro a0 x1 x2 M h_a0
    rw [f_Form_hasKind_b2]
    refine V_iload_n C0 2 rfl 2 rfl dX1_hasKind_2 ?_
    refine V_aload_n C0 0 rfl 0 rfl dX1_hasKind_3 ?_
    refine g1_9 C0 h_a0 dX1_hasKind_4 ?_
    refine V_icmpge C0 27 dX1_hasKind_7 (by decide) (fun _ => ?_) (fun _ => ?_)
    · refine V_iconst C0 dX1_hasKind_27 ic_0 ?_
      exact V_zret C0 dX1_hasKind_28
    · refine V_aload_n C0 0 rfl 0 rfl dX1_hasKind_10 ?_
      refine V_iload_n C0 2 rfl 2 rfl dX1_hasKind_11 ?_
      refine k1_32 C0 h_a0 (by decide) (fun lq rq Mq hh => mc_f_Form_kindOf lq a0 x2 M rq Mq h_a0 hh) (Nat.le_of_ble_eq_true rfl) dX1_hasKind_12 (fun r1 M1 => ?_)
      refine V_iload_n C0 1 rfl 1 rfl dX1_hasKind_15 ?_
      refine V_icmpne C0 21 dX1_hasKind_16 (by decide) (fun _ => ?_) (fun _ => ?_)
      · refine V_iincB C0 2 2 (fun y2 => [(2, .int y2), (0, .ref (G.2 + a0)), (1, .int x1)]) rfl ic_1 (by decide) (fun _ => rfl) dX1_hasKind_21 (fun y2 => ?_)
        refine V_goto C0 2 dX1_hasKind_24 (by decide) ?_
        exact V_sub [1, 2, 0] rfl (ih a0 x1 y2 M1 h_a0)
      · refine V_iconst C0 dX1_hasKind_19 ic_1 ?_
        exact V_zret C0 dX1_hasKind_20
set_option maxRecDepth 100000 in
set_option maxHeartbeats 4000000 in
theorem mc_f_Form_hasKind {G : GT} (l : Launch) (a0 : Nat) (x1 : Int32) (M : Mem) (r : Int32) (M1 : Mem) (h_a0 : (sh a0).1 = 1) (ho : f_Form_hasKind a0 x1 M = some (r, M1)) : MC l G yX1_hasKind cX1_hasKind 3 (some .boolean) 2 [.ref (G.2 + a0), .int x1] M (vI r) M1 :=
  MC.ofV (own := RX1) (lv := [(0, .ref (G.2 + a0)), (1, .int x1)]) (by decide +kernel) rfl rfl (Nat.le_of_ble_eq_true rfl) ho (fun X hX C0 => by
    unfold f_Form_hasKind
    refine V_iconst C0 dX1_hasKind_0 ic_0 ?_
    refine V_istore_n C0 2 [(2, .int 0), (0, .ref (G.2 + a0)), (1, .int x1)] rfl (by decide) rfl dX1_hasKind_1 ?_
    exact V_sub [1, 2, 0] rfl (f_Form_hasKind_b2_ok C0 FU a0 x1 0 M h_a0))
set_option maxRecDepth 100000 in
set_option maxHeartbeats 4000000 in
theorem f_Expanded_make_b98_ok {X : XT} {G : GT} (C0 : Cx X G cX0_make 7 RX0 none) (k11 : Nat → Nat → Int32 → Int32 → Mem → Option (Unit × Mem)) (hk11 : ∀ (a0 : Nat) (a1 : Nat) (x2 : Int32) (x4 : Int32) (M : Mem), (sh a0).1 = 0 → (sh a1).1 = 1 → V X G 3 vU 7 11 [(0, .ref (G.2 + a0)), (1, .ref (G.2 + a1)), (2, .int x2), (3, .ref (G.2 + 46)), (4, .int x4)] [] M (k11 a0 a1 x2 x4 M)) (a0 : Nat) (a1 : Nat) (x2 : Int32) (x4 : Int32) (x5 : Int32) (M : Mem) (h_a0 : (sh a0).1 = 0) (h_a1 : (sh a1).1 = 1) : V X G 3 vU 7 98 [(0, .ref (G.2 + a0)), (1, .ref (G.2 + a1)), (2, .int x2), (3, .ref (G.2 + 46)), (4, .int x4), (5, .int x5)] [] M (f_Expanded_make_b98 k11 a0 a1 x2 x4 x5 M) := by
  unfold f_Expanded_make_b98
  refine V_aload_n C0 0 rfl 0 rfl dX0_make_98 ?_
  refine g0_14 C0 h_a0 dX0_make_99 ?_
  refine V_aload_n C0 1 rfl 1 rfl dX0_make_102 ?_
  refine V_iload C0 4 4 rfl dX0_make_103 ?_
  refine k0_48 C0 h_a1 (by decide) (fun lq rq Mq hh => mc_f_Form_kindOf lq a1 x4 M rq Mq h_a1 hh) (Nat.le_of_ble_eq_true rfl) dX0_make_105 (fun r1 M1 => ?_)
  refine V_iload C0 5 5 rfl dX0_make_108 ?_
  refine k0_65 C0 (tE1 h_a0) (by decide) (fun lq rq Mq hh => mc_f_Form_add lq (a0 + 1) r1 x5 M1 rq Mq (tE1 h_a0) hh) (Nat.le_of_ble_eq_true rfl) dX0_make_110 (fun r2 M2 => ?_)
  refine V_pop C0 rfl dX0_make_113 ?_
  refine V_iincB C0 4 4 (fun y3 => [(4, .int y3), (0, .ref (G.2 + a0)), (1, .ref (G.2 + a1)), (2, .int x2), (3, .ref (G.2 + 46)), (5, .int x5)]) rfl ic_1 (by decide) (fun _ => rfl) dX0_make_114 (fun y3 => ?_)
  refine V_goto C0 11 dX0_make_117 (by decide) ?_
  exact V_sub [1, 2, 3, 4, 0] rfl (hk11 a0 a1 x2 y3 M2 h_a0 h_a1)
set_option maxRecDepth 100000 in
set_option maxHeartbeats 4000000 in
theorem f_Expanded_make_b43_ok {X : XT} {G : GT} (C0 : Cx X G cX0_make 7 RX0 none) (k11 : Nat → Nat → Int32 → Int32 → Mem → Option (Unit × Mem)) (hk11 : ∀ (a0 : Nat) (a1 : Nat) (x2 : Int32) (x4 : Int32) (M : Mem), (sh a0).1 = 0 → (sh a1).1 = 1 → V X G 3 vU 7 11 [(0, .ref (G.2 + a0)), (1, .ref (G.2 + a1)), (2, .int x2), (3, .ref (G.2 + 46)), (4, .int x4)] [] M (k11 a0 a1 x2 x4 M)) (a0 : Nat) (a1 : Nat) (x2 : Int32) (x4 : Int32) (x5 : Int32) (t0 : Int32) (M : Mem) (h_a0 : (sh a0).1 = 0) (h_a1 : (sh a1).1 = 1) : V X G 3 vU 7 43 [(0, .ref (G.2 + a0)), (1, .ref (G.2 + a1)), (2, .int x2), (3, .ref (G.2 + 46)), (4, .int x4), (5, .int x5)] [.int t0] M (f_Expanded_make_b43 k11 a0 a1 x2 x4 x5 t0 M) := by
  unfold f_Expanded_make_b43
  refine V_istore C0 6 [(6, .int t0), (0, .ref (G.2 + a0)), (1, .ref (G.2 + a1)), (2, .int x2), (3, .ref (G.2 + 46)), (4, .int x4), (5, .int x5)] (by decide) rfl dX0_make_43 ?_
  refine V_iload C0 6 0 rfl dX0_make_45 ?_
  refine V_ifeq C0 98 dX0_make_47 (by decide) (fun _ => ?_) (fun _ => ?_)
  · exact V_sub [1, 2, 3, 4, 5, 6] rfl (f_Expanded_make_b98_ok C0 k11 hk11 a0 a1 x2 x4 x5 M h_a0 h_a1)
  · refine V_iload C0 5 6 rfl dX0_make_50 ?_
    refine V_iflt C0 98 dX0_make_52 (by decide) (fun _ => ?_) (fun _ => ?_)
    · exact V_sub [1, 2, 3, 4, 5, 6] rfl (f_Expanded_make_b98_ok C0 k11 hk11 a0 a1 x2 x4 x5 M h_a0 h_a1)
    · refine V_iload C0 5 6 rfl dX0_make_55 ?_
      refine V_aload_n C0 0 rfl 1 rfl dX0_make_57 ?_
      refine g0_33 C0 h_a0 dX0_make_58 ?_
      refine V_icmpge C0 98 dX0_make_61 (by decide) (fun _ => ?_) (fun _ => ?_)
      · exact V_sub [1, 2, 3, 4, 5, 6] rfl (f_Expanded_make_b98_ok C0 k11 hk11 a0 a1 x2 x4 x5 M h_a0 h_a1)
      · refine V_iload C0 5 6 rfl dX0_make_64 ?_
        refine V_aload_n C0 3 rfl 4 rfl dX0_make_66 ?_
        refine V_alenE C0 6 s46 m46 dX0_make_67 ?_
        refine V_icmpge C0 98 dX0_make_68 (by decide) (fun _ => ?_) (fun _ => ?_)
        · exact V_sub [1, 2, 3, 4, 5, 6] rfl (f_Expanded_make_b98_ok C0 k11 hk11 a0 a1 x2 x4 x5 M h_a0 h_a1)
        · refine V_aload_n C0 3 rfl 4 rfl dX0_make_71 ?_
          refine V_iload C0 5 6 rfl dX0_make_72 ?_
          refine V_aaldE C0 dX0_make_74 (fun q1 => ?_)
          refine g0_57 C0 q1 dX0_make_75 ?_
          refine V_ifeq C0 98 dX0_make_78 (by decide) (fun _ => ?_) (fun _ => ?_)
          · exact V_sub [1, 2, 3, 4, 5, 6] rfl (f_Expanded_make_b98_ok C0 k11 hk11 a0 a1 x2 x4 x5 M h_a0 h_a1)
          · refine V_aload_n C0 0 rfl 1 rfl dX0_make_81 ?_
            refine g0_14 C0 h_a0 dX0_make_82 ?_
            refine V_aload_n C0 3 rfl 4 rfl dX0_make_85 ?_
            refine V_iload C0 5 6 rfl dX0_make_86 ?_
            refine V_aaldE C0 dX0_make_88 (fun q2 => ?_)
            refine g0_14 C0 q2 dX0_make_89 ?_
            refine k0_61 C0 (tE1 h_a0) (by decide) (fun lq rq Mq hh => mc_f_Form_addAll lq (a0 + 1) ((160 + 8 * ix x5) + 1) M rq Mq (tE1 h_a0) (tE1 q2) hh) (Nat.le_of_ble_eq_true rfl) dX0_make_92 (fun _ M3 => ?_)
            refine V_goto C0 114 dX0_make_95 (by decide) ?_
            refine V_iincB C0 4 5 (fun y4 => [(4, .int y4), (6, .int t0), (0, .ref (G.2 + a0)), (1, .ref (G.2 + a1)), (2, .int x2), (3, .ref (G.2 + 46)), (5, .int x5)]) rfl ic_1 (by decide) (fun _ => rfl) dX0_make_114 (fun y4 => ?_)
            refine V_goto C0 11 dX0_make_117 (by decide) ?_
            exact V_sub [2, 3, 4, 5, 0] rfl (hk11 a0 a1 x2 y4 M3 h_a0 h_a1)
set_option maxRecDepth 100000 in
set_option maxHeartbeats 4000000 in
theorem f_Expanded_make_b11_ok {X : XT} {G : GT} (C0 : Cx X G cX0_make 7 RX0 none) : ∀ (n : Nat) (a0 : Nat) (a1 : Nat) (x2 : Int32) (x4 : Int32) (M : Mem), (sh a0).1 = 0 → (sh a1).1 = 1 → V X G 3 vU 7 11 [(0, .ref (G.2 + a0)), (1, .ref (G.2 + a1)), (2, .int x2), (3, .ref (G.2 + 46)), (4, .int x4)] [] M (f_Expanded_make_b11 n a0 a1 x2 x4 M) := by
  intro n
  induction n with
  | zero =>
    intros
    exact V_none
  | succ n ih =>
    intro a0 a1 x2 x4 M h_a0 h_a1
    rw [f_Expanded_make_b11]
    refine V_iload C0 4 4 rfl dX0_make_11 ?_
    refine V_aload_n C0 1 rfl 1 rfl dX0_make_13 ?_
    refine g0_45 C0 h_a1 dX0_make_14 ?_
    refine V_icmpge C0 120 dX0_make_17 (by decide) (fun _ => ?_) (fun _ => ?_)
    · refine V_aload_n C0 0 rfl 0 rfl dX0_make_120 ?_
      refine V_iload_n C0 2 rfl 2 rfl dX0_make_121 ?_
      refine V_ifeq C0 163 dX0_make_122 (by decide) (fun _ => ?_) (fun _ => ?_)
      · refine V_iconst C0 dX0_make_163 ic_0 ?_
        refine p0_57 C0 h_a0 dX0_make_164 (fun M1 => ?_)
        exact V_vret C0 dX0_make_167
      · refine V_aload_n C0 0 rfl 0 rfl dX0_make_125 ?_
        refine g0_14 C0 h_a0 dX0_make_126 ?_
        refine g0_45 C0 (tE1 h_a0) dX0_make_129 ?_
        refine V_iconst C0 dX0_make_132 ic_3 ?_
        refine V_icmpgt C0 163 dX0_make_133 (by decide) (fun _ => ?_) (fun _ => ?_)
        · refine V_iconst C0 dX0_make_163 ic_0 ?_
          refine p0_57 C0 h_a0 dX0_make_164 (fun M2 => ?_)
          exact V_vret C0 dX0_make_167
        · refine V_aload_n C0 0 rfl 0 rfl dX0_make_136 ?_
          refine g0_14 C0 h_a0 dX0_make_137 ?_
          refine V_bipush C0 dX0_make_140 bp_6 ?_
          refine k0_69 C0 (tE1 h_a0) (by decide) (fun lq rq Mq hh => mc_f_Form_hasKind lq (a0 + 1) 6 M rq Mq (tE1 h_a0) hh) (Nat.le_of_ble_eq_true rfl) dX0_make_142 (fun r3 M3 => ?_)
          refine V_ifne C0 163 dX0_make_145 (by decide) (fun _ => ?_) (fun _ => ?_)
          · refine V_iconst C0 dX0_make_163 ic_0 ?_
            refine p0_57 C0 h_a0 dX0_make_164 (fun M4 => ?_)
            exact V_vret C0 dX0_make_167
          · refine V_aload_n C0 0 rfl 0 rfl dX0_make_148 ?_
            refine g0_14 C0 h_a0 dX0_make_149 ?_
            refine V_iconst C0 dX0_make_152 ic_2 ?_
            refine k0_69 C0 (tE1 h_a0) (by decide) (fun lq rq Mq hh => mc_f_Form_hasKind lq (a0 + 1) 2 M3 rq Mq (tE1 h_a0) hh) (Nat.le_of_ble_eq_true rfl) dX0_make_153 (fun r5 M5 => ?_)
            refine V_ifne C0 163 dX0_make_156 (by decide) (fun _ => ?_) (fun _ => ?_)
            · refine V_iconst C0 dX0_make_163 ic_0 ?_
              refine p0_57 C0 h_a0 dX0_make_164 (fun M6 => ?_)
              exact V_vret C0 dX0_make_167
            · refine V_iconst C0 dX0_make_159 ic_1 ?_
              refine V_goto C0 164 dX0_make_160 (by decide) ?_
              refine p0_57 C0 h_a0 dX0_make_164 (fun M7 => ?_)
              exact V_vret C0 dX0_make_167
    · refine V_aload_n C0 1 rfl 1 rfl dX0_make_20 ?_
      refine V_iload C0 4 4 rfl dX0_make_21 ?_
      refine k0_54 C0 h_a1 (by decide) (fun lq rq Mq hh => mc_f_Form_contentOf lq a1 x4 M rq Mq h_a1 hh) (Nat.le_of_ble_eq_true rfl) dX0_make_23 (fun r8 M8 => ?_)
      refine V_istore C0 5 [(5, .int r8), (0, .ref (G.2 + a0)), (1, .ref (G.2 + a1)), (2, .int x2), (3, .ref (G.2 + 46)), (4, .int x4)] (by decide) rfl dX0_make_26 ?_
      refine V_aload_n C0 1 rfl 2 rfl dX0_make_28 ?_
      refine V_iload C0 4 5 rfl dX0_make_29 ?_
      refine k0_48 C0 h_a1 (by decide) (fun lq rq Mq hh => mc_f_Form_kindOf lq a1 x4 M8 rq Mq h_a1 hh) (Nat.le_of_ble_eq_true rfl) dX0_make_31 (fun r9 M9 => ?_)
      refine V_iconst C0 dX0_make_34 ic_2 ?_
      refine V_icmpne C0 42 dX0_make_35 (by decide) (fun _ => ?_) (fun _ => ?_)
      · refine V_iconst C0 dX0_make_42 ic_0 ?_
        exact V_sub [1, 2, 3, 4, 5, 0] rfl (f_Expanded_make_b43_ok C0 (f_Expanded_make_b11 n) ih a0 a1 x2 x4 r8 0 M9 h_a0 h_a1)
      · refine V_iconst C0 dX0_make_38 ic_1 ?_
        refine V_goto C0 43 dX0_make_39 (by decide) ?_
        exact V_sub [1, 2, 3, 4, 5, 0] rfl (f_Expanded_make_b43_ok C0 (f_Expanded_make_b11 n) ih a0 a1 x2 x4 r8 1 M9 h_a0 h_a1)
set_option maxRecDepth 100000 in
set_option maxHeartbeats 4000000 in
theorem mc_f_Expanded_make {G : GT} (l : Launch) (a0 : Nat) (a1 : Nat) (x2 : Int32) (M : Mem) (r : Unit) (M1 : Mem) (h_a0 : (sh a0).1 = 0) (h_a1 : (sh a1).1 = 1) (ho : f_Expanded_make a0 a1 x2 M = some (r, M1)) : MC l G yX0_make cX0_make 7 none 3 [.ref (G.2 + a0), .ref (G.2 + a1), .int x2, .ref (G.2 + 46)] M (vU r) M1 :=
  MC.ofV (own := RX0) (lv := [(0, .ref (G.2 + a0)), (1, .ref (G.2 + a1)), (2, .int x2), (3, .ref (G.2 + 46))]) (by decide +kernel) rfl rfl (Nat.le_of_ble_eq_true rfl) ho (fun X hX C0 => by
    unfold f_Expanded_make
    refine V_aload_n C0 0 rfl 0 rfl dX0_make_0 ?_
    refine g0_14 C0 h_a0 dX0_make_1 ?_
    refine V_iconst C0 dX0_make_4 ic_0 ?_
    refine p0_45 C0 (tE1 h_a0) dX0_make_5 (fun M1 => ?_)
    refine V_iconst C0 dX0_make_8 ic_0 ?_
    refine V_istore C0 4 [(4, .int 0), (0, .ref (G.2 + a0)), (1, .ref (G.2 + a1)), (2, .int x2), (3, .ref (G.2 + 46))] (by decide) rfl dX0_make_9 ?_
    exact V_sub [1, 2, 3, 4, 0] rfl (f_Expanded_make_b11_ok C0 FU a0 a1 x2 0 M1 h_a0 h_a1))
set_option maxRecDepth 100000 in
set_option maxHeartbeats 4000000 in
theorem mc_f_LP_partsOf {G : GT} (l : Launch) (x0 : Int32) (M : Mem) (r : Int32) (M1 : Mem) (ho : f_LP_partsOf x0 M = some (r, M1)) : MC l G yX6_partsOf cX6_partsOf 1 (some .int) 0 [.int x0] M (vI r) M1 :=
  MC.ofV (own := RX6) (lv := [(0, .int x0)]) (by decide +kernel) rfl rfl (Nat.le_of_ble_eq_true rfl) ho (fun X hX C0 => by
    unfold f_LP_partsOf
    refine V_iload_n C0 0 rfl 0 rfl dX6_partsOf_0 ?_
    refine V_iconst C0 dX6_partsOf_1 ic_3 ?_
    refine V_icmpge C0 7 dX6_partsOf_2 (by decide) (fun _ => ?_) (fun _ => ?_)
    · refine V_iload_n C0 0 rfl 0 rfl dX6_partsOf_7 ?_
      refine V_iconst C0 dX6_partsOf_8 ic_3 ?_
      refine V_icmpne C0 16 dX6_partsOf_9 (by decide) (fun _ => ?_) (fun _ => ?_)
      · refine V_iconst C0 dX6_partsOf_16 ic_2 ?_
        exact V_iret C0 dX6_partsOf_17
      · refine V_iconst C0 dX6_partsOf_12 ic_1 ?_
        refine V_goto C0 17 dX6_partsOf_13 (by decide) ?_
        exact V_iret C0 dX6_partsOf_17
    · refine V_iconst C0 dX6_partsOf_5 ic_0 ?_
      exact V_iret C0 dX6_partsOf_6)
set_option maxRecDepth 100000 in
set_option maxHeartbeats 4000000 in
theorem mc_f_Expanded_put {G : GT} (l : Launch) (a0 : Nat) (x1 : Int32) (x2 : Int32) (x3 : Int32) (x4 : Int32) (M : Mem) (r : Unit) (M1 : Mem) (h_a0 : (sh a0).1 = 0) (ho : f_Expanded_put a0 x1 x2 x3 x4 M = some (r, M1)) : MC l G yX0_put cX0_put 5 none 0 [.ref (G.2 + a0), .int x1, .int x2, .int x3, .int x4] M (vU r) M1 :=
  MC.ofV (own := RX0) (lv := [(0, .ref (G.2 + a0)), (1, .int x1), (2, .int x2), (3, .int x3), (4, .int x4)]) (by decide +kernel) rfl rfl (Nat.le_of_ble_eq_true rfl) ho (fun X hX C0 => by
    unfold f_Expanded_put
    refine V_iload_n C0 1 rfl 1 rfl dX0_put_0 ?_
    refine V_iflt C0 32 dX0_put_1 (by decide) (fun _ => ?_) (fun _ => ?_)
    · exact V_vret C0 dX0_put_32
    · refine V_iload_n C0 1 rfl 1 rfl dX0_put_4 ?_
      refine V_bipush C0 dX0_put_5 bp_60 ?_
      refine V_icmpge C0 32 dX0_put_7 (by decide) (fun _ => ?_) (fun _ => ?_)
      · exact V_vret C0 dX0_put_32
      · refine V_aload_n C0 0 rfl 0 rfl dX0_put_10 ?_
        refine g0_20 C0 h_a0 dX0_put_11 ?_
        refine V_iload_n C0 1 rfl 1 rfl dX0_put_14 ?_
        refine V_iload_n C0 2 rfl 2 rfl dX0_put_15 ?_
        refine V_iast C0 60 (tE3 h_a0) (nE3 h_a0) dX0_put_16 (fun M1 => ?_)
        refine V_aload_n C0 0 rfl 0 rfl dX0_put_17 ?_
        refine g0_24 C0 h_a0 dX0_put_18 ?_
        refine V_iload_n C0 1 rfl 1 rfl dX0_put_21 ?_
        refine V_iload_n C0 3 rfl 3 rfl dX0_put_22 ?_
        refine V_iast C0 60 (tE4 h_a0) (nE4 h_a0) dX0_put_23 (fun M2 => ?_)
        refine V_aload_n C0 0 rfl 0 rfl dX0_put_24 ?_
        refine g0_27 C0 h_a0 dX0_put_25 ?_
        refine V_iload_n C0 1 rfl 1 rfl dX0_put_28 ?_
        refine V_iload C0 4 4 rfl dX0_put_29 ?_
        refine V_iast C0 60 (tE5 h_a0) (nE5 h_a0) dX0_put_31 (fun M3 => ?_)
        exact V_vret C0 dX0_put_32)
set_option maxRecDepth 100000 in
set_option maxHeartbeats 4000000 in
theorem mc_f_Expanded_sizeOf {G : GT} (l : Launch) (a0 : Nat) (x1 : Int32) (M : Mem) (r : Int32) (M1 : Mem) (h_a0 : (sh a0).1 = 0) (ho : f_Expanded_sizeOf a0 x1 M = some (r, M1)) : MC l G yX0_sizeOf cX0_sizeOf 2 (some .int) 1 [.ref (G.2 + a0), .int x1] M (vI r) M1 :=
  MC.ofV (own := RX0) (lv := [(0, .ref (G.2 + a0)), (1, .int x1)]) (by decide +kernel) rfl rfl (Nat.le_of_ble_eq_true rfl) ho (fun X hX C0 => by
    unfold f_Expanded_sizeOf
    refine V_aload_n C0 0 rfl 0 rfl dX0_sizeOf_0 ?_
    refine g0_20 C0 h_a0 dX0_sizeOf_1 ?_
    refine V_iload_n C0 1 rfl 1 rfl dX0_sizeOf_4 ?_
    refine k0_37 C0 (by decide) (fun lq rq Mq hh => mc_f_Expanded_entry lq (a0 + 4) x1 M rq Mq (tE3 h_a0) hh) (Nat.le_of_ble_eq_true rfl) dX0_sizeOf_5 (fun r1 M1 => ?_)
    exact V_iret C0 dX0_sizeOf_8)
set_option maxRecDepth 100000 in
set_option maxHeartbeats 4000000 in
theorem mc_f_Expanded_needOf {G : GT} (l : Launch) (a0 : Nat) (x1 : Int32) (M : Mem) (r : Int32) (M1 : Mem) (h_a0 : (sh a0).1 = 0) (ho : f_Expanded_needOf a0 x1 M = some (r, M1)) : MC l G yX0_needOf cX0_needOf 2 (some .int) 1 [.ref (G.2 + a0), .int x1] M (vI r) M1 :=
  MC.ofV (own := RX0) (lv := [(0, .ref (G.2 + a0)), (1, .int x1)]) (by decide +kernel) rfl rfl (Nat.le_of_ble_eq_true rfl) ho (fun X hX C0 => by
    unfold f_Expanded_needOf
    refine V_aload_n C0 0 rfl 0 rfl dX0_needOf_0 ?_
    refine g0_24 C0 h_a0 dX0_needOf_1 ?_
    refine V_iload_n C0 1 rfl 1 rfl dX0_needOf_4 ?_
    refine k0_37 C0 (by decide) (fun lq rq Mq hh => mc_f_Expanded_entry lq (a0 + 5) x1 M rq Mq (tE4 h_a0) hh) (Nat.le_of_ble_eq_true rfl) dX0_needOf_5 (fun r1 M1 => ?_)
    exact V_iret C0 dX0_needOf_8)
set_option maxRecDepth 100000 in
set_option maxHeartbeats 4000000 in
theorem mc_f_Expanded_rightOf {G : GT} (l : Launch) (a0 : Nat) (x1 : Int32) (M : Mem) (r : Int32) (M1 : Mem) (h_a0 : (sh a0).1 = 0) (ho : f_Expanded_rightOf a0 x1 M = some (r, M1)) : MC l G yX0_rightOf cX0_rightOf 2 (some .int) 2 [.ref (G.2 + a0), .int x1] M (vI r) M1 :=
  MC.ofV (own := RX0) (lv := [(0, .ref (G.2 + a0)), (1, .int x1)]) (by decide +kernel) rfl rfl (Nat.le_of_ble_eq_true rfl) ho (fun X hX C0 => by
    unfold f_Expanded_rightOf
    refine V_iload_n C0 1 rfl 1 rfl dX0_rightOf_0 ?_
    refine V_iconst C0 dX0_rightOf_1 ic_1 ?_
    refine V_iadd C0 dX0_rightOf_2 ?_
    refine V_aload_n C0 0 rfl 0 rfl dX0_rightOf_3 ?_
    refine V_iload_n C0 1 rfl 1 rfl dX0_rightOf_4 ?_
    refine V_iconst C0 dX0_rightOf_5 ic_1 ?_
    refine V_iadd C0 dX0_rightOf_6 ?_
    refine k0_41 C0 h_a0 (by decide) (fun lq rq Mq hh => mc_f_Expanded_sizeOf lq a0 (x1 + 1) M rq Mq h_a0 hh) (Nat.le_of_ble_eq_true rfl) dX0_rightOf_7 (fun r1 M1 => ?_)
    refine V_iadd C0 dX0_rightOf_10 ?_
    exact V_iret C0 dX0_rightOf_11)
set_option maxRecDepth 100000 in
set_option maxHeartbeats 4000000 in
theorem mc_f_Expanded_needOfPair {G : GT} (l : Launch) (x0 : Int32) (x1 : Int32) (M : Mem) (r : Int32) (M1 : Mem) (ho : f_Expanded_needOfPair x0 x1 M = some (r, M1)) : MC l G yX0_needOfPair cX0_needOfPair 2 (some .int) 1 [.int x0, .int x1] M (vI r) M1 :=
  MC.ofV (own := RX0) (lv := [(0, .int x0), (1, .int x1)]) (by decide +kernel) rfl rfl (Nat.le_of_ble_eq_true rfl) ho (fun X hX C0 => by
    unfold f_Expanded_needOfPair
    refine V_iload_n C0 0 rfl 0 rfl dX0_needOfPair_0 ?_
    refine V_iload_n C0 1 rfl 1 rfl dX0_needOfPair_1 ?_
    refine V_icmpne C0 11 dX0_needOfPair_2 (by decide) (fun _ => ?_) (fun _ => ?_)
    · refine V_iload_n C0 0 rfl 0 rfl dX0_needOfPair_11 ?_
      refine V_iload_n C0 1 rfl 1 rfl dX0_needOfPair_12 ?_
      refine V_mmax C0 wm0_99 wsM_max w0Math wcM_max (by decide) (Nat.le_of_ble_eq_true rfl) dX0_needOfPair_13 ?_
      exact V_iret C0 dX0_needOfPair_16
    · refine V_iload_n C0 0 rfl 0 rfl dX0_needOfPair_5 ?_
      refine V_iconst C0 dX0_needOfPair_6 ic_1 ?_
      refine V_iadd C0 dX0_needOfPair_7 ?_
      refine V_goto C0 16 dX0_needOfPair_8 (by decide) ?_
      exact V_iret C0 dX0_needOfPair_16)
set_option maxRecDepth 100000 in
set_option maxHeartbeats 4000000 in
theorem f_Expanded_operate_b28_ok {X : XT} {G : GT} (C0 : Cx X G cX0_operate 7 RX0 (some .int)) (x5 : Int64) (M : Mem) : V X G 1 vI 7 28 [(5, .long x5)] [] M (f_Expanded_operate_b28 x5 M) := by
  unfold f_Expanded_operate_b28
  refine V_ldc2 C0 wk0_109 dX0_operate_28 ?_
  refine V_ldc2 C0 wk0_111 dX0_operate_31 ?_
  refine V_lload C0 5 0 rfl dX0_operate_34 ?_
  refine V_mmin_long C0 wm0_113 wsM_min_long w0Math wcM_min_long (by decide) (Nat.le_of_ble_eq_true rfl) dX0_operate_36 ?_
  refine V_mmax_long C0 wm0_116 wsM_max_long w0Math wcM_max_long (by decide) (Nat.le_of_ble_eq_true rfl) dX0_operate_39 ?_
  refine V_l2i C0 dX0_operate_42 ?_
  exact V_iret C0 dX0_operate_43
set_option maxRecDepth 100000 in
set_option maxHeartbeats 4000000 in
theorem mc_f_Expanded_operate {G : GT} (l : Launch) (x0 : Int32) (x1 : Int64) (x3 : Int64) (M : Mem) (r : Int32) (M1 : Mem) (ho : f_Expanded_operate x0 x1 x3 M = some (r, M1)) : MC l G yX0_operate cX0_operate 7 (some .int) 1 [.int x0, .long x1, .long x3] M (vI r) M1 :=
  MC.ofV (own := RX0) (lv := [(0, .int x0), (1, .long x1), (3, .long x3)]) (by decide +kernel) rfl rfl (Nat.le_of_ble_eq_true rfl) ho (fun X hX C0 => by
    unfold f_Expanded_operate
    refine V_lload_n C0 1 rfl 1 rfl dX0_operate_0 ?_
    refine V_lload_n C0 3 rfl 2 rfl dX0_operate_1 ?_
    refine V_lmul C0 dX0_operate_2 ?_
    refine V_bl (fun y1 => ?_)
    refine V_lstore C0 5 [(5, .long y1), (0, .int x0), (1, .long x1), (3, .long x3)] (by decide) rfl dX0_operate_3 ?_
    refine V_iload_n C0 0 rfl 1 rfl dX0_operate_5 ?_
    refine V_iconst C0 dX0_operate_6 ic_4 ?_
    refine V_icmpne C0 18 dX0_operate_7 (by decide) (fun _ => ?_) (fun _ => ?_)
    · refine V_iload_n C0 0 rfl 1 rfl dX0_operate_18 ?_
      refine V_iconst C0 dX0_operate_19 ic_5 ?_
      refine V_icmpne C0 28 dX0_operate_20 (by decide) (fun _ => ?_) (fun _ => ?_)
      · exact V_sub [0] rfl (f_Expanded_operate_b28_ok C0 y1 M)
      · refine V_lload_n C0 1 rfl 2 rfl dX0_operate_23 ?_
        refine V_lload_n C0 3 rfl 3 rfl dX0_operate_24 ?_
        refine V_lsub C0 dX0_operate_25 ?_
        refine V_bl (fun y2 => ?_)
        refine V_lstore C0 5 [(5, .long y2), (0, .int x0), (1, .long x1), (3, .long x3)] (by decide) rfl dX0_operate_26 ?_
        exact V_sub [0] rfl (f_Expanded_operate_b28_ok C0 y2 M)
    · refine V_lload_n C0 1 rfl 2 rfl dX0_operate_10 ?_
      refine V_lload_n C0 3 rfl 3 rfl dX0_operate_11 ?_
      refine V_ladd C0 dX0_operate_12 ?_
      refine V_bl (fun y3 => ?_)
      refine V_lstore C0 5 [(5, .long y3), (0, .int x0), (1, .long x1), (3, .long x3)] (by decide) rfl dX0_operate_13 ?_
      refine V_goto C0 28 dX0_operate_15 (by decide) ?_
      exact V_sub [0] rfl (f_Expanded_operate_b28_ok C0 y3 M))
