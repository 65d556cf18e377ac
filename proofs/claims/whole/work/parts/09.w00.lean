set_option maxRecDepth 100000 in
set_option maxHeartbeats 4000000 in
theorem mc_f_Expanded_entry {G : GT} (l : Launch) (a0 : Nat) (x1 : Int32) (M : Mem) (r : Int32) (M1 : Mem) (h_a0 : (sh a0).1 = 10) (ho : f_Expanded_entry a0 x1 M = some (r, M1)) : MC l G yX0_entry cX0_entry 2 (some .int) 0 [.ref (G.2 + a0), .int x1] M (vI r) M1 :=
  MC.ofV (own := RX0) (lv := [(0, .ref (G.2 + a0)), (1, .int x1)]) (by decide +kernel) rfl rfl (Nat.le_of_ble_eq_true rfl) ho (fun X hX C0 => by
    unfold f_Expanded_entry
    refine V_iload_n C0 1 rfl 1 rfl dX0_entry_0 ?_
    refine V_iflt C0 16 dX0_entry_1 (by decide) (fun _ => ?_) (fun _ => ?_)
    · refine V_iconst C0 dX0_entry_16 ic_0 ?_
      exact V_iret C0 dX0_entry_17
    · refine V_iload_n C0 1 rfl 1 rfl dX0_entry_4 ?_
      refine V_aload_n C0 0 rfl 0 rfl dX0_entry_5 ?_
      refine V_alenI C0 (nI (ln a0)) h_a0 rfl dX0_entry_6 ?_
      refine V_icmpge C0 16 dX0_entry_7 (by decide) (fun _ => ?_) (fun _ => ?_)
      · refine V_iconst C0 dX0_entry_16 ic_0 ?_
        exact V_iret C0 dX0_entry_17
      · refine V_aload_n C0 0 rfl 0 rfl dX0_entry_10 ?_
        refine V_iload_n C0 1 rfl 1 rfl dX0_entry_11 ?_
        refine V_iald C0 (ln a0) h_a0 rfl dX0_entry_12 ?_
        refine V_goto C0 17 dX0_entry_13 (by decide) ?_
        exact V_iret C0 dX0_entry_17)
set_option maxRecDepth 100000 in
set_option maxHeartbeats 4000000 in
theorem mc_f_Expanded_depthOf {G : GT} (l : Launch) (a0 : Nat) (x1 : Int32) (M : Mem) (r : Int32) (M1 : Mem) (h_a0 : (sh a0).1 = 0) (ho : f_Expanded_depthOf a0 x1 M = some (r, M1)) : MC l G yX0_depthOf cX0_depthOf 2 (some .int) 1 [.ref (G.2 + a0), .int x1] M (vI r) M1 :=
  MC.ofV (own := RX0) (lv := [(0, .ref (G.2 + a0)), (1, .int x1)]) (by decide +kernel) rfl rfl (Nat.le_of_ble_eq_true rfl) ho (fun X hX C0 => by
    unfold f_Expanded_depthOf
    refine V_aload_n C0 0 rfl 0 rfl dX0_depthOf_0 ?_
    refine g0_27 C0 h_a0 dX0_depthOf_1 ?_
    refine V_iload_n C0 1 rfl 1 rfl dX0_depthOf_4 ?_
    refine k0_37 C0 (by decide) (fun lq rq Mq hh => mc_f_Expanded_entry lq (a0 + 6) x1 M rq Mq (tE5 h_a0) hh) (Nat.le_of_ble_eq_true rfl) dX0_depthOf_5 (fun r1 M1 => ?_)
    exact V_iret C0 dX0_depthOf_8)
set_option maxRecDepth 100000 in
set_option maxHeartbeats 4000000 in
theorem mc_f_Form_has {G : GT} (l : Launch) (a0 : Nat) (x1 : Int32) (M : Mem) (r : Int32) (M1 : Mem) (h_a0 : (sh a0).1 = 1) (ho : f_Form_has a0 x1 M = some (r, M1)) : MC l G yX1_has cX1_has 2 (some .boolean) 0 [.ref (G.2 + a0), .int x1] M (vI r) M1 :=
  MC.ofV (own := RX1) (lv := [(0, .ref (G.2 + a0)), (1, .int x1)]) (by decide +kernel) rfl rfl (Nat.le_of_ble_eq_true rfl) ho (fun X hX C0 => by
    unfold f_Form_has
    refine V_iload_n C0 1 rfl 1 rfl dX1_has_0 ?_
    refine V_iflt C0 34 dX1_has_1 (by decide) (fun _ => ?_) (fun _ => ?_)
    · refine V_iconst C0 dX1_has_34 ic_0 ?_
      exact V_zret C0 dX1_has_35
    · refine V_iload_n C0 1 rfl 1 rfl dX1_has_4 ?_
      refine V_aload_n C0 0 rfl 0 rfl dX1_has_5 ?_
      refine g1_9 C0 h_a0 dX1_has_6 ?_
      refine V_icmpge C0 34 dX1_has_9 (by decide) (fun _ => ?_) (fun _ => ?_)
      · refine V_iconst C0 dX1_has_34 ic_0 ?_
        exact V_zret C0 dX1_has_35
      · refine V_iload_n C0 1 rfl 1 rfl dX1_has_12 ?_
        refine V_aload_n C0 0 rfl 0 rfl dX1_has_13 ?_
        refine g1_21 C0 h_a0 dX1_has_14 ?_
        refine V_alenI C0 (nI (ln (a0 + 1))) (tF0 h_a0) rfl dX1_has_17 ?_
        refine V_icmpge C0 34 dX1_has_18 (by decide) (fun _ => ?_) (fun _ => ?_)
        · refine V_iconst C0 dX1_has_34 ic_0 ?_
          exact V_zret C0 dX1_has_35
        · refine V_iload_n C0 1 rfl 1 rfl dX1_has_21 ?_
          refine V_aload_n C0 0 rfl 0 rfl dX1_has_22 ?_
          refine g1_25 C0 h_a0 dX1_has_23 ?_
          refine V_alenI C0 (nI (ln (a0 + 2))) (tF1 h_a0) rfl dX1_has_26 ?_
          refine V_icmpge C0 34 dX1_has_27 (by decide) (fun _ => ?_) (fun _ => ?_)
          · refine V_iconst C0 dX1_has_34 ic_0 ?_
            exact V_zret C0 dX1_has_35
          · refine V_iconst C0 dX1_has_30 ic_1 ?_
            refine V_goto C0 35 dX1_has_31 (by decide) ?_
            exact V_zret C0 dX1_has_35)
set_option maxRecDepth 100000 in
set_option maxHeartbeats 4000000 in
theorem mc_f_Form_kindOf {G : GT} (l : Launch) (a0 : Nat) (x1 : Int32) (M : Mem) (r : Int32) (M1 : Mem) (h_a0 : (sh a0).1 = 1) (ho : f_Form_kindOf a0 x1 M = some (r, M1)) : MC l G yX1_kindOf cX1_kindOf 2 (some .int) 1 [.ref (G.2 + a0), .int x1] M (vI r) M1 :=
  MC.ofV (own := RX1) (lv := [(0, .ref (G.2 + a0)), (1, .int x1)]) (by decide +kernel) rfl rfl (Nat.le_of_ble_eq_true rfl) ho (fun X hX C0 => by
    unfold f_Form_kindOf
    refine V_aload_n C0 0 rfl 0 rfl dX1_kindOf_0 ?_
    refine V_iload_n C0 1 rfl 1 rfl dX1_kindOf_1 ?_
    refine k1_28 C0 h_a0 (by decide) (fun lq rq Mq hh => mc_f_Form_has lq a0 x1 M rq Mq h_a0 hh) (Nat.le_of_ble_eq_true rfl) dX1_kindOf_2 (fun r1 M1 => ?_)
    refine V_ifeq C0 17 dX1_kindOf_5 (by decide) (fun _ => ?_) (fun _ => ?_)
    · refine V_iconst C0 dX1_kindOf_17 ic_0 ?_
      exact V_iret C0 dX1_kindOf_18
    · refine V_aload_n C0 0 rfl 0 rfl dX1_kindOf_8 ?_
      refine g1_21 C0 h_a0 dX1_kindOf_9 ?_
      refine V_iload_n C0 1 rfl 1 rfl dX1_kindOf_12 ?_
      refine V_iald C0 (ln (a0 + 1)) (tF0 h_a0) rfl dX1_kindOf_13 ?_
      refine V_goto C0 18 dX1_kindOf_14 (by decide) ?_
      exact V_iret C0 dX1_kindOf_18)
set_option maxRecDepth 100000 in
set_option maxHeartbeats 4000000 in
theorem mc_f_Form_contentOf {G : GT} (l : Launch) (a0 : Nat) (x1 : Int32) (M : Mem) (r : Int32) (M1 : Mem) (h_a0 : (sh a0).1 = 1) (ho : f_Form_contentOf a0 x1 M = some (r, M1)) : MC l G yX1_contentOf cX1_contentOf 2 (some .int) 1 [.ref (G.2 + a0), .int x1] M (vI r) M1 :=
  MC.ofV (own := RX1) (lv := [(0, .ref (G.2 + a0)), (1, .int x1)]) (by decide +kernel) rfl rfl (Nat.le_of_ble_eq_true rfl) ho (fun X hX C0 => by
    unfold f_Form_contentOf
    refine V_aload_n C0 0 rfl 0 rfl dX1_contentOf_0 ?_
    refine V_iload_n C0 1 rfl 1 rfl dX1_contentOf_1 ?_
    refine k1_28 C0 h_a0 (by decide) (fun lq rq Mq hh => mc_f_Form_has lq a0 x1 M rq Mq h_a0 hh) (Nat.le_of_ble_eq_true rfl) dX1_contentOf_2 (fun r1 M1 => ?_)
    refine V_ifeq C0 17 dX1_contentOf_5 (by decide) (fun _ => ?_) (fun _ => ?_)
    · refine V_iconst C0 dX1_contentOf_17 ic_0 ?_
      exact V_iret C0 dX1_contentOf_18
    · refine V_aload_n C0 0 rfl 0 rfl dX1_contentOf_8 ?_
      refine g1_25 C0 h_a0 dX1_contentOf_9 ?_
      refine V_iload_n C0 1 rfl 1 rfl dX1_contentOf_12 ?_
      refine V_iald C0 (ln (a0 + 2)) (tF1 h_a0) rfl dX1_contentOf_13 ?_
      refine V_goto C0 18 dX1_contentOf_14 (by decide) ?_
      exact V_iret C0 dX1_contentOf_18)
set_option maxRecDepth 100000 in
set_option maxHeartbeats 4000000 in
theorem mc_f_Expanded_valueOf {G : GT} (l : Launch) (a0 : Nat) (x1 : Int32) (M : Mem) (r : Int32) (M1 : Mem) (h_a0 : (sh a0).1 = 0) (ho : f_Expanded_valueOf a0 x1 M = some (r, M1)) : MC l G yX0_valueOf cX0_valueOf 2 (some .int) 1 [.ref (G.2 + a0), .int x1] M (vI r) M1 :=
  MC.ofV (own := RX0) (lv := [(0, .ref (G.2 + a0)), (1, .int x1)]) (by decide +kernel) rfl rfl (Nat.le_of_ble_eq_true rfl) ho (fun X hX C0 => by
    unfold f_Expanded_valueOf
    refine V_aload_n C0 0 rfl 0 rfl dX0_valueOf_0 ?_
    refine g0_30 C0 h_a0 dX0_valueOf_1 ?_
    refine V_iload_n C0 1 rfl 1 rfl dX0_valueOf_4 ?_
    refine k0_37 C0 (by decide) (fun lq rq Mq hh => mc_f_Expanded_entry lq (a0 + 7) x1 M rq Mq (tE6 h_a0) hh) (Nat.le_of_ble_eq_true rfl) dX0_valueOf_5 (fun r1 M1 => ?_)
    exact V_iret C0 dX0_valueOf_8)
