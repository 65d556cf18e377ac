set_option maxRecDepth 100000 in
set_option maxHeartbeats 4000000 in
theorem mc_f_LP_count {G : GT} (l : Launch) (x1 : Int32) (M : Mem) (r : Int32) (M1 : Mem) (ho : f_LP_count x1 M = some (r, M1)) : MC l G yX6_count cX6_count 2 (some .int) 3 [.ref (G.2 + 0), .int x1] M (vI r) M1 :=
  MC.ofV (own := RX6) (lv := [(0, .ref (G.2 + 0)), (1, .int x1)]) (by decide +kernel) rfl rfl (Nat.le_of_ble_eq_true rfl) ho (fun X hX C0 => by
    unfold f_LP_count
    refine V_iload_n C0 1 rfl 1 rfl dX6_count_0 ?_
    refine V_ts C0 0 44 dX6_count_1 (by decide) (by decide) rfl (by decide) (fun _ => ?_) (fun hs0 => ?_)
    · refine V_aload_n C0 0 rfl 0 rfl dX6_count_44 ?_
      refine g6_19 C0 dX6_count_45 ?_
      refine g6_80 C0 s24 dX6_count_48 ?_
      exact V_iret C0 dX6_count_51
    refine V_ts C0 1 52 dX6_count_1 (by decide) (by decide) rfl (by decide) (fun _ => ?_) (fun hs1 => ?_)
    · refine V_aload_n C0 0 rfl 0 rfl dX6_count_52 ?_
      refine k6_125 C0 (by decide) (fun lq rq Mq hh => mc_f_LP_cheapDefinitions lq  M rq Mq  hh) (Nat.le_of_ble_eq_true rfl) dX6_count_53 (fun r1 M1 => ?_)
      exact V_iret C0 dX6_count_56
    refine V_ts C0 2 57 dX6_count_1 (by decide) (by decide) rfl (by decide) (fun _ => ?_) (fun hs2 => ?_)
    · refine V_aload_n C0 0 rfl 0 rfl dX6_count_57 ?_
      refine k6_129 C0 (by decide) (fun lq rq Mq hh => mc_f_LP_nodesAsRead lq  M rq Mq  hh) (Nat.le_of_ble_eq_true rfl) dX6_count_58 (fun r2 M2 => ?_)
      exact V_iret C0 dX6_count_61
    refine V_ts C0 3 62 dX6_count_1 (by decide) (by decide) rfl (by decide) (fun _ => ?_) (fun hs3 => ?_)
    · refine V_aload_n C0 0 rfl 0 rfl dX6_count_62 ?_
      refine g6_19 C0 dX6_count_63 ?_
      refine g6_116 C0 s24 dX6_count_66 ?_
      exact V_iret C0 dX6_count_69
    refine V_ts C0 4 70 dX6_count_1 (by decide) (by decide) rfl (by decide) (fun _ => ?_) (fun hs4 => ?_)
    · refine V_aload_n C0 0 rfl 0 rfl dX6_count_70 ?_
      refine k6_132 C0 (by decide) (fun lq rq Mq hh => mc_f_LP_greatestNeed lq  M rq Mq  hh) (Nat.le_of_ble_eq_true rfl) dX6_count_71 (fun r3 M3 => ?_)
      exact V_iret C0 dX6_count_74
    refine V_ts C0 5 75 dX6_count_1 (by decide) (by decide) rfl (by decide) (fun _ => ?_) (fun hs5 => ?_)
    · refine V_aload_n C0 0 rfl 0 rfl dX6_count_75 ?_
      refine g6_119 C0 dX6_count_76 ?_
      exact V_iret C0 dX6_count_79
    refine V_ts C0 6 80 dX6_count_1 (by decide) (by decide) rfl (by decide) (fun _ => ?_) (fun hs6 => ?_)
    · refine V_aload_n C0 0 rfl 0 rfl dX6_count_80 ?_
      refine g6_12 C0 dX6_count_81 ?_
      refine g6_55 C0 dX6_count_84 ?_
      exact V_iret C0 dX6_count_87
    refine V_tsO C0 88 dX6_count_1 (by have hz0 := lv_neT hs0 (a := 0) rfl; have hz1 := lv_neT hs1 (a := 1) rfl; have hz2 := lv_neT hs2 (a := 2) rfl; have hz3 := lv_neT hs3 (a := 3) rfl; have hz4 := lv_neT hs4 (a := 4) rfl; have hz5 := lv_neT hs5 (a := 5) rfl; have hz6 := lv_neT hs6 (a := 6) rfl; omega) (by decide) ?_
    refine V_ldc C0 wk6_50 dX6_count_88 ?_
    exact V_iret C0 dX6_count_90)
set_option maxRecDepth 100000 in
set_option maxHeartbeats 4000000 in
theorem f_LP_dropOldestState_b9_ok {X : XT} {G : GT} (C0 : Cx X G cX6_dropOldestState 3 RX6 none) : ∀ (n : Nat) (a1 : Nat) (x2 : Int32) (M : Mem), (sh a1).1 = 4 → V X G 0 vU 3 9 [(0, .ref (G.2 + 0)), (1, .ref (G.2 + a1)), (2, .int x2)] [] M (f_LP_dropOldestState_b9 n a1 x2 M) := by
  intro n
  induction n with
  | zero =>
    intros
    exact V_none
  | succ n ih =>
    intro a1 x2 M h_a1
    rw [f_LP_dropOldestState_b9]
    refine V_iload_n C0 2 rfl 2 rfl dX6_dropOldestState_9 ?_
    refine V_aload_n C0 0 rfl 0 rfl dX6_dropOldestState_10 ?_
    refine g6_23 C0 dX6_dropOldestState_11 ?_
    refine V_alenH C0 5 s45 m45 dX6_dropOldestState_14 ?_
    refine V_icmpge C0 38 dX6_dropOldestState_15 (by decide) (fun _ => ?_) (fun _ => ?_)
    · refine V_aload_n C0 0 rfl 0 rfl dX6_dropOldestState_38 ?_
      refine g6_23 C0 dX6_dropOldestState_39 ?_
      refine V_aload_n C0 0 rfl 0 rfl dX6_dropOldestState_42 ?_
      refine g6_23 C0 dX6_dropOldestState_43 ?_
      refine V_alenH C0 5 s45 m45 dX6_dropOldestState_46 ?_
      refine V_iconst C0 dX6_dropOldestState_47 ic_1 ?_
      refine V_isub C0 dX6_dropOldestState_48 ?_
      refine V_aload_n C0 1 rfl 1 rfl dX6_dropOldestState_49 ?_
      refine V_aastH C0 h_a1 dX6_dropOldestState_50 (fun M1 => ?_)
      refine V_aload_n C0 0 rfl 0 rfl dX6_dropOldestState_51 ?_
      refine V_aload_n C0 0 rfl 0 rfl dX6_dropOldestState_52 ?_
      refine g6_23 C0 dX6_dropOldestState_53 ?_
      refine V_alenH C0 5 s45 m45 dX6_dropOldestState_56 ?_
      refine V_iconst C0 dX6_dropOldestState_57 ic_1 ?_
      refine V_isub C0 dX6_dropOldestState_58 ?_
      refine p6_119 C0 dX6_dropOldestState_59 (fun M2 => ?_)
      exact V_vret C0 dX6_dropOldestState_62
    · refine V_aload_n C0 0 rfl 0 rfl dX6_dropOldestState_18 ?_
      refine g6_23 C0 dX6_dropOldestState_19 ?_
      refine V_iload_n C0 2 rfl 2 rfl dX6_dropOldestState_22 ?_
      refine V_iconst C0 dX6_dropOldestState_23 ic_1 ?_
      refine V_isub C0 dX6_dropOldestState_24 ?_
      refine V_aload_n C0 0 rfl 0 rfl dX6_dropOldestState_25 ?_
      refine g6_23 C0 dX6_dropOldestState_26 ?_
      refine V_iload_n C0 2 rfl 2 rfl dX6_dropOldestState_29 ?_
      refine V_aaldH C0 dX6_dropOldestState_30 (fun q3 => ?_)
      refine V_aastH C0 q3 dX6_dropOldestState_31 (fun M4 => ?_)
      refine V_iincB C0 2 2 (fun y5 => [(2, .int y5), (0, .ref (G.2 + 0)), (1, .ref (G.2 + a1))]) rfl ic_1 (by decide) (fun _ => rfl) dX6_dropOldestState_32 (fun y5 => ?_)
      refine V_goto C0 9 dX6_dropOldestState_35 (by decide) ?_
      exact V_sub [1, 2, 0] rfl (ih a1 y5 M4 h_a1)
set_option maxRecDepth 100000 in
set_option maxHeartbeats 4000000 in
theorem mc_f_LP_dropOldestState {G : GT} (l : Launch) (M : Mem) (r : Unit) (M1 : Mem) (ho : f_LP_dropOldestState  M = some (r, M1)) : MC l G yX6_dropOldestState cX6_dropOldestState 3 none 0 [.ref (G.2 + 0)] M (vU r) M1 :=
  MC.ofV (own := RX6) (lv := [(0, .ref (G.2 + 0))]) (by decide +kernel) rfl rfl (Nat.le_of_ble_eq_true rfl) ho (fun X hX C0 => by
    unfold f_LP_dropOldestState
    refine V_aload_n C0 0 rfl 0 rfl dX6_dropOldestState_0 ?_
    refine g6_23 C0 dX6_dropOldestState_1 ?_
    refine V_iconst C0 dX6_dropOldestState_4 ic_0 ?_
    refine V_aaldH C0 dX6_dropOldestState_5 (fun q1 => ?_)
    refine V_bn q1 (fun b2 h_b2 => ?_)
    refine V_astore_n C0 1 [(1, .ref (G.2 + b2)), (0, .ref (G.2 + 0))] rfl (by decide) rfl dX6_dropOldestState_6 ?_
    refine V_iconst C0 dX6_dropOldestState_7 ic_1 ?_
    refine V_istore_n C0 2 [(2, .int 1), (1, .ref (G.2 + b2)), (0, .ref (G.2 + 0))] rfl (by decide) rfl dX6_dropOldestState_8 ?_
    exact V_sub [2, 1, 0] rfl (f_LP_dropOldestState_b9_ok C0 FU b2 1 M h_b2))
set_option maxRecDepth 100000 in
set_option maxHeartbeats 4000000 in
theorem f_LP_enough_b2_ok {X : XT} {G : GT} (C0 : Cx X G cX6_enough 2 RX6 (some .int)) : ∀ (n : Nat) (x1 : Int32) (M : Mem), V X G 304 vI 2 2 [(0, .ref (G.2 + 0)), (1, .int x1)] [] M (f_LP_enough_b2 n x1 M) := by
  intro n
  induction n with
  | zero =>
    intros
    exact V_none
  | succ n ih =>
    intro x1 M
    rw [f_LP_enough_b2]
    refine V_iload_n C0 1 rfl 1 rfl dX6_enough_2 ?_
    refine V_bipush C0 dX6_enough_3 bp_8 ?_
    refine V_icmpge C0 45 dX6_enough_5 (by decide) (fun _ => ?_) (fun _ => ?_)
    · refine V_bipush C0 dX6_enough_45 bp_8 ?_
      exact V_iret C0 dX6_enough_47
    · refine V_aload_n C0 0 rfl 0 rfl dX6_enough_8 ?_
      refine g6_36 C0 dX6_enough_9 ?_
      refine V_aload_n C0 0 rfl 0 rfl dX6_enough_12 ?_
      refine g6_29 C0 dX6_enough_13 ?_
      refine V_aload_n C0 0 rfl 0 rfl dX6_enough_16 ?_
      refine g6_19 C0 dX6_enough_17 ?_
      refine g6_80 C0 s24 dX6_enough_20 ?_
      refine V_iload_n C0 1 rfl 1 rfl dX6_enough_23 ?_
      refine k6_168 C0 (by decide) (fun lq rq Mq hh => mc_f_Plan_make lq (M.1 24 1) x1 M rq Mq  hh) (Nat.le_of_ble_eq_true rfl) dX6_enough_24 (fun _ M1 => ?_)
      refine V_aload_n C0 0 rfl 0 rfl dX6_enough_27 ?_
      refine g6_36 C0 dX6_enough_28 ?_
      refine g6_176 C0 dX6_enough_31 ?_
      refine V_ifne C0 39 dX6_enough_34 (by decide) (fun _ => ?_) (fun _ => ?_)
      · refine V_iincB C0 1 1 (fun y2 => [(1, .int y2), (0, .ref (G.2 + 0))]) rfl ic_1 (by decide) (fun _ => rfl) dX6_enough_39 (fun y2 => ?_)
        refine V_goto C0 2 dX6_enough_42 (by decide) ?_
        exact V_sub [1, 0] rfl (ih y2 M1)
      · refine V_iload_n C0 1 rfl 1 rfl dX6_enough_37 ?_
        exact V_iret C0 dX6_enough_38
set_option maxRecDepth 100000 in
set_option maxHeartbeats 4000000 in
theorem mc_f_LP_enough {G : GT} (l : Launch) (M : Mem) (r : Int32) (M1 : Mem) (ho : f_LP_enough  M = some (r, M1)) : MC l G yX6_enough cX6_enough 2 (some .int) 304 [.ref (G.2 + 0)] M (vI r) M1 :=
  MC.ofV (own := RX6) (lv := [(0, .ref (G.2 + 0))]) (by decide +kernel) rfl rfl (Nat.le_of_ble_eq_true rfl) ho (fun X hX C0 => by
    unfold f_LP_enough
    refine V_iconst C0 dX6_enough_0 ic_2 ?_
    refine V_istore_n C0 1 [(1, .int 2), (0, .ref (G.2 + 0))] rfl (by decide) rfl dX6_enough_1 ?_
    exact V_sub [1, 0] rfl (f_LP_enough_b2_ok C0 FU 2 M))
set_option maxRecDepth 100000 in
set_option maxHeartbeats 4000000 in
theorem mc_f_LP_isFormula {G : GT} (l : Launch) (x1 : Int32) (M : Mem) (r : Int32) (M1 : Mem) (ho : f_LP_isFormula x1 M = some (r, M1)) : MC l G yX6_isFormula cX6_isFormula 2 (some .boolean) 0 [.ref (G.2 + 0), .int x1] M (vI r) M1 :=
  MC.ofV (own := RX6) (lv := [(0, .ref (G.2 + 0)), (1, .int x1)]) (by decide +kernel) rfl rfl (Nat.le_of_ble_eq_true rfl) ho (fun X hX C0 => by
    unfold f_LP_isFormula
    refine V_iload_n C0 1 rfl 1 rfl dX6_isFormula_0 ?_
    refine V_iflt C0 25 dX6_isFormula_1 (by decide) (fun _ => ?_) (fun _ => ?_)
    · refine V_iconst C0 dX6_isFormula_25 ic_0 ?_
      exact V_zret C0 dX6_isFormula_26
    · refine V_iload_n C0 1 rfl 1 rfl dX6_isFormula_4 ?_
      refine V_aload_n C0 0 rfl 0 rfl dX6_isFormula_5 ?_
      refine g6_19 C0 dX6_isFormula_6 ?_
      refine g6_80 C0 s24 dX6_isFormula_9 ?_
      refine V_icmpge C0 25 dX6_isFormula_12 (by decide) (fun _ => ?_) (fun _ => ?_)
      · refine V_iconst C0 dX6_isFormula_25 ic_0 ?_
        exact V_zret C0 dX6_isFormula_26
      · refine V_iload_n C0 1 rfl 1 rfl dX6_isFormula_15 ?_
        refine V_bipush C0 dX6_isFormula_16 bp_6 ?_
        refine V_icmpge C0 25 dX6_isFormula_18 (by decide) (fun _ => ?_) (fun _ => ?_)
        · refine V_iconst C0 dX6_isFormula_25 ic_0 ?_
          exact V_zret C0 dX6_isFormula_26
        · refine V_iconst C0 dX6_isFormula_21 ic_1 ?_
          refine V_goto C0 26 dX6_isFormula_22 (by decide) ?_
          exact V_zret C0 dX6_isFormula_26)
