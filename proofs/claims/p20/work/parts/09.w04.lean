set_option maxRecDepth 100000 in
set_option maxHeartbeats 4000000 in
theorem f_LP_usesOf_b72_ok {X : XT} {G : GT} (C0 : Cx X G cX6_usesOf 7 RX6 (some .int)) (k4 : Int32 → Int32 → Int32 → Mem → Option (Int32 × Mem)) (k35 : Int32 → Int32 → Int32 → Nat → Int32 → Mem → Option (Int32 × Mem)) (hk4 : ∀ (x1 : Int32) (x2 : Int32) (x3 : Int32) (M : Mem), V X G 2 vI 7 4 [(0, .ref (G.2 + 0)), (1, .int x1), (2, .int x2), (3, .int x3)] [] M (k4 x1 x2 x3 M)) (hk35 : ∀ (x1 : Int32) (x2 : Int32) (x3 : Int32) (a4 : Nat) (x5 : Int32) (M : Mem), (sh a4).1 = 1 → V X G 2 vI 7 35 [(0, .ref (G.2 + 0)), (1, .int x1), (2, .int x2), (3, .int x3), (4, .ref (G.2 + a4)), (5, .int x5)] [] M (k35 x1 x2 x3 a4 x5 M)) (x1 : Int32) (x2 : Int32) (x3 : Int32) (a4 : Nat) (x5 : Int32) (t0 : Int32) (M : Mem) (h_a4 : (sh a4).1 = 1) : V X G 2 vI 7 72 [(0, .ref (G.2 + 0)), (1, .int x1), (2, .int x2), (3, .int x3), (4, .ref (G.2 + a4)), (5, .int x5)] [.int t0] M (f_LP_usesOf_b72 k4 k35 x1 x2 x3 a4 x5 t0 M) := by
  unfold f_LP_usesOf_b72
  refine V_istore C0 6 [(6, .int t0), (0, .ref (G.2 + 0)), (1, .int x1), (2, .int x2), (3, .int x3), (4, .ref (G.2 + a4)), (5, .int x5)] (by decide) rfl dX6_usesOf_72 ?_
  refine V_iload_n C0 2 rfl 3 rfl dX6_usesOf_74 ?_
  refine V_iload C0 6 0 rfl dX6_usesOf_75 ?_
  refine V_ifeq C0 84 dX6_usesOf_77 (by decide) (fun _ => ?_) (fun _ => ?_)
  · refine V_iconst C0 dX6_usesOf_84 ic_0 ?_
    refine V_iadd C0 dX6_usesOf_85 ?_
    refine V_bi (fun y1 => ?_)
    refine V_istore_n C0 2 [(2, .int y1), (6, .int t0), (0, .ref (G.2 + 0)), (1, .int x1), (3, .int x3), (4, .ref (G.2 + a4)), (5, .int x5)] rfl (by decide) rfl dX6_usesOf_86 ?_
    refine V_iincB C0 5 6 (fun y2 => [(5, .int y2), (2, .int y1), (6, .int t0), (0, .ref (G.2 + 0)), (1, .int x1), (3, .int x3), (4, .ref (G.2 + a4))]) rfl ic_1 (by decide) (fun _ => rfl) dX6_usesOf_87 (fun y2 => ?_)
    refine V_goto C0 35 dX6_usesOf_90 (by decide) ?_
    exact V_sub [3, 4, 1, 5, 6, 0] rfl (hk35 x1 y1 x3 a4 y2 M h_a4)
  · refine V_iconst C0 dX6_usesOf_80 ic_1 ?_
    refine V_goto C0 85 dX6_usesOf_81 (by decide) ?_
    refine V_iadd C0 dX6_usesOf_85 ?_
    refine V_bi (fun y3 => ?_)
    refine V_istore_n C0 2 [(2, .int y3), (6, .int t0), (0, .ref (G.2 + 0)), (1, .int x1), (3, .int x3), (4, .ref (G.2 + a4)), (5, .int x5)] rfl (by decide) rfl dX6_usesOf_86 ?_
    refine V_iincB C0 5 6 (fun y4 => [(5, .int y4), (2, .int y3), (6, .int t0), (0, .ref (G.2 + 0)), (1, .int x1), (3, .int x3), (4, .ref (G.2 + a4))]) rfl ic_1 (by decide) (fun _ => rfl) dX6_usesOf_87 (fun y4 => ?_)
    refine V_goto C0 35 dX6_usesOf_90 (by decide) ?_
    exact V_sub [3, 4, 1, 5, 6, 0] rfl (hk35 x1 y3 x3 a4 y4 M h_a4)
set_option maxRecDepth 100000 in
set_option maxHeartbeats 4000000 in
theorem f_LP_usesOf_b71_ok {X : XT} {G : GT} (C0 : Cx X G cX6_usesOf 7 RX6 (some .int)) (k4 : Int32 → Int32 → Int32 → Mem → Option (Int32 × Mem)) (k35 : Int32 → Int32 → Int32 → Nat → Int32 → Mem → Option (Int32 × Mem)) (hk4 : ∀ (x1 : Int32) (x2 : Int32) (x3 : Int32) (M : Mem), V X G 2 vI 7 4 [(0, .ref (G.2 + 0)), (1, .int x1), (2, .int x2), (3, .int x3)] [] M (k4 x1 x2 x3 M)) (hk35 : ∀ (x1 : Int32) (x2 : Int32) (x3 : Int32) (a4 : Nat) (x5 : Int32) (M : Mem), (sh a4).1 = 1 → V X G 2 vI 7 35 [(0, .ref (G.2 + 0)), (1, .int x1), (2, .int x2), (3, .int x3), (4, .ref (G.2 + a4)), (5, .int x5)] [] M (k35 x1 x2 x3 a4 x5 M)) (x1 : Int32) (x2 : Int32) (x3 : Int32) (a4 : Nat) (x5 : Int32) (M : Mem) (h_a4 : (sh a4).1 = 1) : V X G 2 vI 7 71 [(0, .ref (G.2 + 0)), (1, .int x1), (2, .int x2), (3, .int x3), (4, .ref (G.2 + a4)), (5, .int x5)] [] M (f_LP_usesOf_b71 k4 k35 x1 x2 x3 a4 x5 M) := by
  unfold f_LP_usesOf_b71
  refine V_iconst C0 dX6_usesOf_71 ic_0 ?_
  exact V_sub [0, 1, 2, 3, 4, 5] rfl (f_LP_usesOf_b72_ok C0 k4 k35 hk4 hk35 x1 x2 x3 a4 x5 0 M h_a4)
set_option maxRecDepth 100000 in
set_option maxHeartbeats 4000000 in
theorem f_LP_usesOf_b35_ok {X : XT} {G : GT} (C0 : Cx X G cX6_usesOf 7 RX6 (some .int)) (k4 : Int32 → Int32 → Int32 → Mem → Option (Int32 × Mem)) (hk4 : ∀ (x1 : Int32) (x2 : Int32) (x3 : Int32) (M : Mem), V X G 2 vI 7 4 [(0, .ref (G.2 + 0)), (1, .int x1), (2, .int x2), (3, .int x3)] [] M (k4 x1 x2 x3 M)) : ∀ (n : Nat) (x1 : Int32) (x2 : Int32) (x3 : Int32) (a4 : Nat) (x5 : Int32) (M : Mem), (sh a4).1 = 1 → V X G 2 vI 7 35 [(0, .ref (G.2 + 0)), (1, .int x1), (2, .int x2), (3, .int x3), (4, .ref (G.2 + a4)), (5, .int x5)] [] M (f_LP_usesOf_b35 k4 n x1 x2 x3 a4 x5 M) := by
  intro n
  induction n with
  | zero =>
    intros
    exact V_none
  | succ n ih =>
    intro x1 x2 x3 a4 x5 M h_a4
    rw [f_LP_usesOf_b35]
    refine V_iload C0 5 5 rfl dX6_usesOf_35 ?_
    refine V_aload C0 4 4 rfl dX6_usesOf_37 ?_
    refine g6_135 C0 h_a4 dX6_usesOf_39 ?_
    refine V_icmpge C0 93 dX6_usesOf_42 (by decide) (fun _ => ?_) (fun _ => ?_)
    · refine V_iincB C0 3 3 (fun y1 => [(3, .int y1), (0, .ref (G.2 + 0)), (1, .int x1), (2, .int x2), (4, .ref (G.2 + a4)), (5, .int x5)]) rfl ic_1 (by decide) (fun _ => rfl) dX6_usesOf_93 (fun y1 => ?_)
      refine V_goto C0 4 dX6_usesOf_96 (by decide) ?_
      exact V_sub [1, 2, 3, 0] rfl (hk4 x1 x2 y1 M)
    · refine V_aload C0 4 4 rfl dX6_usesOf_45 ?_
      refine V_iload C0 5 5 rfl dX6_usesOf_47 ?_
      refine k6_95 C0 h_a4 (by decide) (fun lq rq Mq hh => mc_f_Form_kindOf lq a4 x5 M rq Mq h_a4 hh) (Nat.le_of_ble_eq_true rfl) dX6_usesOf_49 (fun r2 M2 => ?_)
      refine V_iconst C0 dX6_usesOf_52 ic_2 ?_
      refine V_icmpne C0 71 dX6_usesOf_53 (by decide) (fun _ => ?_) (fun _ => ?_)
      · exact V_sub [0, 1, 2, 3, 4, 5] rfl (f_LP_usesOf_b71_ok C0 k4 (f_LP_usesOf_b35 k4 n) hk4 ih x1 x2 x3 a4 x5 M2 h_a4)
      · refine V_aload C0 4 4 rfl dX6_usesOf_56 ?_
        refine V_iload C0 5 5 rfl dX6_usesOf_58 ?_
        refine k6_158 C0 h_a4 (by decide) (fun lq rq Mq hh => mc_f_Form_contentOf lq a4 x5 M2 rq Mq h_a4 hh) (Nat.le_of_ble_eq_true rfl) dX6_usesOf_60 (fun r3 M3 => ?_)
        refine V_iload_n C0 1 rfl 1 rfl dX6_usesOf_63 ?_
        refine V_icmpne C0 71 dX6_usesOf_64 (by decide) (fun _ => ?_) (fun _ => ?_)
        · exact V_sub [0, 1, 2, 3, 4, 5] rfl (f_LP_usesOf_b71_ok C0 k4 (f_LP_usesOf_b35 k4 n) hk4 ih x1 x2 x3 a4 x5 M3 h_a4)
        · refine V_iconst C0 dX6_usesOf_67 ic_1 ?_
          refine V_goto C0 72 dX6_usesOf_68 (by decide) ?_
          exact V_sub [0, 1, 2, 3, 4, 5] rfl (f_LP_usesOf_b72_ok C0 k4 (f_LP_usesOf_b35 k4 n) hk4 ih x1 x2 x3 a4 x5 1 M3 h_a4)
set_option maxRecDepth 100000 in
set_option maxHeartbeats 4000000 in
theorem f_LP_usesOf_b4_ok {X : XT} {G : GT} (C0 : Cx X G cX6_usesOf 7 RX6 (some .int)) : ∀ (n : Nat) (x1 : Int32) (x2 : Int32) (x3 : Int32) (M : Mem), V X G 2 vI 7 4 [(0, .ref (G.2 + 0)), (1, .int x1), (2, .int x2), (3, .int x3)] [] M (f_LP_usesOf_b4 n x1 x2 x3 M) := by
  intro n
  induction n with
  | zero =>
    intros
    exact V_none
  | succ n ih =>
    intro x1 x2 x3 M
    rw [f_LP_usesOf_b4]
    refine V_iload_n C0 3 rfl 3 rfl dX6_usesOf_4 ?_
    refine V_aload_n C0 0 rfl 0 rfl dX6_usesOf_5 ?_
    refine g6_19 C0 dX6_usesOf_6 ?_
    refine g6_80 C0 s24 dX6_usesOf_9 ?_
    refine V_icmpge C0 99 dX6_usesOf_12 (by decide) (fun _ => ?_) (fun _ => ?_)
    · refine V_iload_n C0 2 rfl 2 rfl dX6_usesOf_99 ?_
      exact V_iret C0 dX6_usesOf_100
    · refine V_iload_n C0 3 rfl 3 rfl dX6_usesOf_15 ?_
      refine V_bipush C0 dX6_usesOf_16 bp_6 ?_
      refine V_icmpge C0 99 dX6_usesOf_18 (by decide) (fun _ => ?_) (fun _ => ?_)
      · refine V_iload_n C0 2 rfl 2 rfl dX6_usesOf_99 ?_
        exact V_iret C0 dX6_usesOf_100
      · refine V_aload_n C0 0 rfl 0 rfl dX6_usesOf_21 ?_
        refine g6_29 C0 dX6_usesOf_22 ?_
        refine V_iload_n C0 3 rfl 3 rfl dX6_usesOf_25 ?_
        refine V_aaldE C0 dX6_usesOf_26 (fun q1 => ?_)
        refine g6_138 C0 q1 dX6_usesOf_27 ?_
        refine V_bn (tE1 q1) (fun b2 h_b2 => ?_)
        refine V_astore C0 4 [(4, .ref (G.2 + b2)), (0, .ref (G.2 + 0)), (1, .int x1), (2, .int x2), (3, .int x3)] (by decide) rfl dX6_usesOf_30 ?_
        refine V_iconst C0 dX6_usesOf_32 ic_0 ?_
        refine V_istore C0 5 [(5, .int 0), (4, .ref (G.2 + b2)), (0, .ref (G.2 + 0)), (1, .int x1), (2, .int x2), (3, .int x3)] (by decide) rfl dX6_usesOf_33 ?_
        exact V_sub [2, 3, 4, 5, 1, 0] rfl (f_LP_usesOf_b35_ok C0 (f_LP_usesOf_b4 n) ih FU x1 x2 x3 b2 0 M h_b2)
set_option maxRecDepth 100000 in
set_option maxHeartbeats 4000000 in
theorem mc_f_LP_usesOf {G : GT} (l : Launch) (x1 : Int32) (M : Mem) (r : Int32) (M1 : Mem) (ho : f_LP_usesOf x1 M = some (r, M1)) : MC l G yX6_usesOf cX6_usesOf 7 (some .int) 2 [.ref (G.2 + 0), .int x1] M (vI r) M1 :=
  MC.ofV (own := RX6) (lv := [(0, .ref (G.2 + 0)), (1, .int x1)]) (by decide +kernel) rfl rfl (Nat.le_of_ble_eq_true rfl) ho (fun X hX C0 => by
    unfold f_LP_usesOf
    refine V_iconst C0 dX6_usesOf_0 ic_0 ?_
    refine V_istore_n C0 2 [(2, .int 0), (0, .ref (G.2 + 0)), (1, .int x1)] rfl (by decide) rfl dX6_usesOf_1 ?_
    refine V_iconst C0 dX6_usesOf_2 ic_0 ?_
    refine V_istore_n C0 3 [(3, .int 0), (2, .int 0), (0, .ref (G.2 + 0)), (1, .int x1)] rfl (by decide) rfl dX6_usesOf_3 ?_
    exact V_sub [2, 3, 1, 0] rfl (f_LP_usesOf_b4_ok C0 FU x1 0 0 M))
set_option maxRecDepth 100000 in
set_option maxHeartbeats 4000000 in
theorem mc_f_LP_formula {G : GT} (l : Launch) (x1 : Int32) (x2 : Int32) (M : Mem) (r : Int32) (M1 : Mem) (ho : f_LP_formula x1 x2 M = some (r, M1)) : MC l G yX6_formula cX6_formula 4 (some .int) 3 [.ref (G.2 + 0), .int x1, .int x2] M (vI r) M1 :=
  MC.ofV (own := RX6) (lv := [(0, .ref (G.2 + 0)), (1, .int x1), (2, .int x2)]) (by decide +kernel) rfl rfl (Nat.le_of_ble_eq_true rfl) ho (fun X hX C0 => by
    unfold f_LP_formula
    refine V_aload_n C0 0 rfl 0 rfl dX6_formula_0 ?_
    refine V_iload_n C0 1 rfl 1 rfl dX6_formula_1 ?_
    refine k6_83 C0 (by decide) (fun lq rq Mq hh => mc_f_LP_isFormula lq x1 M rq Mq  hh) (Nat.le_of_ble_eq_true rfl) dX6_formula_2 (fun r1 M1 => ?_)
    refine V_ifne C0 11 dX6_formula_5 (by decide) (fun _ => ?_) (fun _ => ?_)
    · refine V_aload_n C0 0 rfl 0 rfl dX6_formula_11 ?_
      refine g6_29 C0 dX6_formula_12 ?_
      refine V_iload_n C0 1 rfl 1 rfl dX6_formula_15 ?_
      refine V_aaldE C0 dX6_formula_16 (fun q2 => ?_)
      refine V_bn q2 (fun b3 h_b3 => ?_)
      refine V_astore_n C0 3 [(3, .ref (G.2 + b3)), (0, .ref (G.2 + 0)), (1, .int x1), (2, .int x2)] rfl (by decide) rfl dX6_formula_17 ?_
      refine V_iload_n C0 2 rfl 3 rfl dX6_formula_18 ?_
      refine V_ts C0 0 60 dX6_formula_19 (by decide) (by decide) rfl (by decide) (fun _ => ?_) (fun hs0 => ?_)
      · refine V_aload_n C0 0 rfl 1 rfl dX6_formula_60 ?_
        refine g6_19 C0 dX6_formula_61 ?_
        refine g6_86 C0 s24 dX6_formula_64 ?_
        refine V_iload_n C0 1 rfl 2 rfl dX6_formula_67 ?_
        refine V_aaldF C0 27 s25 rfl dX6_formula_68 (fun q4 => ?_)
        refine g6_135 C0 q4 dX6_formula_69 ?_
        exact V_iret C0 dX6_formula_72
      refine V_ts C0 1 73 dX6_formula_19 (by decide) (by decide) rfl (by decide) (fun _ => ?_) (fun hs1 => ?_)
      · refine V_aload_n C0 3 rfl 0 rfl dX6_formula_73 ?_
        refine g6_138 C0 h_b3 dX6_formula_74 ?_
        refine g6_135 C0 (tE1 h_b3) dX6_formula_77 ?_
        exact V_iret C0 dX6_formula_80
      refine V_ts C0 2 81 dX6_formula_19 (by decide) (by decide) rfl (by decide) (fun _ => ?_) (fun hs2 => ?_)
      · refine V_aload_n C0 3 rfl 0 rfl dX6_formula_81 ?_
        refine V_iconst C0 dX6_formula_82 ic_0 ?_
        refine k6_103 C0 h_b3 (by decide) (fun lq rq Mq hh => mc_f_Expanded_needOf lq b3 0 M1 rq Mq h_b3 hh) (Nat.le_of_ble_eq_true rfl) dX6_formula_83 (fun r5 M5 => ?_)
        exact V_iret C0 dX6_formula_86
      refine V_ts C0 3 87 dX6_formula_19 (by decide) (by decide) rfl (by decide) (fun _ => ?_) (fun hs3 => ?_)
      · refine V_aload_n C0 3 rfl 0 rfl dX6_formula_87 ?_
        refine g6_142 C0 h_b3 dX6_formula_88 ?_
        refine V_ifeq C0 98 dX6_formula_91 (by decide) (fun _ => ?_) (fun _ => ?_)
        · refine V_iconst C0 dX6_formula_98 ic_0 ?_
          exact V_iret C0 dX6_formula_99
        · refine V_iconst C0 dX6_formula_94 ic_1 ?_
          refine V_goto C0 99 dX6_formula_95 (by decide) ?_
          exact V_iret C0 dX6_formula_99
      refine V_ts C0 4 100 dX6_formula_19 (by decide) (by decide) rfl (by decide) (fun _ => ?_) (fun hs4 => ?_)
      · refine V_aload_n C0 3 rfl 0 rfl dX6_formula_100 ?_
        refine V_iconst C0 dX6_formula_101 ic_0 ?_
        refine k6_146 C0 h_b3 (by decide) (fun lq rq Mq hh => mc_f_Expanded_valueOf lq b3 0 M1 rq Mq h_b3 hh) (Nat.le_of_ble_eq_true rfl) dX6_formula_102 (fun r6 M6 => ?_)
        exact V_iret C0 dX6_formula_105
      refine V_ts C0 5 106 dX6_formula_19 (by decide) (by decide) rfl (by decide) (fun _ => ?_) (fun hs5 => ?_)
      · refine V_aload_n C0 3 rfl 0 rfl dX6_formula_106 ?_
        refine V_iconst C0 dX6_formula_107 ic_0 ?_
        refine k6_149 C0 h_b3 (by decide) (fun lq rq Mq hh => mc_f_Expanded_depthOf lq b3 0 M1 rq Mq h_b3 hh) (Nat.le_of_ble_eq_true rfl) dX6_formula_108 (fun r7 M7 => ?_)
        exact V_iret C0 dX6_formula_111
      refine V_ts C0 6 112 dX6_formula_19 (by decide) (by decide) rfl (by decide) (fun _ => ?_) (fun hs6 => ?_)
      · refine V_aload_n C0 0 rfl 1 rfl dX6_formula_112 ?_
        refine V_iload_n C0 1 rfl 2 rfl dX6_formula_113 ?_
        refine k6_152 C0 (by decide) (fun lq rq Mq hh => mc_f_LP_usesOf lq x1 M1 rq Mq  hh) (Nat.le_of_ble_eq_true rfl) dX6_formula_114 (fun r8 M8 => ?_)
        exact V_iret C0 dX6_formula_117
      refine V_tsO C0 118 dX6_formula_19 (by have hz0 := lv_neT hs0 (a := 0) rfl; have hz1 := lv_neT hs1 (a := 1) rfl; have hz2 := lv_neT hs2 (a := 2) rfl; have hz3 := lv_neT hs3 (a := 3) rfl; have hz4 := lv_neT hs4 (a := 4) rfl; have hz5 := lv_neT hs5 (a := 5) rfl; have hz6 := lv_neT hs6 (a := 6) rfl; omega) (by decide) ?_
      refine V_ldc C0 wk6_50 dX6_formula_118 ?_
      exact V_iret C0 dX6_formula_120
    · refine V_ldc C0 wk6_50 dX6_formula_8 ?_
      exact V_iret C0 dX6_formula_10)
set_option maxRecDepth 100000 in
set_option maxHeartbeats 4000000 in
theorem mc_f_LP_node {G : GT} (l : Launch) (x1 : Int32) (x2 : Int32) (x3 : Int32) (M : Mem) (r : Int32) (M1 : Mem) (ho : f_LP_node x1 x2 x3 M = some (r, M1)) : MC l G yX6_node cX6_node 6 (some .int) 3 [.ref (G.2 + 0), .int x1, .int x2, .int x3] M (vI r) M1 :=
  MC.ofV (own := RX6) (lv := [(0, .ref (G.2 + 0)), (1, .int x1), (2, .int x2), (3, .int x3)]) (by decide +kernel) rfl rfl (Nat.le_of_ble_eq_true rfl) ho (fun X hX C0 => by
    unfold f_LP_node
    refine V_aload_n C0 0 rfl 0 rfl dX6_node_0 ?_
    refine V_iload_n C0 1 rfl 1 rfl dX6_node_1 ?_
    refine k6_83 C0 (by decide) (fun lq rq Mq hh => mc_f_LP_isFormula lq x1 M rq Mq  hh) (Nat.le_of_ble_eq_true rfl) dX6_node_2 (fun r1 M1 => ?_)
    refine V_ifeq C0 24 dX6_node_5 (by decide) (fun _ => ?_) (fun _ => ?_)
    · refine V_ldc C0 wk6_50 dX6_node_24 ?_
      exact V_iret C0 dX6_node_26
    · refine V_aload_n C0 0 rfl 0 rfl dX6_node_8 ?_
      refine g6_29 C0 dX6_node_9 ?_
      refine V_iload_n C0 1 rfl 1 rfl dX6_node_12 ?_
      refine V_aaldE C0 dX6_node_13 (fun q2 => ?_)
      refine g6_138 C0 q2 dX6_node_14 ?_
      refine V_iload_n C0 2 rfl 2 rfl dX6_node_17 ?_
      refine k6_90 C0 (tE1 q2) (by decide) (fun lq rq Mq hh => mc_f_Form_has lq ((160 + 8 * ix x1) + 1) x2 M1 rq Mq (tE1 q2) hh) (Nat.le_of_ble_eq_true rfl) dX6_node_18 (fun r3 M3 => ?_)
      refine V_ifne C0 27 dX6_node_21 (by decide) (fun _ => ?_) (fun _ => ?_)
      · refine V_aload_n C0 0 rfl 0 rfl dX6_node_27 ?_
        refine g6_29 C0 dX6_node_28 ?_
        refine V_iload_n C0 1 rfl 1 rfl dX6_node_31 ?_
        refine V_aaldE C0 dX6_node_32 (fun q4 => ?_)
        refine V_bn q4 (fun b5 h_b5 => ?_)
        refine V_astore C0 4 [(4, .ref (G.2 + b5)), (0, .ref (G.2 + 0)), (1, .int x1), (2, .int x2), (3, .int x3)] (by decide) rfl dX6_node_33 ?_
        refine V_aload C0 4 0 rfl dX6_node_35 ?_
        refine g6_138 C0 h_b5 dX6_node_37 ?_
        refine V_iload_n C0 2 rfl 3 rfl dX6_node_40 ?_
        refine k6_95 C0 (tE1 h_b5) (by decide) (fun lq rq Mq hh => mc_f_Form_kindOf lq (b5 + 1) x2 M3 rq Mq (tE1 h_b5) hh) (Nat.le_of_ble_eq_true rfl) dX6_node_41 (fun r6 M6 => ?_)
        refine k6_155 C0 (by decide) (fun lq rq Mq hh => mc_f_LP_partsOf lq r6 M6 rq Mq  hh) (Nat.le_of_ble_eq_true rfl) dX6_node_44 (fun r7 M7 => ?_)
        refine V_istore C0 5 [(5, .int r7), (4, .ref (G.2 + b5)), (0, .ref (G.2 + 0)), (1, .int x1), (2, .int x2), (3, .int x3)] (by decide) rfl dX6_node_47 ?_
        refine V_iload_n C0 3 rfl 5 rfl dX6_node_49 ?_
        refine V_ts C0 0 92 dX6_node_50 (by decide) (by decide) rfl (by decide) (fun _ => ?_) (fun hs0 => ?_)
        · refine V_aload C0 4 1 rfl dX6_node_92 ?_
          refine g6_138 C0 h_b5 dX6_node_94 ?_
          refine V_iload_n C0 2 rfl 4 rfl dX6_node_97 ?_
          refine k6_95 C0 (tE1 h_b5) (by decide) (fun lq rq Mq hh => mc_f_Form_kindOf lq (b5 + 1) x2 M7 rq Mq (tE1 h_b5) hh) (Nat.le_of_ble_eq_true rfl) dX6_node_98 (fun r8 M8 => ?_)
          exact V_iret C0 dX6_node_101
        refine V_ts C0 1 102 dX6_node_50 (by decide) (by decide) rfl (by decide) (fun _ => ?_) (fun hs1 => ?_)
        · refine V_iload C0 5 0 rfl dX6_node_102 ?_
          refine V_ifne C0 119 dX6_node_104 (by decide) (fun _ => ?_) (fun _ => ?_)
          · refine V_ldc C0 wk6_161 dX6_node_119 ?_
            exact V_iret C0 dX6_node_121
          · refine V_aload C0 4 1 rfl dX6_node_107 ?_
            refine g6_138 C0 h_b5 dX6_node_109 ?_
            refine V_iload_n C0 2 rfl 4 rfl dX6_node_112 ?_
            refine k6_158 C0 (tE1 h_b5) (by decide) (fun lq rq Mq hh => mc_f_Form_contentOf lq (b5 + 1) x2 M7 rq Mq (tE1 h_b5) hh) (Nat.le_of_ble_eq_true rfl) dX6_node_113 (fun r9 M9 => ?_)
            refine V_goto C0 121 dX6_node_116 (by decide) ?_
            exact V_iret C0 dX6_node_121
        refine V_ts C0 2 122 dX6_node_50 (by decide) (by decide) rfl (by decide) (fun _ => ?_) (fun hs2 => ?_)
        · refine V_iload C0 5 0 rfl dX6_node_122 ?_
          refine V_ifle C0 133 dX6_node_124 (by decide) (fun _ => ?_) (fun _ => ?_)
          · refine V_ldc C0 wk6_161 dX6_node_133 ?_
            exact V_iret C0 dX6_node_135
          · refine V_iload_n C0 2 rfl 4 rfl dX6_node_127 ?_
            refine V_iconst C0 dX6_node_128 ic_1 ?_
            refine V_iadd C0 dX6_node_129 ?_
            refine V_goto C0 135 dX6_node_130 (by decide) ?_
            exact V_iret C0 dX6_node_135
        refine V_ts C0 3 136 dX6_node_50 (by decide) (by decide) rfl (by decide) (fun _ => ?_) (fun hs3 => ?_)
        · refine V_iload C0 5 0 rfl dX6_node_136 ?_
          refine V_iconst C0 dX6_node_138 ic_1 ?_
          refine V_icmple C0 151 dX6_node_139 (by decide) (fun _ => ?_) (fun _ => ?_)
          · refine V_ldc C0 wk6_161 dX6_node_151 ?_
            exact V_iret C0 dX6_node_153
          · refine V_aload C0 4 1 rfl dX6_node_142 ?_
            refine V_iload_n C0 2 rfl 4 rfl dX6_node_144 ?_
            refine k6_162 C0 h_b5 (by decide) (fun lq rq Mq hh => mc_f_Expanded_rightOf lq b5 x2 M7 rq Mq h_b5 hh) (Nat.le_of_ble_eq_true rfl) dX6_node_145 (fun r10 M10 => ?_)
            refine V_goto C0 153 dX6_node_148 (by decide) ?_
            exact V_iret C0 dX6_node_153
        refine V_ts C0 4 154 dX6_node_50 (by decide) (by decide) rfl (by decide) (fun _ => ?_) (fun hs4 => ?_)
        · refine V_aload C0 4 1 rfl dX6_node_154 ?_
          refine V_iload_n C0 2 rfl 4 rfl dX6_node_156 ?_
          refine k6_103 C0 h_b5 (by decide) (fun lq rq Mq hh => mc_f_Expanded_needOf lq b5 x2 M7 rq Mq h_b5 hh) (Nat.le_of_ble_eq_true rfl) dX6_node_157 (fun r11 M11 => ?_)
          exact V_iret C0 dX6_node_160
        refine V_ts C0 5 161 dX6_node_50 (by decide) (by decide) rfl (by decide) (fun _ => ?_) (fun hs5 => ?_)
        · refine V_aload C0 4 1 rfl dX6_node_161 ?_
          refine V_iload_n C0 2 rfl 4 rfl dX6_node_163 ?_
          refine k6_165 C0 h_b5 (by decide) (fun lq rq Mq hh => mc_f_Expanded_sizeOf lq b5 x2 M7 rq Mq h_b5 hh) (Nat.le_of_ble_eq_true rfl) dX6_node_164 (fun r12 M12 => ?_)
          exact V_iret C0 dX6_node_167
        refine V_ts C0 6 168 dX6_node_50 (by decide) (by decide) rfl (by decide) (fun _ => ?_) (fun hs6 => ?_)
        · refine V_aload C0 4 1 rfl dX6_node_168 ?_
          refine V_iload_n C0 2 rfl 4 rfl dX6_node_170 ?_
          refine k6_146 C0 h_b5 (by decide) (fun lq rq Mq hh => mc_f_Expanded_valueOf lq b5 x2 M7 rq Mq h_b5 hh) (Nat.le_of_ble_eq_true rfl) dX6_node_171 (fun r13 M13 => ?_)
          exact V_iret C0 dX6_node_174
        refine V_tsO C0 175 dX6_node_50 (by have hz0 := lv_neT hs0 (a := 0) rfl; have hz1 := lv_neT hs1 (a := 1) rfl; have hz2 := lv_neT hs2 (a := 2) rfl; have hz3 := lv_neT hs3 (a := 3) rfl; have hz4 := lv_neT hs4 (a := 4) rfl; have hz5 := lv_neT hs5 (a := 5) rfl; have hz6 := lv_neT hs6 (a := 6) rfl; omega) (by decide) ?_
        refine V_ldc C0 wk6_50 dX6_node_175 ?_
        exact V_iret C0 dX6_node_177
      · refine V_ldc C0 wk6_50 dX6_node_24 ?_
        exact V_iret C0 dX6_node_26)
set_option maxRecDepth 100000 in
set_option maxHeartbeats 4000000 in
theorem mc_f_LP_refusalToTry {G : GT} (l : Launch) (x1 : Int32) (M : Mem) (r : Int32) (M1 : Mem) (ho : f_LP_refusalToTry x1 M = some (r, M1)) : MC l G yX6_refusalToTry cX6_refusalToTry 2 (some .int) 3 [.ref (G.2 + 0), .int x1] M (vI r) M1 :=
  MC.ofV (own := RX6) (lv := [(0, .ref (G.2 + 0)), (1, .int x1)]) (by decide +kernel) rfl rfl (Nat.le_of_ble_eq_true rfl) ho (fun X hX C0 => by
    unfold f_LP_refusalToTry
    refine V_aload_n C0 0 rfl 0 rfl dX6_refusalToTry_0 ?_
    refine V_iload_n C0 1 rfl 1 rfl dX6_refusalToTry_1 ?_
    refine k6_83 C0 (by decide) (fun lq rq Mq hh => mc_f_LP_isFormula lq x1 M rq Mq  hh) (Nat.le_of_ble_eq_true rfl) dX6_refusalToTry_2 (fun r1 M1 => ?_)
    refine V_ifne C0 11 dX6_refusalToTry_5 (by decide) (fun _ => ?_) (fun _ => ?_)
    · refine V_aload_n C0 0 rfl 0 rfl dX6_refusalToTry_11 ?_
      refine g6_29 C0 dX6_refusalToTry_12 ?_
      refine V_iload_n C0 1 rfl 1 rfl dX6_refusalToTry_15 ?_
      refine V_aaldE C0 dX6_refusalToTry_16 (fun q2 => ?_)
      refine k6_207 C0 q2 (by decide) (fun lq rq Mq hh => mc_f_Expanded_pairs lq (160 + 8 * ix x1) M1 rq Mq q2 hh) (Nat.le_of_ble_eq_true rfl) dX6_refusalToTry_17 (fun r3 M3 => ?_)
      refine V_bipush C0 dX6_refusalToTry_20 bp_10 ?_
      refine V_icmple C0 30 dX6_refusalToTry_22 (by decide) (fun _ => ?_) (fun _ => ?_)
      · refine V_iconst C0 dX6_refusalToTry_30 ic_0 ?_
        exact V_iret C0 dX6_refusalToTry_31
      · refine V_ldc C0 wk6_161 dX6_refusalToTry_25 ?_
        refine V_goto C0 31 dX6_refusalToTry_27 (by decide) ?_
        exact V_iret C0 dX6_refusalToTry_31
    · refine V_ldc C0 wk6_50 dX6_refusalToTry_8 ?_
      exact V_iret C0 dX6_refusalToTry_10)
set_option maxRecDepth 100000 in
set_option maxHeartbeats 4000000 in
theorem mc_f_LP_proved {G : GT} (l : Launch) (x1 : Int32) (M : Mem) (r : Int32) (M1 : Mem) (ho : f_LP_proved x1 M = some (r, M1)) : MC l G yX6_proved cX6_proved 3 (some .int) 5 [.ref (G.2 + 0), .int x1] M (vI r) M1 :=
  MC.ofV (own := RX6) (lv := [(0, .ref (G.2 + 0)), (1, .int x1)]) (by decide +kernel) rfl rfl (Nat.le_of_ble_eq_true rfl) ho (fun X hX C0 => by
    unfold f_LP_proved
    refine V_aload_n C0 0 rfl 0 rfl dX6_proved_0 ?_
    refine V_iload_n C0 1 rfl 1 rfl dX6_proved_1 ?_
    refine k6_196 C0 (by decide) (fun lq rq Mq hh => mc_f_LP_refusalToTry lq x1 M rq Mq  hh) (Nat.le_of_ble_eq_true rfl) dX6_proved_2 (fun r1 M1 => ?_)
    refine V_istore_n C0 2 [(2, .int r1), (0, .ref (G.2 + 0)), (1, .int x1)] rfl (by decide) rfl dX6_proved_5 ?_
    refine V_iload_n C0 2 rfl 0 rfl dX6_proved_6 ?_
    refine V_ifeq C0 12 dX6_proved_7 (by decide) (fun _ => ?_) (fun _ => ?_)
    · refine V_aload_n C0 0 rfl 1 rfl dX6_proved_12 ?_
      refine g6_43 C0 dX6_proved_13 ?_
      refine V_aload_n C0 0 rfl 1 rfl dX6_proved_16 ?_
      refine g6_29 C0 dX6_proved_17 ?_
      refine V_iload_n C0 1 rfl 2 rfl dX6_proved_20 ?_
      refine V_aaldE C0 dX6_proved_21 (fun q2 => ?_)
      refine k6_199 C0 (by decide) (fun lq rq Mq hh => mc_f_Trial_tryOrders lq (160 + 8 * ix x1) M1 rq Mq q2 hh) (Nat.le_of_ble_eq_true rfl) dX6_proved_22 (fun _ M3 => ?_)
      refine V_aload_n C0 0 rfl 1 rfl dX6_proved_25 ?_
      refine g6_43 C0 dX6_proved_26 ?_
      refine g6_203 C0 dX6_proved_29 ?_
      exact V_iret C0 dX6_proved_32
    · refine V_iload_n C0 2 rfl 0 rfl dX6_proved_10 ?_
      exact V_iret C0 dX6_proved_11)
set_option maxRecDepth 100000 in
set_option maxHeartbeats 4000000 in
theorem f_LP_recordState_b16_ok {X : XT} {G : GT} (C0 : Cx X G cX6_recordState 1 RX6 none) (M : Mem) : V X G 6 vU 1 16 [(0, .ref (G.2 + 0))] [] M (f_LP_recordState_b16  M) := by
  unfold f_LP_recordState_b16
  refine V_aload_n C0 0 rfl 0 rfl dX6_recordState_16 ?_
  refine g6_119 C0 dX6_recordState_17 ?_
  refine V_iflt C0 61 dX6_recordState_20 (by decide) (fun _ => ?_) (fun _ => ?_)
  · exact V_vret C0 dX6_recordState_61
  · refine V_aload_n C0 0 rfl 0 rfl dX6_recordState_23 ?_
    refine g6_119 C0 dX6_recordState_24 ?_
    refine V_aload_n C0 0 rfl 0 rfl dX6_recordState_27 ?_
    refine g6_23 C0 dX6_recordState_28 ?_
    refine V_alenH C0 5 s45 m45 dX6_recordState_31 ?_
    refine V_icmpge C0 61 dX6_recordState_32 (by decide) (fun _ => ?_) (fun _ => ?_)
    · exact V_vret C0 dX6_recordState_61
    · refine V_aload_n C0 0 rfl 0 rfl dX6_recordState_35 ?_
      refine g6_23 C0 dX6_recordState_36 ?_
      refine V_aload_n C0 0 rfl 0 rfl dX6_recordState_39 ?_
      refine g6_119 C0 dX6_recordState_40 ?_
      refine V_aaldH C0 dX6_recordState_43 (fun q1 => ?_)
      refine V_aload_n C0 0 rfl 0 rfl dX6_recordState_44 ?_
      refine g6_19 C0 dX6_recordState_45 ?_
      refine k6_122 C0 q1 (by decide) (fun lq rq Mq hh => mc_f_Sheet_copyState lq (M.2 (ix (M.1 0 3))) 24 M rq Mq q1 s24 hh) (Nat.le_of_ble_eq_true rfl) dX6_recordState_48 (fun _ M2 => ?_)
      refine V_aload_n C0 0 rfl 0 rfl dX6_recordState_51 ?_
      refine V_dup C0 rfl dX6_recordState_52 ?_
      refine g6_119 C0 dX6_recordState_53 ?_
      refine V_iconst C0 dX6_recordState_56 ic_1 ?_
      refine V_iadd C0 dX6_recordState_57 ?_
      refine p6_119 C0 dX6_recordState_58 (fun M3 => ?_)
      exact V_vret C0 dX6_recordState_61
set_option maxRecDepth 100000 in
set_option maxHeartbeats 4000000 in
theorem mc_f_LP_recordState {G : GT} (l : Launch) (M : Mem) (r : Unit) (M1 : Mem) (ho : f_LP_recordState  M = some (r, M1)) : MC l G yX6_recordState cX6_recordState 1 none 6 [.ref (G.2 + 0)] M (vU r) M1 :=
  MC.ofV (own := RX6) (lv := [(0, .ref (G.2 + 0))]) (by decide +kernel) rfl rfl (Nat.le_of_ble_eq_true rfl) ho (fun X hX C0 => by
    unfold f_LP_recordState
    refine V_aload_n C0 0 rfl 0 rfl dX6_recordState_0 ?_
    refine g6_119 C0 dX6_recordState_1 ?_
    refine V_aload_n C0 0 rfl 0 rfl dX6_recordState_4 ?_
    refine g6_23 C0 dX6_recordState_5 ?_
    refine V_alenH C0 5 s45 m45 dX6_recordState_8 ?_
    refine V_icmplt C0 16 dX6_recordState_9 (by decide) (fun _ => ?_) (fun _ => ?_)
    · exact V_sub [0] rfl (f_LP_recordState_b16_ok C0 M)
    · refine V_aload_n C0 0 rfl 0 rfl dX6_recordState_12 ?_
      refine k6_210 C0 (by decide) (fun lq rq Mq hh => mc_f_LP_dropOldestState lq  M rq Mq  hh) (Nat.le_of_ble_eq_true rfl) dX6_recordState_13 (fun _ M1 => ?_)
      exact V_sub [0] rfl (f_LP_recordState_b16_ok C0 M1))
set_option maxRecDepth 100000 in
set_option maxHeartbeats 4000000 in
theorem f_LP_workAnew_b37_ok {X : XT} {G : GT} (C0 : Cx X G cX6_workAnew 3 RX6 none) (k2 : Int32 → Mem → Option (Unit × Mem)) (hk2 : ∀ (x1 : Int32) (M : Mem), V X G 4 vU 3 2 [(0, .ref (G.2 + 0)), (1, .int x1)] [] M (k2 x1 M)) (x1 : Int32) (t0 : Int32) (M : Mem) : V X G 4 vU 3 37 [(0, .ref (G.2 + 0)), (1, .int x1)] [.int t0] M (f_LP_workAnew_b37 k2 x1 t0 M) := by
  unfold f_LP_workAnew_b37
  refine V_istore_n C0 2 [(2, .int t0), (0, .ref (G.2 + 0)), (1, .int x1)] rfl (by decide) rfl dX6_workAnew_37 ?_
  refine V_aload_n C0 0 rfl 1 rfl dX6_workAnew_38 ?_
  refine g6_29 C0 dX6_workAnew_39 ?_
  refine V_iload_n C0 1 rfl 2 rfl dX6_workAnew_42 ?_
  refine V_aaldE C0 dX6_workAnew_43 (fun q1 => ?_)
  refine V_aload_n C0 0 rfl 1 rfl dX6_workAnew_44 ?_
  refine g6_19 C0 dX6_workAnew_45 ?_
  refine g6_86 C0 s24 dX6_workAnew_48 ?_
  refine V_iload_n C0 1 rfl 2 rfl dX6_workAnew_51 ?_
  refine V_aaldF C0 27 s25 rfl dX6_workAnew_52 (fun q2 => ?_)
  refine V_iload_n C0 2 rfl 0 rfl dX6_workAnew_53 ?_
  refine V_aload_n C0 0 rfl 1 rfl dX6_workAnew_54 ?_
  refine g6_29 C0 dX6_workAnew_55 ?_
  refine k6_213 C0 q1 (by decide) (fun lq rq Mq hh => mc_f_Expanded_make lq (160 + 8 * ix x1) (27 + 3 * ix x1) t0 M rq Mq q1 q2 hh) (Nat.le_of_ble_eq_true rfl) dX6_workAnew_58 (fun _ M3 => ?_)
  refine V_aload_n C0 0 rfl 1 rfl dX6_workAnew_61 ?_
  refine g6_29 C0 dX6_workAnew_62 ?_
  refine V_iload_n C0 1 rfl 2 rfl dX6_workAnew_65 ?_
  refine V_aaldE C0 dX6_workAnew_66 (fun q4 => ?_)
  refine V_aload_n C0 0 rfl 1 rfl dX6_workAnew_67 ?_
  refine g6_19 C0 dX6_workAnew_68 ?_
  refine g6_109 C0 s24 dX6_workAnew_71 ?_
  refine V_aload_n C0 0 rfl 1 rfl dX6_workAnew_74 ?_
  refine g6_29 C0 dX6_workAnew_75 ?_
  refine k6_216 C0 q4 (by decide) (fun lq rq Mq hh => mc_f_Expanded_measure lq (160 + 8 * ix x1) 26 M3 rq Mq q4 s26 hh) (Nat.le_of_ble_eq_true rfl) dX6_workAnew_78 (fun _ M5 => ?_)
  refine V_iincB C0 1 2 (fun y6 => [(1, .int y6), (2, .int t0), (0, .ref (G.2 + 0))]) rfl ic_1 (by decide) (fun _ => rfl) dX6_workAnew_81 (fun y6 => ?_)
  refine V_goto C0 2 dX6_workAnew_84 (by decide) ?_
  exact V_sub [2, 0] rfl (hk2 y6 M5)
set_option maxRecDepth 100000 in
set_option maxHeartbeats 4000000 in
theorem f_LP_workAnew_b2_ok {X : XT} {G : GT} (C0 : Cx X G cX6_workAnew 3 RX6 none) : ∀ (n : Nat) (x1 : Int32) (M : Mem), V X G 4 vU 3 2 [(0, .ref (G.2 + 0)), (1, .int x1)] [] M (f_LP_workAnew_b2 n x1 M) := by
  intro n
  induction n with
  | zero =>
    intros
    exact V_none
  | succ n ih =>
    intro x1 M
    rw [f_LP_workAnew_b2]
    refine V_iload_n C0 1 rfl 1 rfl dX6_workAnew_2 ?_
    refine V_aload_n C0 0 rfl 0 rfl dX6_workAnew_3 ?_
    refine g6_19 C0 dX6_workAnew_4 ?_
    refine g6_80 C0 s24 dX6_workAnew_7 ?_
    refine V_icmpge C0 87 dX6_workAnew_10 (by decide) (fun _ => ?_) (fun _ => ?_)
    · exact V_vret C0 dX6_workAnew_87
    · refine V_iload_n C0 1 rfl 1 rfl dX6_workAnew_13 ?_
      refine V_bipush C0 dX6_workAnew_14 bp_6 ?_
      refine V_icmpge C0 87 dX6_workAnew_16 (by decide) (fun _ => ?_) (fun _ => ?_)
      · exact V_vret C0 dX6_workAnew_87
      · refine V_iload_n C0 1 rfl 1 rfl dX6_workAnew_19 ?_
        refine V_aload_n C0 0 rfl 0 rfl dX6_workAnew_20 ?_
        refine g6_19 C0 dX6_workAnew_21 ?_
        refine g6_80 C0 s24 dX6_workAnew_24 ?_
        refine V_iconst C0 dX6_workAnew_27 ic_1 ?_
        refine V_isub C0 dX6_workAnew_28 ?_
        refine V_icmpge C0 36 dX6_workAnew_29 (by decide) (fun _ => ?_) (fun _ => ?_)
        · refine V_iconst C0 dX6_workAnew_36 ic_0 ?_
          exact V_sub [0, 1] rfl (f_LP_workAnew_b37_ok C0 (f_LP_workAnew_b2 n) ih x1 0 M)
        · refine V_iconst C0 dX6_workAnew_32 ic_1 ?_
          refine V_goto C0 37 dX6_workAnew_33 (by decide) ?_
          exact V_sub [0, 1] rfl (f_LP_workAnew_b37_ok C0 (f_LP_workAnew_b2 n) ih x1 1 M)
set_option maxRecDepth 100000 in
set_option maxHeartbeats 4000000 in
theorem mc_f_LP_workAnew {G : GT} (l : Launch) (M : Mem) (r : Unit) (M1 : Mem) (ho : f_LP_workAnew  M = some (r, M1)) : MC l G yX6_workAnew cX6_workAnew 3 none 4 [.ref (G.2 + 0)] M (vU r) M1 :=
  MC.ofV (own := RX6) (lv := [(0, .ref (G.2 + 0))]) (by decide +kernel) rfl rfl (Nat.le_of_ble_eq_true rfl) ho (fun X hX C0 => by
    unfold f_LP_workAnew
    refine V_iconst C0 dX6_workAnew_0 ic_0 ?_
    refine V_istore_n C0 1 [(1, .int 0), (0, .ref (G.2 + 0))] rfl (by decide) rfl dX6_workAnew_1 ?_
    exact V_sub [1, 0] rfl (f_LP_workAnew_b2_ok C0 FU 0 M))
set_option maxRecDepth 100000 in
set_option maxHeartbeats 4000000 in
theorem mc_f_LP_read {G : GT} (l : Launch) (M : Mem) (r : Int32) (M1 : Mem) (ho : f_LP_read  M = some (r, M1)) : MC l G yX6_read cX6_read 1 (some .int) 304 [.ref (G.2 + 0)] M (vI r) M1 :=
  MC.ofV (own := RX6) (lv := [(0, .ref (G.2 + 0))]) (by decide +kernel) rfl rfl (Nat.le_of_ble_eq_true rfl) ho (fun X hX C0 => by
    unfold f_LP_read
    refine V_aload_n C0 0 rfl 0 rfl dX6_read_0 ?_
    refine g6_12 C0 dX6_read_1 ?_
    refine k6_60 C0 (by decide) (fun lq rq Mq hh => mc_f_Reader_readSheet lq  M rq Mq  hh) (Nat.le_of_ble_eq_true rfl) dX6_read_4 (fun r1 M1 => ?_)
    refine V_ifne C0 22 dX6_read_7 (by decide) (fun _ => ?_) (fun _ => ?_)
    · refine V_aload_n C0 0 rfl 0 rfl dX6_read_22 ?_
      refine k6_67 C0 (by decide) (fun lq rq Mq hh => mc_f_LP_recordState lq  M1 rq Mq  hh) (Nat.le_of_ble_eq_true rfl) dX6_read_23 (fun _ M2 => ?_)
      refine V_aload_n C0 0 rfl 0 rfl dX6_read_26 ?_
      refine g6_19 C0 dX6_read_27 ?_
      refine V_aload_n C0 0 rfl 0 rfl dX6_read_30 ?_
      refine g6_12 C0 dX6_read_31 ?_
      refine g6_70 C0 dX6_read_34 ?_
      refine k6_73 C0 s24 (by decide) (fun lq rq Mq hh => mc_f_Sheet_copyFormulas lq 24 3 M2 rq Mq s24 s3 hh) (Nat.le_of_ble_eq_true rfl) dX6_read_37 (fun _ M3 => ?_)
      refine V_aload_n C0 0 rfl 0 rfl dX6_read_40 ?_
      refine k6_77 C0 (by decide) (fun lq rq Mq hh => mc_f_LP_workAnew lq  M3 rq Mq  hh) (Nat.le_of_ble_eq_true rfl) dX6_read_41 (fun _ M4 => ?_)
      refine V_aload_n C0 0 rfl 0 rfl dX6_read_44 ?_
      refine g6_19 C0 dX6_read_45 ?_
      refine g6_80 C0 s24 dX6_read_48 ?_
      exact V_iret C0 dX6_read_51
    · refine V_sipush C0 dX6_read_10 sp_m1000 ?_
      refine V_aload_n C0 0 rfl 0 rfl dX6_read_13 ?_
      refine g6_12 C0 dX6_read_14 ?_
      refine g6_64 C0 dX6_read_17 ?_
      refine V_isub C0 dX6_read_20 ?_
      exact V_iret C0 dX6_read_21)
set_option maxRecDepth 100000 in
set_option maxHeartbeats 4000000 in
theorem mc_f_LP_setCell {G : GT} (l : Launch) (x1 : Int32) (x2 : Int32) (M : Mem) (r : Int32) (M1 : Mem) (ho : f_LP_setCell x1 x2 M = some (r, M1)) : MC l G yX6_setCell cX6_setCell 4 (some .int) 7 [.ref (G.2 + 0), .int x1, .int x2] M (vI r) M1 :=
  MC.ofV (own := RX6) (lv := [(0, .ref (G.2 + 0)), (1, .int x1), (2, .int x2)]) (by decide +kernel) rfl rfl (Nat.le_of_ble_eq_true rfl) ho (fun X hX C0 => by
    unfold f_LP_setCell
    refine V_iload_n C0 1 rfl 1 rfl dX6_setCell_0 ?_
    refine k6_106 C0 (by decide) (fun lq rq Mq hh => mc_f_LP_isCell lq x1 M rq Mq  hh) (Nat.le_of_ble_eq_true rfl) dX6_setCell_1 (fun r1 M1 => ?_)
    refine V_ifeq C0 21 dX6_setCell_4 (by decide) (fun _ => ?_) (fun _ => ?_)
    · refine V_ldc C0 wk6_50 dX6_setCell_21 ?_
      exact V_iret C0 dX6_setCell_23
    · refine V_iload_n C0 2 rfl 2 rfl dX6_setCell_7 ?_
      refine V_sipush C0 dX6_setCell_8 sp_m999 ?_
      refine V_icmplt C0 21 dX6_setCell_11 (by decide) (fun _ => ?_) (fun _ => ?_)
      · refine V_ldc C0 wk6_50 dX6_setCell_21 ?_
        exact V_iret C0 dX6_setCell_23
      · refine V_iload_n C0 2 rfl 2 rfl dX6_setCell_14 ?_
        refine V_sipush C0 dX6_setCell_15 sp_999 ?_
        refine V_icmple C0 24 dX6_setCell_18 (by decide) (fun _ => ?_) (fun _ => ?_)
        · refine V_aload_n C0 0 rfl 0 rfl dX6_setCell_24 ?_
          refine k6_67 C0 (by decide) (fun lq rq Mq hh => mc_f_LP_recordState lq  M1 rq Mq  hh) (Nat.le_of_ble_eq_true rfl) dX6_setCell_25 (fun _ M2 => ?_)
          refine V_aload_n C0 0 rfl 0 rfl dX6_setCell_28 ?_
          refine g6_19 C0 dX6_setCell_29 ?_
          refine g6_109 C0 s24 dX6_setCell_32 ?_
          refine V_iload_n C0 1 rfl 1 rfl dX6_setCell_35 ?_
          refine V_iald C0 8 s26 n26 dX6_setCell_36 ?_
          refine V_bi (fun y3 => ?_)
          refine V_istore_n C0 3 [(3, .int y3), (0, .ref (G.2 + 0)), (1, .int x1), (2, .int x2)] rfl (by decide) rfl dX6_setCell_37 ?_
          refine V_aload_n C0 0 rfl 1 rfl dX6_setCell_38 ?_
          refine g6_19 C0 dX6_setCell_39 ?_
          refine g6_109 C0 s24 dX6_setCell_42 ?_
          refine V_iload_n C0 1 rfl 2 rfl dX6_setCell_45 ?_
          refine V_iload_n C0 2 rfl 3 rfl dX6_setCell_46 ?_
          refine V_iast C0 8 s26 n26 dX6_setCell_47 (fun M4 => ?_)
          refine V_aload_n C0 0 rfl 1 rfl dX6_setCell_48 ?_
          refine k6_77 C0 (by decide) (fun lq rq Mq hh => mc_f_LP_workAnew lq  M4 rq Mq  hh) (Nat.le_of_ble_eq_true rfl) dX6_setCell_49 (fun _ M5 => ?_)
          refine V_iload_n C0 3 rfl 0 rfl dX6_setCell_52 ?_
          exact V_iret C0 dX6_setCell_53
        · refine V_ldc C0 wk6_50 dX6_setCell_21 ?_
          exact V_iret C0 dX6_setCell_23)
set_option maxRecDepth 100000 in
set_option maxHeartbeats 4000000 in
theorem mc_f_LP_setPlaces {G : GT} (l : Launch) (x1 : Int32) (M : Mem) (r : Int32) (M1 : Mem) (ho : f_LP_setPlaces x1 M = some (r, M1)) : MC l G yX6_setPlaces cX6_setPlaces 3 (some .int) 7 [.ref (G.2 + 0), .int x1] M (vI r) M1 :=
  MC.ofV (own := RX6) (lv := [(0, .ref (G.2 + 0)), (1, .int x1)]) (by decide +kernel) rfl rfl (Nat.le_of_ble_eq_true rfl) ho (fun X hX C0 => by
    unfold f_LP_setPlaces
    refine V_iload_n C0 1 rfl 1 rfl dX6_setPlaces_0 ?_
    refine k6_113 C0 (by decide) (fun lq rq Mq hh => mc_f_LP_arePlaces lq x1 M rq Mq  hh) (Nat.le_of_ble_eq_true rfl) dX6_setPlaces_1 (fun r1 M1 => ?_)
    refine V_ifne C0 10 dX6_setPlaces_4 (by decide) (fun _ => ?_) (fun _ => ?_)
    · refine V_aload_n C0 0 rfl 0 rfl dX6_setPlaces_10 ?_
      refine k6_67 C0 (by decide) (fun lq rq Mq hh => mc_f_LP_recordState lq  M1 rq Mq  hh) (Nat.le_of_ble_eq_true rfl) dX6_setPlaces_11 (fun _ M2 => ?_)
      refine V_aload_n C0 0 rfl 0 rfl dX6_setPlaces_14 ?_
      refine g6_19 C0 dX6_setPlaces_15 ?_
      refine g6_116 C0 s24 dX6_setPlaces_18 ?_
      refine V_bi (fun y3 => ?_)
      refine V_istore_n C0 2 [(2, .int y3), (0, .ref (G.2 + 0)), (1, .int x1)] rfl (by decide) rfl dX6_setPlaces_21 ?_
      refine V_aload_n C0 0 rfl 1 rfl dX6_setPlaces_22 ?_
      refine g6_19 C0 dX6_setPlaces_23 ?_
      refine V_iload_n C0 1 rfl 2 rfl dX6_setPlaces_26 ?_
      refine p6_116 C0 s24 dX6_setPlaces_27 (fun M4 => ?_)
      refine V_iload_n C0 2 rfl 0 rfl dX6_setPlaces_30 ?_
      exact V_iret C0 dX6_setPlaces_31
    · refine V_ldc C0 wk6_50 dX6_setPlaces_7 ?_
      exact V_iret C0 dX6_setPlaces_9)
set_option maxRecDepth 100000 in
set_option maxHeartbeats 4000000 in
theorem f_LP_turn_b55_ok {X : XT} {G : GT} (C0 : Cx X G cX6_turn 4 RX6 (some .int)) (x1 : Int32) (x2 : Int32) (M : Mem) : V X G 7 vI 4 55 [(0, .ref (G.2 + 0)), (1, .int x1), (2, .int x2)] [] M (f_LP_turn_b55 x1 x2 M) := by
  unfold f_LP_turn_b55
  refine V_aload_n C0 0 rfl 0 rfl dX6_turn_55 ?_
  refine k6_67 C0 (by decide) (fun lq rq Mq hh => mc_f_LP_recordState lq  M rq Mq  hh) (Nat.le_of_ble_eq_true rfl) dX6_turn_56 (fun _ M1 => ?_)
  refine V_aload_n C0 0 rfl 0 rfl dX6_turn_59 ?_
  refine g6_19 C0 dX6_turn_60 ?_
  refine g6_86 C0 s24 dX6_turn_63 ?_
  refine V_iload_n C0 1 rfl 1 rfl dX6_turn_66 ?_
  refine V_aaldF C0 27 s25 rfl dX6_turn_67 (fun q2 => ?_)
  refine V_iload_n C0 2 rfl 2 rfl dX6_turn_68 ?_
  refine k6_100 C0 q2 (by decide) (fun lq rq Mq hh => mc_f_Form_exchange lq (27 + 3 * ix x1) x2 M1 rq Mq q2 hh) (Nat.le_of_ble_eq_true rfl) dX6_turn_69 (fun _ M3 => ?_)
  refine V_aload_n C0 0 rfl 0 rfl dX6_turn_72 ?_
  refine k6_77 C0 (by decide) (fun lq rq Mq hh => mc_f_LP_workAnew lq  M3 rq Mq  hh) (Nat.le_of_ble_eq_true rfl) dX6_turn_73 (fun _ M4 => ?_)
  refine V_aload_n C0 0 rfl 0 rfl dX6_turn_76 ?_
  refine g6_29 C0 dX6_turn_77 ?_
  refine V_iload_n C0 1 rfl 1 rfl dX6_turn_80 ?_
  refine V_aaldE C0 dX6_turn_81 (fun q5 => ?_)
  refine V_iconst C0 dX6_turn_82 ic_0 ?_
  refine k6_103 C0 q5 (by decide) (fun lq rq Mq hh => mc_f_Expanded_needOf lq (160 + 8 * ix x1) 0 M4 rq Mq q5 hh) (Nat.le_of_ble_eq_true rfl) dX6_turn_83 (fun r6 M6 => ?_)
  exact V_iret C0 dX6_turn_86
set_option maxRecDepth 100000 in
set_option maxHeartbeats 4000000 in
theorem mc_f_LP_turn {G : GT} (l : Launch) (x1 : Int32) (x2 : Int32) (M : Mem) (r : Int32) (M1 : Mem) (ho : f_LP_turn x1 x2 M = some (r, M1)) : MC l G yX6_turn cX6_turn 4 (some .int) 7 [.ref (G.2 + 0), .int x1, .int x2] M (vI r) M1 :=
  MC.ofV (own := RX6) (lv := [(0, .ref (G.2 + 0)), (1, .int x1), (2, .int x2)]) (by decide +kernel) rfl rfl (Nat.le_of_ble_eq_true rfl) ho (fun X hX C0 => by
    unfold f_LP_turn
    refine V_aload_n C0 0 rfl 0 rfl dX6_turn_0 ?_
    refine V_iload_n C0 1 rfl 1 rfl dX6_turn_1 ?_
    refine k6_83 C0 (by decide) (fun lq rq Mq hh => mc_f_LP_isFormula lq x1 M rq Mq  hh) (Nat.le_of_ble_eq_true rfl) dX6_turn_2 (fun r1 M1 => ?_)
    refine V_ifeq C0 24 dX6_turn_5 (by decide) (fun _ => ?_) (fun _ => ?_)
    · refine V_ldc C0 wk6_50 dX6_turn_24 ?_
      exact V_iret C0 dX6_turn_26
    · refine V_aload_n C0 0 rfl 0 rfl dX6_turn_8 ?_
      refine g6_19 C0 dX6_turn_9 ?_
      refine g6_86 C0 s24 dX6_turn_12 ?_
      refine V_iload_n C0 1 rfl 1 rfl dX6_turn_15 ?_
      refine V_aaldF C0 27 s25 rfl dX6_turn_16 (fun q2 => ?_)
      refine V_iload_n C0 2 rfl 2 rfl dX6_turn_17 ?_
      refine k6_90 C0 q2 (by decide) (fun lq rq Mq hh => mc_f_Form_has lq (27 + 3 * ix x1) x2 M1 rq Mq q2 hh) (Nat.le_of_ble_eq_true rfl) dX6_turn_18 (fun r3 M3 => ?_)
      refine V_ifne C0 27 dX6_turn_21 (by decide) (fun _ => ?_) (fun _ => ?_)
      · refine V_aload_n C0 0 rfl 0 rfl dX6_turn_27 ?_
        refine g6_19 C0 dX6_turn_28 ?_
        refine g6_86 C0 s24 dX6_turn_31 ?_
        refine V_iload_n C0 1 rfl 1 rfl dX6_turn_34 ?_
        refine V_aaldF C0 27 s25 rfl dX6_turn_35 (fun q4 => ?_)
        refine V_iload_n C0 2 rfl 2 rfl dX6_turn_36 ?_
        refine k6_95 C0 q4 (by decide) (fun lq rq Mq hh => mc_f_Form_kindOf lq (27 + 3 * ix x1) x2 M3 rq Mq q4 hh) (Nat.le_of_ble_eq_true rfl) dX6_turn_37 (fun r5 M5 => ?_)
        refine V_istore_n C0 3 [(3, .int r5), (0, .ref (G.2 + 0)), (1, .int x1), (2, .int x2)] rfl (by decide) rfl dX6_turn_40 ?_
        refine V_iload_n C0 3 rfl 0 rfl dX6_turn_41 ?_
        refine V_iconst C0 dX6_turn_42 ic_4 ?_
        refine V_icmpeq C0 55 dX6_turn_43 (by decide) (fun _ => ?_) (fun _ => ?_)
        · exact V_sub [1, 2, 3] rfl (f_LP_turn_b55_ok C0 x1 x2 M5)
        · refine V_iload_n C0 3 rfl 0 rfl dX6_turn_46 ?_
          refine V_bipush C0 dX6_turn_47 bp_6 ?_
          refine V_icmpeq C0 55 dX6_turn_49 (by decide) (fun _ => ?_) (fun _ => ?_)
          · exact V_sub [1, 2, 3] rfl (f_LP_turn_b55_ok C0 x1 x2 M5)
          · refine V_ldc C0 wk6_99 dX6_turn_52 ?_
            exact V_iret C0 dX6_turn_54
      · refine V_ldc C0 wk6_50 dX6_turn_24 ?_
        exact V_iret C0 dX6_turn_26)
