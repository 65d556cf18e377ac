set_option maxRecDepth 100000 in
set_option maxHeartbeats 4000000 in
theorem f_LP_usesOf_b72_ok {X : XT} {G : GT} (C0 : Cx X G cX6_usesOf 7 RX6 (some .int)) (k4 : Int32 → Int32 → Int32 → Mem → Option (Int32 × Mem)) (k35 : Int32 → Int32 → Int32 → Nat → Int32 → Mem → Option (Int32 × Mem)) (hk4 : ∀ (x1 : Int32) (x2 : Int32) (x3 : Int32) (M : Mem), V X G 2 vI 7 4 [(0, .ref (G.2 + 0)), (1, .int x1), (2, .int x2), (3, .int x3)] [] M (k4 x1 x2 x3 M)) (hk35 : ∀ (x1 : Int32) (x2 : Int32) (x3 : Int32) (a4 : Nat) (x5 : Int32) (M : Mem), (sh a4).1 = 1 → V X G 2 vI 7 35 [(0, .ref (G.2 + 0)), (1, .int x1), (2, .int x2), (3, .int x3), (4, .ref (G.2 + a4)), (5, .int x5)] [] M (k35 x1 x2 x3 a4 x5 M)) (x1 : Int32) (x2 : Int32) (x3 : Int32) (a4 : Nat) (x5 : Int32) (t0 : Int32) (M : Mem) (h_a4 : (sh a4).1 = 1) : V X G 2 vI 7 72 [(0, .ref (G.2 + 0)), (1, .int x1), (2, .int x2), (3, .int x3), (4, .ref (G.2 + a4)), (5, .int x5)] [.int t0] M (f_LP_usesOf_b72 k4 k35 x1 x2 x3 a4 x5 t0 M) := by
  unfold f_LP_usesOf_b72
  refine V_istore C0 6 [(6, .int t0), (0, .ref (G.2 + 0)), (1, .int x1), (2, .int x2), (3, .int x3), (4, .ref (G.2 + a4)), (5, .int x5)] (by decide) rfl dX6_usesOf_72 ?_
  refine V_iload_n C0 2 rfl 3 rfl dX6_usesOf_74 ?_
  refine V_iload C0 6 0 rfl dX6_usesOf_75 ?_
  refine V_ifeq C0 84 dX6_usesOf_77 (by decide) (fun _ => ?_) (fun _ => ?_)
  · refine V_iconst C0 dX6_usesOf_84 ic_0 ?_
    refine V_iadd C0 dX6_usesOf_85 ?_
    refine V_bi (fun y1 => ?_)
    refine V_istore_n C0 2 [(2, .int y1), (6, .int t0), (0, .ref (G.2 + 0)), (1, .int x1), (3, .int x3), (4, .ref (G.2 + a4)), (5, .int x5)] rfl (by decide) rfl dX6_usesOf_86 ?_
    refine V_iincB C0 5 6 (fun y2 => [(5, .int y2), (2, .int y1), (6, .int t0), (0, .ref (G.2 + 0)), (1, .int x1), (3, .int x3), (4, .ref (G.2 + a4))]) rfl ic_1 (by decide) (fun _ => rfl) dX6_usesOf_87 (fun y2 => ?_)
    refine V_goto C0 35 dX6_usesOf_90 (by decide) ?_
    exact V_sub [3, 4, 1, 5, 6, 0] rfl (hk35 x1 y1 x3 a4 y2 M h_a4)
  · refine V_iconst C0 dX6_usesOf_80 ic_1 ?_
    refine V_goto C0 85 dX6_usesOf_81 (by decide) ?_
    refine V_iadd C0 dX6_usesOf_85 ?_
    refine V_bi (fun y3 => ?_)
    refine V_istore_n C0 2 [(2, .int y3), (6, .int t0), (0, .ref (G.2 + 0)), (1, .int x1), (3, .int x3), (4, .ref (G.2 + a4)), (5, .int x5)] rfl (by decide) rfl dX6_usesOf_86 ?_
    refine V_iincB C0 5 6 (fun y4 => [(5, .int y4), (2, .int y3), (6, .int t0), (0, .ref (G.2 + 0)), (1, .int x1), (3, .int x3), (4, .ref (G.2 + a4))]) rfl ic_1 (by decide) (fun _ => rfl) dX6_usesOf_87 (fun y4 => ?_)
    refine V_goto C0 35 dX6_usesOf_90 (by decide) ?_
    exact V_sub [3, 4, 1, 5, 6, 0] rfl (hk35 x1 y3 x3 a4 y4 M h_a4)
set_option maxRecDepth 100000 in
set_option maxHeartbeats 4000000 in
theorem f_LP_usesOf_b71_ok {X : XT} {G : GT} (C0 : Cx X G cX6_usesOf 7 RX6 (some .int)) (k4 : Int32 → Int32 → Int32 → Mem → Option (Int32 × Mem)) (k35 : Int32 → Int32 → Int32 → Nat → Int32 → Mem → Option (Int32 × Mem)) (hk4 : ∀ (x1 : Int32) (x2 : Int32) (x3 : Int32) (M : Mem), V X G 2 vI 7 4 [(0, .ref (G.2 + 0)), (1, .int x1), (2, .int x2), (3, .int x3)] [] M (k4 x1 x2 x3 M)) (hk35 : ∀ (x1 : Int32) (x2 : Int32) (x3 : Int32) (a4 : Nat) (x5 : Int32) (M : Mem), (sh a4).1 = 1 → V X G 2 vI 7 35 [(0, .ref (G.2 + 0)), (1, .int x1), (2, .int x2), (3, .int x3), (4, .ref (G.2 + a4)), (5, .int x5)] [] M (k35 x1 x2 x3 a4 x5 M)) (x1 : Int32) (x2 : Int32) (x3 : Int32) (a4 : Nat) (x5 : Int32) (M : Mem) (h_a4 : (sh a4).1 = 1) : V X G 2 vI 7 71 [(0, .ref (G.2 + 0)), (1, .int x1), (2, .int x2), (3, .int x3), (4, .ref (G.2 + a4)), (5, .int x5)] [] M (f_LP_usesOf_b71 k4 k35 x1 x2 x3 a4 x5 M) := by
  unfold f_LP_usesOf_b71
  refine V_iconst C0 dX6_usesOf_71 ic_0 ?_
  exact V_sub [0, 1, 2, 3, 4, 5] rfl (f_LP_usesOf_b72_ok C0 k4 k35 hk4 hk35 x1 x2 x3 a4 x5 0 M h_a4)
set_option maxRecDepth 100000 in
set_option maxHeartbeats 4000000 in
theorem f_LP_usesOf_b35_ok {X : XT} {G : GT} (C0 : Cx X G cX6_usesOf 7 RX6 (some .int)) (k4 : Int32 → Int32 → Int32 → Mem → Option (Int32 × Mem)) (hk4 : ∀ (x1 : Int32) (x2 : Int32) (x3 : Int32) (M : Mem), V X G 2 vI 7 4 [(0, .ref (G.2 + 0)), (1, .int x1), (2, .int x2), (3, .int x3)] [] M (k4 x1 x2 x3 M)) : ∀ (n : Nat) (x1 : Int32) (x2 : Int32) (x3 : Int32) (a4 : Nat) (x5 : Int32) (M : Mem), (sh a4).1 = 1 → V X G 2 vI 7 35 [(0, .ref (G.2 + 0)), (1, .int x1), (2, .int x2), (3, .int x3), (4, .ref (G.2 + a4)), (5, .int x5)] [] M (f_LP_usesOf_b35 k4 n x1 x2 x3 a4 x5 M) := by
  intro n
  induction n with
  | zero =>
    intros
    exact V_none
  | succ n ih =>
    intro x1 x2 x3 a4 x5 M h_a4
    rw [f_LP_usesOf_b35]
    refine V_iload C0 5 5 rfl dX6_usesOf_35 ?_
    refine V_aload C0 4 4 rfl dX6_usesOf_37 ?_
    refine g6_135 C0 h_a4 dX6_usesOf_39 ?_
    refine V_icmpge C0 93 dX6_usesOf_42 (by decide) (fun _ => ?_) (fun _ => ?_)
    · refine V_iincB C0 3 3 (fun y1 => [(3, .int y1), (0, .ref (G.2 + 0)), (1, .int x1), (2, .int x2), (4, .ref (G.2 + a4)), (5, .int x5)]) rfl ic_1 (by decide) (fun _ => rfl) dX6_usesOf_93 (fun y1 => ?_)
      refine V_goto C0 4 dX6_usesOf_96 (by decide) ?_
      exact V_sub [1, 2, 3, 0] rfl (hk4 x1 x2 y1 M)
    · refine V_aload C0 4 4 rfl dX6_usesOf_45 ?_
      refine V_iload C0 5 5 rfl dX6_usesOf_47 ?_
      refine k6_95 C0 h_a4 (by decide) (fun lq rq Mq hh => mc_f_Form_kindOf lq a4 x5 M rq Mq h_a4 hh) (Nat.le_of_ble_eq_true rfl) dX6_usesOf_49 (fun r2 M2 => ?_)
      refine V_iconst C0 dX6_usesOf_52 ic_2 ?_
      refine V_icmpne C0 71 dX6_usesOf_53 (by decide) (fun _ => ?_) (fun _ => ?_)
      · exact V_sub [0, 1, 2, 3, 4, 5] rfl (f_LP_usesOf_b71_ok C0 k4 (f_LP_usesOf_b35 k4 n) hk4 ih x1 x2 x3 a4 x5 M2 h_a4)
      · refine V_aload C0 4 4 rfl dX6_usesOf_56 ?_
        refine V_iload C0 5 5 rfl dX6_usesOf_58 ?_
        refine k6_158 C0 h_a4 (by decide) (fun lq rq Mq hh => mc_f_Form_contentOf lq a4 x5 M2 rq Mq h_a4 hh) (Nat.le_of_ble_eq_true rfl) dX6_usesOf_60 (fun r3 M3 => ?_)
        refine V_iload_n C0 1 rfl 1 rfl dX6_usesOf_63 ?_
        refine V_icmpne C0 71 dX6_usesOf_64 (by decide) (fun _ => ?_) (fun _ => ?_)
        · exact V_sub [0, 1, 2, 3, 4, 5] rfl (f_LP_usesOf_b71_ok C0 k4 (f_LP_usesOf_b35 k4 n) hk4 ih x1 x2 x3 a4 x5 M3 h_a4)
        · refine V_iconst C0 dX6_usesOf_67 ic_1 ?_
          refine V_goto C0 72 dX6_usesOf_68 (by decide) ?_
          exact V_sub [0, 1, 2, 3, 4, 5] rfl (f_LP_usesOf_b72_ok C0 k4 (f_LP_usesOf_b35 k4 n) hk4 ih x1 x2 x3 a4 x5 1 M3 h_a4)
set_option maxRecDepth 100000 in
set_option maxHeartbeats 4000000 in
theorem f_LP_usesOf_b4_ok {X : XT} {G : GT} (C0 : Cx X G cX6_usesOf 7 RX6 (some .int)) : ∀ (n : Nat) (x1 : Int32) (x2 : Int32) (x3 : Int32) (M : Mem), V X G 2 vI 7 4 [(0, .ref (G.2 + 0)), (1, .int x1), (2, .int x2), (3, .int x3)] [] M (f_LP_usesOf_b4 n x1 x2 x3 M) := by
  intro n
  induction n with
  | zero =>
    intros
    exact V_none
  | succ n ih =>
    intro x1 x2 x3 M
    rw [f_LP_usesOf_b4]
    refine V_iload_n C0 3 rfl 3 rfl dX6_usesOf_4 ?_
    refine V_aload_n C0 0 rfl 0 rfl dX6_usesOf_5 ?_
    refine g6_19 C0 dX6_usesOf_6 ?_
    refine g6_80 C0 s24 dX6_usesOf_9 ?_
    refine V_icmpge C0 99 dX6_usesOf_12 (by decide) (fun _ => ?_) (fun _ => ?_)
    · refine V_iload_n C0 2 rfl 2 rfl dX6_usesOf_99 ?_
      exact V_iret C0 dX6_usesOf_100
    · refine V_iload_n C0 3 rfl 3 rfl dX6_usesOf_15 ?_
      refine V_bipush C0 dX6_usesOf_16 bp_6 ?_
      refine V_icmpge C0 99 dX6_usesOf_18 (by decide) (fun _ => ?_) (fun _ => ?_)
      · refine V_iload_n C0 2 rfl 2 rfl dX6_usesOf_99 ?_
        exact V_iret C0 dX6_usesOf_100
      · refine V_aload_n C0 0 rfl 0 rfl dX6_usesOf_21 ?_
        refine g6_29 C0 dX6_usesOf_22 ?_
        refine V_iload_n C0 3 rfl 3 rfl dX6_usesOf_25 ?_
        refine V_aaldE C0 dX6_usesOf_26 (fun q1 => ?_)
        refine g6_138 C0 q1 dX6_usesOf_27 ?_
        refine V_bn (tE1 q1) (fun b2 h_b2 => ?_)
        refine V_astore C0 4 [(4, .ref (G.2 + b2)), (0, .ref (G.2 + 0)), (1, .int x1), (2, .int x2), (3, .int x3)] (by decide) rfl dX6_usesOf_30 ?_
        refine V_iconst C0 dX6_usesOf_32 ic_0 ?_
        refine V_istore C0 5 [(5, .int 0), (4, .ref (G.2 + b2)), (0, .ref (G.2 + 0)), (1, .int x1), (2, .int x2), (3, .int x3)] (by decide) rfl dX6_usesOf_33 ?_
        exact V_sub [2, 3, 4, 5, 1, 0] rfl (f_LP_usesOf_b35_ok C0 (f_LP_usesOf_b4 n) ih FU x1 x2 x3 b2 0 M h_b2)
set_option maxRecDepth 100000 in
set_option maxHeartbeats 4000000 in
theorem mc_f_LP_usesOf {G : GT} (l : Launch) (x1 : Int32) (M : Mem) (r : Int32) (M1 : Mem) (ho : f_LP_usesOf x1 M = some (r, M1)) : MC l G yX6_usesOf cX6_usesOf 7 (some .int) 2 [.ref (G.2 + 0), .int x1] M (vI r) M1 :=
  MC.ofV (own := RX6) (lv := [(0, .ref (G.2 + 0)), (1, .int x1)]) (by decide +kernel) rfl rfl (Nat.le_of_ble_eq_true rfl) ho (fun X hX C0 => by
    unfold f_LP_usesOf
    refine V_iconst C0 dX6_usesOf_0 ic_0 ?_
    refine V_istore_n C0 2 [(2, .int 0), (0, .ref (G.2 + 0)), (1, .int x1)] rfl (by decide) rfl dX6_usesOf_1 ?_
    refine V_iconst C0 dX6_usesOf_2 ic_0 ?_
    refine V_istore_n C0 3 [(3, .int 0), (2, .int 0), (0, .ref (G.2 + 0)), (1, .int x1)] rfl (by decide) rfl dX6_usesOf_3 ?_
    exact V_sub [2, 3, 1, 0] rfl (f_LP_usesOf_b4_ok C0 FU x1 0 0 M))
set_option maxRecDepth 100000 in
set_option maxHeartbeats 4000000 in
theorem mc_f_LP_formula {G : GT} (l : Launch) (x1 : Int32) (x2 : Int32) (M : Mem) (r : Int32) (M1 : Mem) (ho : f_LP_formula x1 x2 M = some (r, M1)) : MC l G yX6_formula cX6_formula 4 (some .int) 3 [.ref (G.2 + 0), .int x1, .int x2] M (vI r) M1 :=
  MC.ofV (own := RX6) (lv := [(0, .ref (G.2 + 0)), (1, .int x1), (2, .int x2)]) (by decide +kernel) rfl rfl (Nat.le_of_ble_eq_true rfl) ho (fun X hX C0 => by
    unfold f_LP_formula
    refine V_aload_n C0 0 rfl 0 rfl dX6_formula_0 ?_
    refine V_iload_n C0 1 rfl 1 rfl dX6_formula_1 ?_
    refine k6_83 C0 (by decide) (fun lq rq Mq hh => mc_f_LP_isFormula lq x1 M rq Mq  hh) (Nat.le_of_ble_eq_true rfl) dX6_formula_2 (fun r1 M1 => ?_)
    refine V_ifne C0 11 dX6_formula_5 (by decide) (fun _ => ?_) (fun _ => ?_)
    · refine V_aload_n C0 0 rfl 0 rfl dX6_formula_11 ?_
      refine g6_29 C0 dX6_formula_12 ?_
      refine V_iload_n C0 1 rfl 1 rfl dX6_formula_15 ?_
      refine V_aaldE C0 dX6_formula_16 (fun q2 => ?_)
      refine V_bn q2 (fun b3 h_b3 => ?_)
      refine V_astore_n C0 3 [(3, .ref (G.2 + b3)), (0, .ref (G.2 + 0)), (1, .int x1), (2, .int x2)] rfl (by decide) rfl dX6_formula_17 ?_
      refine V_iload_n C0 2 rfl 3 rfl dX6_formula_18 ?_
      refine V_ts C0 0 60 dX6_formula_19 (by decide) (by decide) rfl (by decide) (fun _ => ?_) (fun hs0 => ?_)
      · refine V_aload_n C0 0 rfl 1 rfl dX6_formula_60 ?_
        refine g6_19 C0 dX6_formula_61 ?_
        refine g6_86 C0 s24 dX6_formula_64 ?_
        refine V_iload_n C0 1 rfl 2 rfl dX6_formula_67 ?_
        refine V_aaldF C0 27 s25 rfl dX6_formula_68 (fun q4 => ?_)
        refine g6_135 C0 q4 dX6_formula_69 ?_
        exact V_iret C0 dX6_formula_72
      refine V_ts C0 1 73 dX6_formula_19 (by decide) (by decide) rfl (by decide) (fun _ => ?_) (fun hs1 => ?_)
      · refine V_aload_n C0 3 rfl 0 rfl dX6_formula_73 ?_
        refine g6_138 C0 h_b3 dX6_formula_74 ?_
        refine g6_135 C0 (tE1 h_b3) dX6_formula_77 ?_
        exact V_iret C0 dX6_formula_80
      refine V_ts C0 2 81 dX6_formula_19 (by decide) (by decide) rfl (by decide) (fun _ => ?_) (fun hs2 => ?_)
      · refine V_aload_n C0 3 rfl 0 rfl dX6_formula_81 ?_
        refine V_iconst C0 dX6_formula_82 ic_0 ?_
        refine k6_103 C0 h_b3 (by decide) (fun lq rq Mq hh => mc_f_Expanded_needOf lq b3 0 M1 rq Mq h_b3 hh) (Nat.le_of_ble_eq_true rfl) dX6_formula_83 (fun r5 M5 => ?_)
        exact V_iret C0 dX6_formula_86
      refine V_ts C0 3 87 dX6_formula_19 (by decide) (by decide) rfl (by decide) (fun _ => ?_) (fun hs3 => ?_)
      · refine V_aload_n C0 3 rfl 0 rfl dX6_formula_87 ?_
        refine g6_142 C0 h_b3 dX6_formula_88 ?_
        refine V_ifeq C0 98 dX6_formula_91 (by decide) (fun _ => ?_) (fun _ => ?_)
        · refine V_iconst C0 dX6_formula_98 ic_0 ?_
          exact V_iret C0 dX6_formula_99
        · refine V_iconst C0 dX6_formula_94 ic_1 ?_
          refine V_goto C0 99 dX6_formula_95 (by decide) ?_
          exact V_iret C0 dX6_formula_99
      refine V_ts C0 4 100 dX6_formula_19 (by decide) (by decide) rfl (by decide) (fun _ => ?_) (fun hs4 => ?_)
      · refine V_aload_n C0 3 rfl 0 rfl dX6_formula_100 ?_
        refine V_iconst C0 dX6_formula_101 ic_0 ?_
        refine k6_146 C0 h_b3 (by decide) (fun lq rq Mq hh => mc_f_Expanded_valueOf lq b3 0 M1 rq Mq h_b3 hh) (Nat.le_of_ble_eq_true rfl) dX6_formula_102 (fun r6 M6 => ?_)
        exact V_iret C0 dX6_formula_105
      refine V_ts C0 5 106 dX6_formula_19 (by decide) (by decide) rfl (by decide) (fun _ => ?_) (fun hs5 => ?_)
      · refine V_aload_n C0 3 rfl 0 rfl dX6_formula_106 ?_
        refine V_iconst C0 dX6_formula_107 ic_0 ?_
        refine k6_149 C0 h_b3 (by decide) (fun lq rq Mq hh => mc_f_Expanded_depthOf lq b3 0 M1 rq Mq h_b3 hh) (Nat.le_of_ble_eq_true rfl) dX6_formula_108 (fun r7 M7 => ?_)
        exact V_iret C0 dX6_formula_111
      refine V_ts C0 6 112 dX6_formula_19 (by decide) (by decide) rfl (by decide) (fun _ => ?_) (fun hs6 => ?_)
      · refine V_aload_n C0 0 rfl 1 rfl dX6_formula_112 ?_
        refine V_iload_n C0 1 rfl 2 rfl dX6_formula_113 ?_
        refine k6_152 C0 (by decide) (fun lq rq Mq hh => mc_f_LP_usesOf lq x1 M1 rq Mq  hh) (Nat.le_of_ble_eq_true rfl) dX6_formula_114 (fun r8 M8 => ?_)
        exact V_iret C0 dX6_formula_117
      refine V_tsO C0 118 dX6_formula_19 (by have hz0 := lv_neT hs0 (a := 0) rfl; have hz1 := lv_neT hs1 (a := 1) rfl; have hz2 := lv_neT hs2 (a := 2) rfl; have hz3 := lv_neT hs3 (a := 3) rfl; have hz4 := lv_neT hs4 (a := 4) rfl; have hz5 := lv_neT hs5 (a := 5) rfl; have hz6 := lv_neT hs6 (a := 6) rfl; omega) (by decide) ?_
      refine V_ldc C0 wk6_50 dX6_formula_118 ?_
      exact V_iret C0 dX6_formula_120
    · refine V_ldc C0 wk6_50 dX6_formula_8 ?_
      exact V_iret C0 dX6_formula_10)
set_option maxRecDepth 100000 in
set_option maxHeartbeats 4000000 in
theorem mc_f_LP_node {G : GT} (l : Launch) (x1 : Int32) (x2 : Int32) (x3 : Int32) (M : Mem) (r : Int32) (M1 : Mem) (ho : f_LP_node x1 x2 x3 M = some (r, M1)) : MC l G yX6_node cX6_node 6 (some .int) 3 [.ref (G.2 + 0), .int x1, .int x2, .int x3] M (vI r) M1 :=
  MC.ofV (own := RX6) (lv := [(0, .ref (G.2 + 0)), (1, .int x1), (2, .int x2), (3, .int x3)]) (by decide +kernel) rfl rfl (Nat.le_of_ble_eq_true rfl) ho (fun X hX C0 => by
    unfold f_LP_node
    refine V_aload_n C0 0 rfl 0 rfl dX6_node_0 ?_
    refine V_iload_n C0 1 rfl 1 rfl dX6_node_1 ?_
    refine k6_83 C0 (by decide) (fun lq rq Mq hh => mc_f_LP_isFormula lq x1 M rq Mq  hh) (Nat.le_of_ble_eq_true rfl) dX6_node_2 (fun r1 M1 => ?_)
    refine V_ifeq C0 24 dX6_node_5 (by decide) (fun _ => ?_) (fun _ => ?_)
    · refine V_ldc C0 wk6_50 dX6_node_24 ?_
      exact V_iret C0 dX6_node_26
    · refine V_aload_n C0 0 rfl 0 rfl dX6_node_8 ?_
      refine g6_29 C0 dX6_node_9 ?_
      refine V_iload_n C0 1 rfl 1 rfl dX6_node_12 ?_
      refine V_aaldE C0 dX6_node_13 (fun q2 => ?_)
      refine g6_138 C0 q2 dX6_node_14 ?_
      refine V_iload_n C0 2 rfl 2 rfl dX6_node_17 ?_
      refine k6_90 C0 (tE1 q2) (by decide) (fun lq rq Mq hh => mc_f_Form_has lq ((160 + 8 * ix x1) + 1) x2 M1 rq Mq (tE1 q2) hh) (Nat.le_of_ble_eq_true rfl) dX6_node_18 (fun r3 M3 => ?_)
      refine V_ifne C0 27 dX6_node_21 (by decide) (fun _ => ?_) (fun _ => ?_)
      · refine V_aload_n C0 0 rfl 0 rfl dX6_node_27 ?_
        refine g6_29 C0 dX6_node_28 ?_
        refine V_iload_n C0 1 rfl 1 rfl dX6_node_31 ?_
        refine V_aaldE C0 dX6_node_32 (fun q4 => ?_)
        refine V_bn q4 (fun b5 h_b5 => ?_)
        refine V_astore C0 4 [(4, .ref (G.2 + b5)), (0, .ref (G.2 + 0)), (1, .int x1), (2, .int x2), (3, .int x3)] (by decide) rfl dX6_node_33 ?_
        refine V_aload C0 4 0 rfl dX6_node_35 ?_
        refine g6_138 C0 h_b5 dX6_node_37 ?_
        refine V_iload_n C0 2 rfl 3 rfl dX6_node_40 ?_
        refine k6_95 C0 (tE1 h_b5) (by decide) (fun lq rq Mq hh => mc_f_Form_kindOf lq (b5 + 1) x2 M3 rq Mq (tE1 h_b5) hh) (Nat.le_of_ble_eq_true rfl) dX6_node_41 (fun r6 M6 => ?_)
        refine k6_155 C0 (by decide) (fun lq rq Mq hh => mc_f_LP_partsOf lq r6 M6 rq Mq  hh) (Nat.le_of_ble_eq_true rfl) dX6_node_44 (fun r7 M7 => ?_)
        refine V_istore C0 5 [(5, .int r7), (4, .ref (G.2 + b5)), (0, .ref (G.2 + 0)), (1, .int x1), (2, .int x2), (3, .int x3)] (by decide) rfl dX6_node_47 ?_
        refine V_iload_n C0 3 rfl 5 rfl dX6_node_49 ?_
        refine V_ts C0 0 92 dX6_node_50 (by decide) (by decide) rfl (by decide) (fun _ => ?_) (fun hs0 => ?_)
        · refine V_aload C0 4 1 rfl dX6_node_92 ?_
          refine g6_138 C0 h_b5 dX6_node_94 ?_
          refine V_iload_n C0 2 rfl 4 rfl dX6_node_97 ?_
          refine k6_95 C0 (tE1 h_b5) (by decide) (fun lq rq Mq hh => mc_f_Form_kindOf lq (b5 + 1) x2 M7 rq Mq (tE1 h_b5) hh) (Nat.le_of_ble_eq_true rfl) dX6_node_98 (fun r8 M8 => ?_)
          exact V_iret C0 dX6_node_101
        refine V_ts C0 1 102 dX6_node_50 (by decide) (by decide) rfl (by decide) (fun _ => ?_) (fun hs1 => ?_)
        · refine V_iload C0 5 0 rfl dX6_node_102 ?_
          refine V_ifne C0 119 dX6_node_104 (by decide) (fun _ => ?_) (fun _ => ?_)
          · refine V_ldc C0 wk6_161 dX6_node_119 ?_
            exact V_iret C0 dX6_node_121
          · refine V_aload C0 4 1 rfl dX6_node_107 ?_
            refine g6_138 C0 h_b5 dX6_node_109 ?_
            refine V_iload_n C0 2 rfl 4 rfl dX6_node_112 ?_
            refine k6_158 C0 (tE1 h_b5) (by decide) (fun lq rq Mq hh => mc_f_Form_contentOf lq (b5 + 1) x2 M7 rq Mq (tE1 h_b5) hh) (Nat.le_of_ble_eq_true rfl) dX6_node_113 (fun r9 M9 => ?_)
            refine V_goto C0 121 dX6_node_116 (by decide) ?_
            exact V_iret C0 dX6_node_121
        refine V_ts C0 2 122 dX6_node_50 (by decide) (by decide) rfl (by decide) (fun _ => ?_) (fun hs2 => ?_)
        · refine V_iload C0 5 0 rfl dX6_node_122 ?_
          refine V_ifle C0 133 dX6_node_124 (by decide) (fun _ => ?_) (fun _ => ?_)
          · refine V_ldc C0 wk6_161 dX6_node_133 ?_
            exact V_iret C0 dX6_node_135
          · refine V_iload_n C0 2 rfl 4 rfl dX6_node_127 ?_
            refine V_iconst C0 dX6_node_128 ic_1 ?_
            refine V_iadd C0 dX6_node_129 ?_
            refine V_goto C0 135 dX6_node_130 (by decide) ?_
            exact V_iret C0 dX6_node_135
        refine V_ts C0 3 136 dX6_node_50 (by decide) (by decide) rfl (by decide) (fun _ => ?_) (fun hs3 => ?_)
        · refine V_iload C0 5 0 rfl dX6_node_136 ?_
          refine V_iconst C0 dX6_node_138 ic_1 ?_
          refine V_icmple C0 151 dX6_node_139 (by decide) (fun _ => ?_) (fun _ => ?_)
          · refine V_ldc C0 wk6_161 dX6_node_151 ?_
            exact V_iret C0 dX6_node_153
          · refine V_aload C0 4 1 rfl dX6_node_142 ?_
            refine V_iload_n C0 2 rfl 4 rfl dX6_node_144 ?_
            refine k6_162 C0 h_b5 (by decide) (fun lq rq Mq hh => mc_f_Expanded_rightOf lq b5 x2 M7 rq Mq h_b5 hh) (Nat.le_of_ble_eq_true rfl) dX6_node_145 (fun r10 M10 => ?_)
            refine V_goto C0 153 dX6_node_148 (by decide) ?_
            exact V_iret C0 dX6_node_153
        refine V_ts C0 4 154 dX6_node_50 (by decide) (by decide) rfl (by decide) (fun _ => ?_) (fun hs4 => ?_)
        · refine V_aload C0 4 1 rfl dX6_node_154 ?_
          refine V_iload_n C0 2 rfl 4 rfl dX6_node_156 ?_
          refine k6_103 C0 h_b5 (by decide) (fun lq rq Mq hh => mc_f_Expanded_needOf lq b5 x2 M7 rq Mq h_b5 hh) (Nat.le_of_ble_eq_true rfl) dX6_node_157 (fun r11 M11 => ?_)
          exact V_iret C0 dX6_node_160
        refine V_ts C0 5 161 dX6_node_50 (by decide) (by decide) rfl (by decide) (fun _ => ?_) (fun hs5 => ?_)
        · refine V_aload C0 4 1 rfl dX6_node_161 ?_
          refine V_iload_n C0 2 rfl 4 rfl dX6_node_163 ?_
          refine k6_165 C0 h_b5 (by decide) (fun lq rq Mq hh => mc_f_Expanded_sizeOf lq b5 x2 M7 rq Mq h_b5 hh) (Nat.le_of_ble_eq_true rfl) dX6_node_164 (fun r12 M12 => ?_)
          exact V_iret C0 dX6_node_167
        refine V_ts C0 6 168 dX6_node_50 (by decide) (by decide) rfl (by decide) (fun _ => ?_) (fun hs6 => ?_)
        · refine V_aload C0 4 1 rfl dX6_node_168 ?_
          refine V_iload_n C0 2 rfl 4 rfl dX6_node_170 ?_
          refine k6_146 C0 h_b5 (by decide) (fun lq rq Mq hh => mc_f_Expanded_valueOf lq b5 x2 M7 rq Mq h_b5 hh) (Nat.le_of_ble_eq_true rfl) dX6_node_171 (fun r13 M13 => ?_)
          exact V_iret C0 dX6_node_174
        refine V_tsO C0 175 dX6_node_50 (by have hz0 := lv_neT hs0 (a := 0) rfl; have hz1 := lv_neT hs1 (a := 1) rfl; have hz2 := lv_neT hs2 (a := 2) rfl; have hz3 := lv_neT hs3 (a := 3) rfl; have hz4 := lv_neT hs4 (a := 4) rfl; have hz5 := lv_neT hs5 (a := 5) rfl; have hz6 := lv_neT hs6 (a := 6) rfl; omega) (by decide) ?_
        refine V_ldc C0 wk6_50 dX6_node_175 ?_
        exact V_iret C0 dX6_node_177
      · refine V_ldc C0 wk6_50 dX6_node_24 ?_
        exact V_iret C0 dX6_node_26)
set_option maxRecDepth 100000 in
set_option maxHeartbeats 4000000 in
theorem mc_f_LP_plan {G : GT} (l : Launch) (x1 : Int32) (M : Mem) (r : Int32) (M1 : Mem) (ho : f_LP_plan x1 M = some (r, M1)) : MC l G yX6_plan cX6_plan 2 (some .int) 304 [.ref (G.2 + 0), .int x1] M (vI r) M1 :=
  MC.ofV (own := RX6) (lv := [(0, .ref (G.2 + 0)), (1, .int x1)]) (by decide +kernel) rfl rfl (Nat.le_of_ble_eq_true rfl) ho (fun X hX C0 => by
    unfold f_LP_plan
    refine V_aload_n C0 0 rfl 0 rfl dX6_plan_0 ?_
    refine g6_36 C0 dX6_plan_1 ?_
    refine V_aload_n C0 0 rfl 0 rfl dX6_plan_4 ?_
    refine g6_29 C0 dX6_plan_5 ?_
    refine V_aload_n C0 0 rfl 0 rfl dX6_plan_8 ?_
    refine g6_19 C0 dX6_plan_9 ?_
    refine g6_80 C0 s24 dX6_plan_12 ?_
    refine V_aload_n C0 0 rfl 0 rfl dX6_plan_15 ?_
    refine g6_19 C0 dX6_plan_16 ?_
    refine g6_116 C0 s24 dX6_plan_19 ?_
    refine k6_168 C0 (by decide) (fun lq rq Mq hh => mc_f_Plan_make lq (M.1 24 1) (M.1 24 3) M rq Mq  hh) (Nat.le_of_ble_eq_true rfl) dX6_plan_22 (fun _ M1 => ?_)
    refine V_iload_n C0 1 rfl 1 rfl dX6_plan_25 ?_
    refine V_ts C0 0 60 dX6_plan_26 (by decide) (by decide) rfl (by decide) (fun _ => ?_) (fun hs0 => ?_)
    · refine V_aload_n C0 0 rfl 0 rfl dX6_plan_60 ?_
      refine g6_36 C0 dX6_plan_61 ?_
      refine g6_172 C0 dX6_plan_64 ?_
      exact V_iret C0 dX6_plan_67
    refine V_ts C0 1 68 dX6_plan_26 (by decide) (by decide) rfl (by decide) (fun _ => ?_) (fun hs1 => ?_)
    · refine V_aload_n C0 0 rfl 0 rfl dX6_plan_68 ?_
      refine g6_36 C0 dX6_plan_69 ?_
      refine g6_173 C0 dX6_plan_72 ?_
      exact V_iret C0 dX6_plan_75
    refine V_ts C0 2 76 dX6_plan_26 (by decide) (by decide) rfl (by decide) (fun _ => ?_) (fun hs2 => ?_)
    · refine V_aload_n C0 0 rfl 0 rfl dX6_plan_76 ?_
      refine g6_36 C0 dX6_plan_77 ?_
      refine g6_176 C0 dX6_plan_80 ?_
      exact V_iret C0 dX6_plan_83
    refine V_ts C0 3 84 dX6_plan_26 (by decide) (by decide) rfl (by decide) (fun _ => ?_) (fun hs3 => ?_)
    · refine V_aload_n C0 0 rfl 0 rfl dX6_plan_84 ?_
      refine g6_36 C0 dX6_plan_85 ?_
      refine g6_179 C0 dX6_plan_88 ?_
      exact V_iret C0 dX6_plan_91
    refine V_ts C0 4 92 dX6_plan_26 (by decide) (by decide) rfl (by decide) (fun _ => ?_) (fun hs4 => ?_)
    · refine V_aload_n C0 0 rfl 0 rfl dX6_plan_92 ?_
      refine g6_36 C0 dX6_plan_93 ?_
      refine g6_182 C0 dX6_plan_96 ?_
      exact V_iret C0 dX6_plan_99
    refine V_tsO C0 100 dX6_plan_26 (by have hz0 := lv_neT hs0 (a := 0) rfl; have hz1 := lv_neT hs1 (a := 1) rfl; have hz2 := lv_neT hs2 (a := 2) rfl; have hz3 := lv_neT hs3 (a := 3) rfl; have hz4 := lv_neT hs4 (a := 4) rfl; omega) (by decide) ?_
    refine V_ldc C0 wk6_50 dX6_plan_100 ?_
    exact V_iret C0 dX6_plan_102)
