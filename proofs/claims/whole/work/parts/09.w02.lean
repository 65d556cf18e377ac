set_option maxRecDepth 100000 in
set_option maxHeartbeats 4000000 in
theorem f_Plan_addStep_b76_ok {X : XT} {G : GT} (C0 : Cx X G cX2_addStep 6 RX2 none) (x1 : Int32) (a2 : Nat) (x3 : Int32) (t0 : Int32) (t1 : Int32) (M : Mem) (h_a2 : (sh a2).1 = 0) : V X G 0 vU 6 76 [(0, .ref (G.2 + 47)), (1, .int x1), (2, .ref (G.2 + a2)), (3, .int x3)] [.int t0, .int t1, .ref (G.2 + 47)] M (f_Plan_addStep_b76 x1 a2 x3 t0 t1 M) := by
  unfold f_Plan_addStep_b76
  refine V_iadd C0 dX2_addStep_76 ?_
  refine p2_37 C0 dX2_addStep_77 (fun M1 => ?_)
  refine V_aload_n C0 0 rfl 0 rfl dX2_addStep_80 ?_
  refine g2_24 C0 dX2_addStep_81 ?_
  refine V_iflt C0 153 dX2_addStep_84 (by decide) (fun _ => ?_) (fun _ => ?_)
  · exact V_vret C0 dX2_addStep_153
  · refine V_aload_n C0 0 rfl 0 rfl dX2_addStep_87 ?_
    refine g2_24 C0 dX2_addStep_88 ?_
    refine V_sipush C0 dX2_addStep_91 sp_726 ?_
    refine V_icmpge C0 153 dX2_addStep_94 (by decide) (fun _ => ?_) (fun _ => ?_)
    · exact V_vret C0 dX2_addStep_153
    · refine V_aload_n C0 0 rfl 0 rfl dX2_addStep_97 ?_
      refine g2_11 C0 dX2_addStep_98 ?_
      refine V_aload_n C0 0 rfl 0 rfl dX2_addStep_101 ?_
      refine g2_24 C0 dX2_addStep_102 ?_
      refine V_iload_n C0 1 rfl 1 rfl dX2_addStep_105 ?_
      refine V_iast C0 726 s48 n48 dX2_addStep_106 (fun M2 => ?_)
      refine V_aload_n C0 0 rfl 0 rfl dX2_addStep_107 ?_
      refine g2_15 C0 dX2_addStep_108 ?_
      refine V_aload_n C0 0 rfl 0 rfl dX2_addStep_111 ?_
      refine g2_24 C0 dX2_addStep_112 ?_
      refine V_aload_n C0 2 rfl 2 rfl dX2_addStep_115 ?_
      refine g2_78 C0 h_a2 dX2_addStep_116 ?_
      refine V_iast C0 726 s49 n49 dX2_addStep_119 (fun M3 => ?_)
      refine V_aload_n C0 0 rfl 0 rfl dX2_addStep_120 ?_
      refine g2_18 C0 dX2_addStep_121 ?_
      refine V_aload_n C0 0 rfl 0 rfl dX2_addStep_124 ?_
      refine g2_24 C0 dX2_addStep_125 ?_
      refine V_iload_n C0 3 rfl 3 rfl dX2_addStep_128 ?_
      refine V_iast C0 726 s50 n50 dX2_addStep_129 (fun M4 => ?_)
      refine V_aload_n C0 0 rfl 0 rfl dX2_addStep_130 ?_
      refine g2_21 C0 dX2_addStep_131 ?_
      refine V_aload_n C0 0 rfl 0 rfl dX2_addStep_134 ?_
      refine g2_24 C0 dX2_addStep_135 ?_
      refine V_aload_n C0 0 rfl 0 rfl dX2_addStep_138 ?_
      refine g2_40 C0 dX2_addStep_139 ?_
      refine V_iast C0 726 s51 n51 dX2_addStep_142 (fun M5 => ?_)
      refine V_aload_n C0 0 rfl 0 rfl dX2_addStep_143 ?_
      refine V_dup C0 rfl dX2_addStep_144 ?_
      refine g2_24 C0 dX2_addStep_145 ?_
      refine V_iconst C0 dX2_addStep_148 ic_1 ?_
      refine V_iadd C0 dX2_addStep_149 ?_
      refine p2_24 C0 dX2_addStep_150 (fun M6 => ?_)
      exact V_vret C0 dX2_addStep_153
set_option maxRecDepth 100000 in
set_option maxHeartbeats 4000000 in
theorem f_Plan_addStep_b56_ok {X : XT} {G : GT} (C0 : Cx X G cX2_addStep 6 RX2 none) (x1 : Int32) (a2 : Nat) (x3 : Int32) (x4 : Int32) (t0 : Int32) (t1 : Int32) (M : Mem) (h_a2 : (sh a2).1 = 0) : V X G 0 vU 6 56 [(0, .ref (G.2 + 47)), (1, .int x1), (2, .ref (G.2 + a2)), (3, .int x3), (4, .int x4)] [.int t0, .int t1, .ref (G.2 + 47)] M (f_Plan_addStep_b56 x1 a2 x3 x4 t0 t1 M) := by
  unfold f_Plan_addStep_b56
  refine V_iadd C0 dX2_addStep_56 ?_
  refine p2_34 C0 dX2_addStep_57 (fun M1 => ?_)
  refine V_aload_n C0 0 rfl 0 rfl dX2_addStep_60 ?_
  refine V_dup C0 rfl dX2_addStep_61 ?_
  refine g2_37 C0 dX2_addStep_62 ?_
  refine V_iload_n C0 1 rfl 1 rfl dX2_addStep_65 ?_
  refine V_iconst C0 dX2_addStep_66 ic_1 ?_
  refine V_icmpne C0 75 dX2_addStep_67 (by decide) (fun _ => ?_) (fun _ => ?_)
  · refine V_iconst C0 dX2_addStep_75 ic_0 ?_
    exact V_sub [0, 1, 2, 3] rfl (f_Plan_addStep_b76_ok C0 x1 a2 x3 0 (M1.1 47 8) M1 h_a2)
  · refine V_iload C0 4 4 rfl dX2_addStep_70 ?_
    refine V_goto C0 76 dX2_addStep_72 (by decide) ?_
    exact V_sub [0, 1, 2, 3] rfl (f_Plan_addStep_b76_ok C0 x1 a2 x3 x4 (M1.1 47 8) M1 h_a2)
set_option maxRecDepth 100000 in
set_option maxHeartbeats 4000000 in
theorem f_Plan_addStep_b37_ok {X : XT} {G : GT} (C0 : Cx X G cX2_addStep 6 RX2 none) (x1 : Int32) (a2 : Nat) (x3 : Int32) (x4 : Int32) (t0 : Int32) (t1 : Int32) (M : Mem) (h_a2 : (sh a2).1 = 0) : V X G 0 vU 6 37 [(0, .ref (G.2 + 47)), (1, .int x1), (2, .ref (G.2 + a2)), (3, .int x3), (4, .int x4)] [.int t0, .int t1, .ref (G.2 + 47)] M (f_Plan_addStep_b37 x1 a2 x3 x4 t0 t1 M) := by
  unfold f_Plan_addStep_b37
  refine V_iadd C0 dX2_addStep_37 ?_
  refine p2_31 C0 dX2_addStep_38 (fun M1 => ?_)
  refine V_aload_n C0 0 rfl 0 rfl dX2_addStep_41 ?_
  refine V_dup C0 rfl dX2_addStep_42 ?_
  refine g2_34 C0 dX2_addStep_43 ?_
  refine V_iload_n C0 1 rfl 1 rfl dX2_addStep_46 ?_
  refine V_iconst C0 dX2_addStep_47 ic_5 ?_
  refine V_icmpne C0 55 dX2_addStep_48 (by decide) (fun _ => ?_) (fun _ => ?_)
  · refine V_iconst C0 dX2_addStep_55 ic_0 ?_
    exact V_sub [0, 1, 2, 3, 4] rfl (f_Plan_addStep_b56_ok C0 x1 a2 x3 x4 0 (M1.1 47 7) M1 h_a2)
  · refine V_iconst C0 dX2_addStep_51 ic_1 ?_
    refine V_goto C0 56 dX2_addStep_52 (by decide) ?_
    exact V_sub [0, 1, 2, 3, 4] rfl (f_Plan_addStep_b56_ok C0 x1 a2 x3 x4 1 (M1.1 47 7) M1 h_a2)
set_option maxRecDepth 100000 in
set_option maxHeartbeats 4000000 in
theorem mc_f_Plan_addStep {G : GT} (l : Launch) (x1 : Int32) (a2 : Nat) (x3 : Int32) (x4 : Int32) (x5 : Int32) (M : Mem) (r : Unit) (M1 : Mem) (h_a2 : (sh a2).1 = 0) (ho : f_Plan_addStep x1 a2 x3 x4 x5 M = some (r, M1)) : MC l G yX2_addStep cX2_addStep 6 none 0 [.ref (G.2 + 47), .int x1, .ref (G.2 + a2), .int x3, .int x4, .int x5] M (vU r) M1 :=
  MC.ofV (own := RX2) (lv := [(0, .ref (G.2 + 47)), (1, .int x1), (2, .ref (G.2 + a2)), (3, .int x3), (4, .int x4), (5, .int x5)]) (by decide +kernel) rfl rfl (Nat.le_of_ble_eq_true rfl) ho (fun X hX C0 => by
    unfold f_Plan_addStep
    refine V_aload_n C0 0 rfl 0 rfl dX2_addStep_0 ?_
    refine V_dup C0 rfl dX2_addStep_1 ?_
    refine g2_40 C0 dX2_addStep_2 ?_
    refine V_iload C0 5 5 rfl dX2_addStep_5 ?_
    refine V_iadd C0 dX2_addStep_7 ?_
    refine p2_40 C0 dX2_addStep_8 (fun M1 => ?_)
    refine V_aload_n C0 0 rfl 0 rfl dX2_addStep_11 ?_
    refine V_dup C0 rfl dX2_addStep_12 ?_
    refine g2_28 C0 dX2_addStep_13 ?_
    refine V_iload C0 4 4 rfl dX2_addStep_16 ?_
    refine V_iadd C0 dX2_addStep_18 ?_
    refine p2_28 C0 dX2_addStep_19 (fun M2 => ?_)
    refine V_aload_n C0 0 rfl 0 rfl dX2_addStep_22 ?_
    refine V_dup C0 rfl dX2_addStep_23 ?_
    refine g2_31 C0 dX2_addStep_24 ?_
    refine V_iload_n C0 1 rfl 1 rfl dX2_addStep_27 ?_
    refine V_iconst C0 dX2_addStep_28 ic_2 ?_
    refine V_icmpne C0 36 dX2_addStep_29 (by decide) (fun _ => ?_) (fun _ => ?_)
    · refine V_iconst C0 dX2_addStep_36 ic_0 ?_
      exact V_sub [0, 1, 2, 3, 4] rfl (f_Plan_addStep_b37_ok C0 x1 a2 x3 x4 0 (M2.1 47 6) M2 h_a2)
    · refine V_iconst C0 dX2_addStep_32 ic_1 ?_
      refine V_goto C0 37 dX2_addStep_33 (by decide) ?_
      exact V_sub [0, 1, 2, 3, 4] rfl (f_Plan_addStep_b37_ok C0 x1 a2 x3 x4 1 (M2.1 47 6) M2 h_a2))
set_option maxRecDepth 100000 in
set_option maxHeartbeats 4000000 in
theorem mc_f_Plan_has {G : GT} (l : Launch) (x1 : Int32) (M : Mem) (r : Int32) (M1 : Mem) (ho : f_Plan_has x1 M = some (r, M1)) : MC l G yX2_has cX2_has 2 (some .boolean) 0 [.ref (G.2 + 47), .int x1] M (vI r) M1 :=
  MC.ofV (own := RX2) (lv := [(0, .ref (G.2 + 47)), (1, .int x1)]) (by decide +kernel) rfl rfl (Nat.le_of_ble_eq_true rfl) ho (fun X hX C0 => by
    unfold f_Plan_has
    refine V_iload_n C0 1 rfl 1 rfl dX2_has_0 ?_
    refine V_iflt C0 23 dX2_has_1 (by decide) (fun _ => ?_) (fun _ => ?_)
    · refine V_iconst C0 dX2_has_23 ic_0 ?_
      exact V_zret C0 dX2_has_24
    · refine V_iload_n C0 1 rfl 1 rfl dX2_has_4 ?_
      refine V_aload_n C0 0 rfl 0 rfl dX2_has_5 ?_
      refine g2_24 C0 dX2_has_6 ?_
      refine V_icmpge C0 23 dX2_has_9 (by decide) (fun _ => ?_) (fun _ => ?_)
      · refine V_iconst C0 dX2_has_23 ic_0 ?_
        exact V_zret C0 dX2_has_24
      · refine V_iload_n C0 1 rfl 1 rfl dX2_has_12 ?_
        refine V_sipush C0 dX2_has_13 sp_726 ?_
        refine V_icmpge C0 23 dX2_has_16 (by decide) (fun _ => ?_) (fun _ => ?_)
        · refine V_iconst C0 dX2_has_23 ic_0 ?_
          exact V_zret C0 dX2_has_24
        · refine V_iconst C0 dX2_has_19 ic_1 ?_
          refine V_goto C0 24 dX2_has_20 (by decide) ?_
          exact V_zret C0 dX2_has_24)
set_option maxRecDepth 100000 in
set_option maxHeartbeats 4000000 in
theorem f_Plan_workOutParts_b60_ok {X : XT} {G : GT} (rc : Nat → Int32 → Int32 → Int32 → Mem → Option (Unit × Mem)) (hr : Nat) (hB : 3 ≤ hr) (hrc : ∀ (l : Launch) (a1 : Nat) (x2 : Int32) (x3 : Int32) (x4 : Int32) (M : Mem) (r : Unit) (M1 : Mem), (sh a1).1 = 0 → rc a1 x2 x3 x4 M = some (r, M1) → MC l G yX2_workOut cX2_workOut 7 none hr [.ref (G.2 + 47), .ref (G.2 + a1), .int x2, .int x3, .int x4] M (vU r) M1) (C0 : Cx X G cX2_workOutParts 10 RX2 none) (a1 : Nat) (x3 : Int32) (x4 : Int32) (x8 : Int32) (t0 : Int32) (M : Mem) (h_a1 : (sh a1).1 = 0) : V X G (hr + 1) vU 10 60 [(0, .ref (G.2 + 47)), (1, .ref (G.2 + a1)), (3, .int x3), (4, .int x4), (8, .int x8)] [.int t0] M (f_Plan_workOutParts_b60 rc a1 x3 x4 x8 t0 M) := by
  unfold f_Plan_workOutParts_b60
  refine V_istore C0 9 [(9, .int t0), (0, .ref (G.2 + 47)), (1, .ref (G.2 + a1)), (3, .int x3), (4, .int x4), (8, .int x8)] (by decide) rfl dX2_workOutParts_60 ?_
  refine V_aload_n C0 0 rfl 1 rfl dX2_workOutParts_62 ?_
  refine V_aload_n C0 1 rfl 2 rfl dX2_workOutParts_63 ?_
  refine V_iload C0 8 5 rfl dX2_workOutParts_64 ?_
  refine V_iload_n C0 3 rfl 3 rfl dX2_workOutParts_66 ?_
  refine V_iload C0 4 4 rfl dX2_workOutParts_67 ?_
  refine k2_49 C0 (by omega) (fun lq rq Mq hh => hrc lq a1 x8 x3 x4 M rq Mq h_a1 hh) (Nat.le_of_ble_eq_true rfl) dX2_workOutParts_69 (fun _ M1 => ?_)
  refine V_aload_n C0 1 rfl 2 rfl dX2_workOutParts_72 ?_
  refine V_iload C0 9 0 rfl dX2_workOutParts_73 ?_
  refine k2_75 C0 h_a1 (by omega) (fun lq rq Mq hh => mc_f_Expanded_needOf lq a1 t0 M1 rq Mq h_a1 hh) (Nat.le_of_ble_eq_true rfl) dX2_workOutParts_75 (fun r2 M2 => ?_)
  refine V_iload_n C0 3 rfl 3 rfl dX2_workOutParts_78 ?_
  refine V_icmpge C0 97 dX2_workOutParts_79 (by decide) (fun _ => ?_) (fun _ => ?_)
  · refine V_aload_n C0 0 rfl 1 rfl dX2_workOutParts_97 ?_
    refine V_iconst C0 dX2_workOutParts_98 ic_2 ?_
    refine V_aload_n C0 1 rfl 2 rfl dX2_workOutParts_99 ?_
    refine V_iload C0 8 5 rfl dX2_workOutParts_100 ?_
    refine V_iconst C0 dX2_workOutParts_102 ic_4 ?_
    refine V_iconst C0 dX2_workOutParts_103 ic_m1 ?_
    refine k2_53 C0 (by omega) (fun lq rq Mq hh => mc_f_Plan_addStep lq 2 a1 x8 4 (-1) M2 rq Mq h_a1 hh) (Nat.le_of_ble_eq_true rfl) dX2_workOutParts_104 (fun _ M3 => ?_)
    refine V_aload_n C0 0 rfl 1 rfl dX2_workOutParts_107 ?_
    refine V_aload_n C0 1 rfl 2 rfl dX2_workOutParts_108 ?_
    refine V_iload C0 9 0 rfl dX2_workOutParts_109 ?_
    refine V_iload_n C0 3 rfl 3 rfl dX2_workOutParts_111 ?_
    refine V_iload C0 4 4 rfl dX2_workOutParts_112 ?_
    refine k2_49 C0 (by omega) (fun lq rq Mq hh => hrc lq a1 t0 x3 x4 M3 rq Mq h_a1 hh) (Nat.le_of_ble_eq_true rfl) dX2_workOutParts_114 (fun _ M4 => ?_)
    refine V_aload_n C0 0 rfl 1 rfl dX2_workOutParts_117 ?_
    refine V_iconst C0 dX2_workOutParts_118 ic_3 ?_
    refine V_aload_n C0 1 rfl 2 rfl dX2_workOutParts_119 ?_
    refine V_iload C0 8 5 rfl dX2_workOutParts_120 ?_
    refine V_iconst C0 dX2_workOutParts_122 ic_4 ?_
    refine V_iconst C0 dX2_workOutParts_123 ic_1 ?_
    refine k2_53 C0 (by omega) (fun lq rq Mq hh => mc_f_Plan_addStep lq 3 a1 x8 4 1 M4 rq Mq h_a1 hh) (Nat.le_of_ble_eq_true rfl) dX2_workOutParts_124 (fun _ M5 => ?_)
    exact V_vret C0 dX2_workOutParts_127
  · refine V_aload_n C0 0 rfl 1 rfl dX2_workOutParts_82 ?_
    refine V_aload_n C0 1 rfl 2 rfl dX2_workOutParts_83 ?_
    refine V_iload C0 9 0 rfl dX2_workOutParts_84 ?_
    refine V_iload_n C0 3 rfl 3 rfl dX2_workOutParts_86 ?_
    refine V_iconst C0 dX2_workOutParts_87 ic_1 ?_
    refine V_isub C0 dX2_workOutParts_88 ?_
    refine V_iload C0 4 4 rfl dX2_workOutParts_89 ?_
    refine k2_49 C0 (by omega) (fun lq rq Mq hh => hrc lq a1 t0 (x3 - 1) x4 M2 rq Mq h_a1 hh) (Nat.le_of_ble_eq_true rfl) dX2_workOutParts_91 (fun _ M6 => ?_)
    refine V_goto C0 127 dX2_workOutParts_94 (by decide) ?_
    exact V_vret C0 dX2_workOutParts_127
set_option maxRecDepth 100000 in
set_option maxHeartbeats 4000000 in
theorem f_Plan_workOutParts_b46_ok {X : XT} {G : GT} (rc : Nat → Int32 → Int32 → Int32 → Mem → Option (Unit × Mem)) (hr : Nat) (hB : 3 ≤ hr) (hrc : ∀ (l : Launch) (a1 : Nat) (x2 : Int32) (x3 : Int32) (x4 : Int32) (M : Mem) (r : Unit) (M1 : Mem), (sh a1).1 = 0 → rc a1 x2 x3 x4 M = some (r, M1) → MC l G yX2_workOut cX2_workOut 7 none hr [.ref (G.2 + 47), .ref (G.2 + a1), .int x2, .int x3, .int x4] M (vU r) M1) (C0 : Cx X G cX2_workOutParts 10 RX2 none) (a1 : Nat) (x3 : Int32) (x4 : Int32) (x5 : Int32) (x6 : Int32) (x7 : Int32) (t0 : Int32) (M : Mem) (h_a1 : (sh a1).1 = 0) : V X G (hr + 1) vU 10 46 [(0, .ref (G.2 + 47)), (1, .ref (G.2 + a1)), (3, .int x3), (4, .int x4), (5, .int x5), (6, .int x6), (7, .int x7)] [.int t0] M (f_Plan_workOutParts_b46 rc a1 x3 x4 x5 x6 x7 t0 M) := by
  unfold f_Plan_workOutParts_b46
  refine V_istore C0 8 [(8, .int t0), (0, .ref (G.2 + 47)), (1, .ref (G.2 + a1)), (3, .int x3), (4, .int x4), (5, .int x5), (6, .int x6), (7, .int x7)] (by decide) rfl dX2_workOutParts_46 ?_
  refine V_iload C0 7 7 rfl dX2_workOutParts_48 ?_
  refine V_ifeq C0 58 dX2_workOutParts_50 (by decide) (fun _ => ?_) (fun _ => ?_)
  · refine V_iload C0 5 5 rfl dX2_workOutParts_58 ?_
    exact V_sub [1, 2, 3, 4, 0] rfl (f_Plan_workOutParts_b60_ok rc hr hB hrc C0 a1 x3 x4 t0 x5 M h_a1)
  · refine V_iload C0 6 6 rfl dX2_workOutParts_53 ?_
    refine V_goto C0 60 dX2_workOutParts_55 (by decide) ?_
    exact V_sub [1, 2, 3, 4, 0] rfl (f_Plan_workOutParts_b60_ok rc hr hB hrc C0 a1 x3 x4 t0 x6 M h_a1)
set_option maxRecDepth 100000 in
set_option maxHeartbeats 4000000 in
theorem f_Plan_workOutParts_b32_ok {X : XT} {G : GT} (rc : Nat → Int32 → Int32 → Int32 → Mem → Option (Unit × Mem)) (hr : Nat) (hB : 3 ≤ hr) (hrc : ∀ (l : Launch) (a1 : Nat) (x2 : Int32) (x3 : Int32) (x4 : Int32) (M : Mem) (r : Unit) (M1 : Mem), (sh a1).1 = 0 → rc a1 x2 x3 x4 M = some (r, M1) → MC l G yX2_workOut cX2_workOut 7 none hr [.ref (G.2 + 47), .ref (G.2 + a1), .int x2, .int x3, .int x4] M (vU r) M1) (C0 : Cx X G cX2_workOutParts 10 RX2 none) (a1 : Nat) (x3 : Int32) (x4 : Int32) (x5 : Int32) (x6 : Int32) (t0 : Int32) (M : Mem) (h_a1 : (sh a1).1 = 0) : V X G (hr + 1) vU 10 32 [(0, .ref (G.2 + 47)), (1, .ref (G.2 + a1)), (3, .int x3), (4, .int x4), (5, .int x5), (6, .int x6)] [.int t0] M (f_Plan_workOutParts_b32 rc a1 x3 x4 x5 x6 t0 M) := by
  unfold f_Plan_workOutParts_b32
  refine V_istore C0 7 [(7, .int t0), (0, .ref (G.2 + 47)), (1, .ref (G.2 + a1)), (3, .int x3), (4, .int x4), (5, .int x5), (6, .int x6)] (by decide) rfl dX2_workOutParts_32 ?_
  refine V_iload C0 7 0 rfl dX2_workOutParts_34 ?_
  refine V_ifeq C0 44 dX2_workOutParts_36 (by decide) (fun _ => ?_) (fun _ => ?_)
  · refine V_iload C0 6 6 rfl dX2_workOutParts_44 ?_
    exact V_sub [1, 2, 3, 4, 5, 6, 0] rfl (f_Plan_workOutParts_b46_ok rc hr hB hrc C0 a1 x3 x4 x5 x6 t0 x6 M h_a1)
  · refine V_iload C0 5 5 rfl dX2_workOutParts_39 ?_
    refine V_goto C0 46 dX2_workOutParts_41 (by decide) ?_
    exact V_sub [1, 2, 3, 4, 5, 6, 0] rfl (f_Plan_workOutParts_b46_ok rc hr hB hrc C0 a1 x3 x4 x5 x6 t0 x5 M h_a1)
set_option maxRecDepth 100000 in
set_option maxHeartbeats 4000000 in
theorem mc_f_Plan_workOutParts {G : GT} (rc : Nat → Int32 → Int32 → Int32 → Mem → Option (Unit × Mem)) (hr : Nat) (hB : 3 ≤ hr) (hrc : ∀ (l : Launch) (a1 : Nat) (x2 : Int32) (x3 : Int32) (x4 : Int32) (M : Mem) (r : Unit) (M1 : Mem), (sh a1).1 = 0 → rc a1 x2 x3 x4 M = some (r, M1) → MC l G yX2_workOut cX2_workOut 7 none hr [.ref (G.2 + 47), .ref (G.2 + a1), .int x2, .int x3, .int x4] M (vU r) M1) (l : Launch) (a1 : Nat) (x2 : Int32) (x3 : Int32) (x4 : Int32) (M : Mem) (r : Unit) (M1 : Mem) (h_a1 : (sh a1).1 = 0) (ho : f_Plan_workOutParts rc a1 x2 x3 x4 M = some (r, M1)) : MC l G yX2_workOutParts cX2_workOutParts 10 none (hr + 1) [.ref (G.2 + 47), .ref (G.2 + a1), .int x2, .int x3, .int x4] M (vU r) M1 :=
  MC.ofV (own := RX2) (lv := [(0, .ref (G.2 + 47)), (1, .ref (G.2 + a1)), (2, .int x2), (3, .int x3), (4, .int x4)]) (by decide +kernel) rfl rfl (Nat.le_of_ble_eq_true rfl) ho (fun X hX C0 => by
    unfold f_Plan_workOutParts
    refine V_iload_n C0 2 rfl 2 rfl dX2_workOutParts_0 ?_
    refine V_iconst C0 dX2_workOutParts_1 ic_1 ?_
    refine V_iadd C0 dX2_workOutParts_2 ?_
    refine V_bi (fun y1 => ?_)
    refine V_istore C0 5 [(5, .int y1), (0, .ref (G.2 + 47)), (1, .ref (G.2 + a1)), (2, .int x2), (3, .int x3), (4, .int x4)] (by decide) rfl dX2_workOutParts_3 ?_
    refine V_aload_n C0 1 rfl 2 rfl dX2_workOutParts_5 ?_
    refine V_iload_n C0 2 rfl 3 rfl dX2_workOutParts_6 ?_
    refine k2_72 C0 h_a1 (by omega) (fun lq rq Mq hh => mc_f_Expanded_rightOf lq a1 x2 M rq Mq h_a1 hh) (Nat.le_of_ble_eq_true rfl) dX2_workOutParts_7 (fun r2 M2 => ?_)
    refine V_istore C0 6 [(6, .int r2), (5, .int y1), (0, .ref (G.2 + 47)), (1, .ref (G.2 + a1)), (2, .int x2), (3, .int x3), (4, .int x4)] (by decide) rfl dX2_workOutParts_10 ?_
    refine V_aload_n C0 1 rfl 3 rfl dX2_workOutParts_12 ?_
    refine V_iload C0 5 1 rfl dX2_workOutParts_13 ?_
    refine k2_75 C0 h_a1 (by omega) (fun lq rq Mq hh => mc_f_Expanded_needOf lq a1 y1 M2 rq Mq h_a1 hh) (Nat.le_of_ble_eq_true rfl) dX2_workOutParts_15 (fun r3 M3 => ?_)
    refine V_aload_n C0 1 rfl 3 rfl dX2_workOutParts_18 ?_
    refine V_iload C0 6 0 rfl dX2_workOutParts_19 ?_
    refine k2_75 C0 h_a1 (by omega) (fun lq rq Mq hh => mc_f_Expanded_needOf lq a1 r2 M3 rq Mq h_a1 hh) (Nat.le_of_ble_eq_true rfl) dX2_workOutParts_21 (fun r4 M4 => ?_)
    refine V_icmplt C0 31 dX2_workOutParts_24 (by decide) (fun _ => ?_) (fun _ => ?_)
    · refine V_iconst C0 dX2_workOutParts_31 ic_0 ?_
      exact V_sub [2, 3, 5, 6, 1, 0] rfl (f_Plan_workOutParts_b32_ok rc hr hB hrc C0 a1 x3 x4 y1 r2 0 M4 h_a1)
    · refine V_iconst C0 dX2_workOutParts_27 ic_1 ?_
      refine V_goto C0 32 dX2_workOutParts_28 (by decide) ?_
      exact V_sub [2, 3, 5, 6, 1, 0] rfl (f_Plan_workOutParts_b32_ok rc hr hB hrc C0 a1 x3 x4 y1 r2 1 M4 h_a1))
set_option maxRecDepth 100000 in
set_option maxHeartbeats 4000000 in
theorem f_Plan_workOut_b118_ok {X : XT} {G : GT} (rc : Nat → Int32 → Int32 → Int32 → Mem → Option (Unit × Mem)) (hr : Nat) (hB : 3 ≤ hr) (hrc : ∀ (l : Launch) (a1 : Nat) (x2 : Int32) (x3 : Int32) (x4 : Int32) (M : Mem) (r : Unit) (M1 : Mem), (sh a1).1 = 0 → rc a1 x2 x3 x4 M = some (r, M1) → MC l G yX2_workOut cX2_workOut 7 none hr [.ref (G.2 + 47), .ref (G.2 + a1), .int x2, .int x3, .int x4] M (vU r) M1) (C0 : Cx X G cX2_workOut 7 RX2 none) (t0 : Int32) (t1 : Int32) (r2 : Nat) (t3 : Int32) (M : Mem) (h_r2 : (sh r2).1 = 0) : V X G (hr + 2) vU 7 118 [] [.int t0, .int t1, .ref (G.2 + r2), .int t3, .ref (G.2 + 47)] M (f_Plan_workOut_b118 rc t0 t1 r2 t3 M) := by
  unfold f_Plan_workOut_b118
  refine V_iconst C0 dX2_workOut_118 ic_m1 ?_
  refine k2_53 C0 (by omega) (fun lq rq Mq hh => mc_f_Plan_addStep lq t3 r2 t1 t0 (-1) M rq Mq h_r2 hh) (Nat.le_of_ble_eq_true rfl) dX2_workOut_119 (fun _ M1 => ?_)
  exact V_vret C0 dX2_workOut_122
set_option maxRecDepth 100000 in
set_option maxHeartbeats 4000000 in
theorem mcS_f_Plan_workOut {G : GT} (rc : Nat → Int32 → Int32 → Int32 → Mem → Option (Unit × Mem)) (hr : Nat) (hB : 3 ≤ hr) (hrc : ∀ (l : Launch) (a1 : Nat) (x2 : Int32) (x3 : Int32) (x4 : Int32) (M : Mem) (r : Unit) (M1 : Mem), (sh a1).1 = 0 → rc a1 x2 x3 x4 M = some (r, M1) → MC l G yX2_workOut cX2_workOut 7 none hr [.ref (G.2 + 47), .ref (G.2 + a1), .int x2, .int x3, .int x4] M (vU r) M1) (l : Launch) (a1 : Nat) (x2 : Int32) (x3 : Int32) (x4 : Int32) (M : Mem) (r : Unit) (M1 : Mem) (h_a1 : (sh a1).1 = 0) (ho : f_Plan_workOut_step rc a1 x2 x3 x4 M = some (r, M1)) : MC l G yX2_workOut cX2_workOut 7 none (hr + 2) [.ref (G.2 + 47), .ref (G.2 + a1), .int x2, .int x3, .int x4] M (vU r) M1 :=
  MC.ofV (own := RX2) (lv := [(0, .ref (G.2 + 47)), (1, .ref (G.2 + a1)), (2, .int x2), (3, .int x3), (4, .int x4)]) (by decide +kernel) rfl rfl (Nat.le_of_ble_eq_true rfl) ho (fun X hX C0 => by
    unfold f_Plan_workOut_step
    refine V_iload C0 4 4 rfl dX2_workOut_0 ?_
    refine V_bipush C0 dX2_workOut_2 bp_40 ?_
    refine V_icmple C0 8 dX2_workOut_4 (by decide) (fun _ => ?_) (fun _ => ?_)
    · refine V_aload_n C0 1 rfl 1 rfl dX2_workOut_8 ?_
      refine g2_57 C0 h_a1 dX2_workOut_9 ?_
      refine V_iload_n C0 2 rfl 2 rfl dX2_workOut_12 ?_
      refine k2_60 C0 (tE1 h_a1) (by omega) (fun lq rq Mq hh => mc_f_Form_kindOf lq (a1 + 1) x2 M rq Mq (tE1 h_a1) hh) (Nat.le_of_ble_eq_true rfl) dX2_workOut_13 (fun r1 M1 => ?_)
      refine V_istore C0 5 [(5, .int r1), (0, .ref (G.2 + 47)), (1, .ref (G.2 + a1)), (2, .int x2), (3, .int x3), (4, .int x4)] (by decide) rfl dX2_workOut_16 ?_
      refine V_iload C0 5 0 rfl dX2_workOut_18 ?_
      refine k2_66 C0 (by omega) (fun lq rq Mq hh => mc_f_LP_partsOf lq r1 M1 rq Mq  hh) (Nat.le_of_ble_eq_true rfl) dX2_workOut_20 (fun r2 M2 => ?_)
      refine V_istore C0 6 [(6, .int r2), (5, .int r1), (0, .ref (G.2 + 47)), (1, .ref (G.2 + a1)), (2, .int x2), (3, .int x3), (4, .int x4)] (by decide) rfl dX2_workOut_23 ?_
      refine V_iload C0 5 1 rfl dX2_workOut_25 ?_
      refine V_iconst C0 dX2_workOut_27 ic_2 ?_
      refine V_icmpne C0 43 dX2_workOut_28 (by decide) (fun _ => ?_) (fun _ => ?_)
      · refine V_iload C0 6 0 rfl dX2_workOut_43 ?_
        refine V_ifne C0 60 dX2_workOut_45 (by decide) (fun _ => ?_) (fun _ => ?_)
        · refine V_iload C0 6 0 rfl dX2_workOut_60 ?_
          refine V_iconst C0 dX2_workOut_62 ic_1 ?_
          refine V_icmpne C0 91 dX2_workOut_63 (by decide) (fun _ => ?_) (fun _ => ?_)
          · refine V_aload_n C0 0 rfl 2 rfl dX2_workOut_91 ?_
            refine V_aload_n C0 1 rfl 3 rfl dX2_workOut_92 ?_
            refine V_iload_n C0 2 rfl 4 rfl dX2_workOut_93 ?_
            refine V_iload_n C0 3 rfl 5 rfl dX2_workOut_94 ?_
            refine V_iload C0 4 6 rfl dX2_workOut_95 ?_
            refine V_iconst C0 dX2_workOut_97 ic_1 ?_
            refine V_iadd C0 dX2_workOut_98 ?_
            refine k2_69 C0 (by omega) (fun lq rq Mq hh => mc_f_Plan_workOutParts rc hr hB hrc lq a1 x2 x3 (x4 + 1) M2 rq Mq h_a1 hh) (Nat.le_of_ble_eq_true rfl) dX2_workOut_99 (fun _ M3 => ?_)
            refine V_aload_n C0 0 rfl 2 rfl dX2_workOut_102 ?_
            refine V_iconst C0 dX2_workOut_103 ic_1 ?_
            refine V_aload_n C0 1 rfl 3 rfl dX2_workOut_104 ?_
            refine V_iload_n C0 2 rfl 4 rfl dX2_workOut_105 ?_
            refine V_iload C0 5 1 rfl dX2_workOut_106 ?_
            refine V_bipush C0 dX2_workOut_108 bp_6 ?_
            refine V_icmpne C0 117 dX2_workOut_110 (by decide) (fun _ => ?_) (fun _ => ?_)
            · refine V_iconst C0 dX2_workOut_117 ic_1 ?_
              exact V_sub [] rfl (f_Plan_workOut_b118_ok rc hr hB hrc C0 1 x2 a1 1 M3 h_a1)
            · refine V_iconst C0 dX2_workOut_113 ic_3 ?_
              refine V_goto C0 118 dX2_workOut_114 (by decide) ?_
              exact V_sub [] rfl (f_Plan_workOut_b118_ok rc hr hB hrc C0 3 x2 a1 1 M3 h_a1)
          · refine V_aload_n C0 0 rfl 2 rfl dX2_workOut_66 ?_
            refine V_aload_n C0 1 rfl 3 rfl dX2_workOut_67 ?_
            refine V_iload_n C0 2 rfl 4 rfl dX2_workOut_68 ?_
            refine V_iconst C0 dX2_workOut_69 ic_1 ?_
            refine V_iadd C0 dX2_workOut_70 ?_
            refine V_iload_n C0 3 rfl 5 rfl dX2_workOut_71 ?_
            refine V_iload C0 4 6 rfl dX2_workOut_72 ?_
            refine V_iconst C0 dX2_workOut_74 ic_1 ?_
            refine V_iadd C0 dX2_workOut_75 ?_
            refine k2_49 C0 (by omega) (fun lq rq Mq hh => hrc lq a1 (x2 + 1) x3 (x4 + 1) M2 rq Mq h_a1 hh) (Nat.le_of_ble_eq_true rfl) dX2_workOut_76 (fun _ M4 => ?_)
            refine V_aload_n C0 0 rfl 2 rfl dX2_workOut_79 ?_
            refine V_iconst C0 dX2_workOut_80 ic_1 ?_
            refine V_aload_n C0 1 rfl 3 rfl dX2_workOut_81 ?_
            refine V_iload_n C0 2 rfl 4 rfl dX2_workOut_82 ?_
            refine V_iconst C0 dX2_workOut_83 ic_1 ?_
            refine V_iconst C0 dX2_workOut_84 ic_0 ?_
            refine k2_53 C0 (by omega) (fun lq rq Mq hh => mc_f_Plan_addStep lq 1 a1 x2 1 0 M4 rq Mq h_a1 hh) (Nat.le_of_ble_eq_true rfl) dX2_workOut_85 (fun _ M5 => ?_)
            refine V_goto C0 122 dX2_workOut_88 (by decide) ?_
            exact V_vret C0 dX2_workOut_122
        · refine V_aload_n C0 0 rfl 2 rfl dX2_workOut_48 ?_
          refine V_iconst C0 dX2_workOut_49 ic_0 ?_
          refine V_aload_n C0 1 rfl 3 rfl dX2_workOut_50 ?_
          refine V_iload_n C0 2 rfl 4 rfl dX2_workOut_51 ?_
          refine V_iconst C0 dX2_workOut_52 ic_1 ?_
          refine V_iconst C0 dX2_workOut_53 ic_1 ?_
          refine k2_53 C0 (by omega) (fun lq rq Mq hh => mc_f_Plan_addStep lq 0 a1 x2 1 1 M2 rq Mq h_a1 hh) (Nat.le_of_ble_eq_true rfl) dX2_workOut_54 (fun _ M6 => ?_)
          refine V_goto C0 122 dX2_workOut_57 (by decide) ?_
          exact V_vret C0 dX2_workOut_122
      · refine V_aload_n C0 0 rfl 2 rfl dX2_workOut_31 ?_
        refine V_iconst C0 dX2_workOut_32 ic_5 ?_
        refine V_aload_n C0 1 rfl 3 rfl dX2_workOut_33 ?_
        refine V_iload_n C0 2 rfl 4 rfl dX2_workOut_34 ?_
        refine V_iconst C0 dX2_workOut_35 ic_4 ?_
        refine V_iconst C0 dX2_workOut_36 ic_1 ?_
        refine k2_53 C0 (by omega) (fun lq rq Mq hh => mc_f_Plan_addStep lq 5 a1 x2 4 1 M2 rq Mq h_a1 hh) (Nat.le_of_ble_eq_true rfl) dX2_workOut_37 (fun _ M7 => ?_)
        refine V_goto C0 122 dX2_workOut_40 (by decide) ?_
        exact V_vret C0 dX2_workOut_122
    · exact V_vret C0 dX2_workOut_7)
theorem mc_f_Plan_workOut {G : GT} : ∀ (n : Nat) (l : Launch) (a1 : Nat) (x2 : Int32) (x3 : Int32) (x4 : Int32) (M : Mem) (r : Unit) (M1 : Mem), (sh a1).1 = 0 → f_Plan_workOut n a1 x2 x3 x4 M = some (r, M1) → MC l G yX2_workOut cX2_workOut 7 none (3 + 2 * n) [.ref (G.2 + 47), .ref (G.2 + a1), .int x2, .int x3, .int x4] M (vU r) M1 := by
  intro n
  induction n with
  | zero =>
    intro l a1 x2 x3 x4 M r M1 h_a1 ho
    cases ho
  | succ n ih =>
    intro l a1 x2 x3 x4 M r M1 h_a1 ho
    exact mcS_f_Plan_workOut (f_Plan_workOut n) (3 + 2 * n) (Nat.le_add_right _ _) ih l a1 x2 x3 x4 M r M1 h_a1 ho
set_option maxRecDepth 100000 in
set_option maxHeartbeats 4000000 in
theorem f_Plan_make_b33_ok {X : XT} {G : GT} (C0 : Cx X G cX2_make 5 RX2 none) : ∀ (n : Nat) (x2 : Int32) (x3 : Int32) (x4 : Int32) (M : Mem), V X G 303 vU 5 33 [(0, .ref (G.2 + 47)), (1, .ref (G.2 + 46)), (2, .int x2), (3, .int x3), (4, .int x4)] [] M (f_Plan_make_b33 n x2 x3 x4 M) := by
  intro n
  induction n with
  | zero =>
    intros
    exact V_none
  | succ n ih =>
    intro x2 x3 x4 M
    rw [f_Plan_make_b33]
    refine V_iload C0 4 4 rfl dX2_make_33 ?_
    refine V_iload_n C0 2 rfl 2 rfl dX2_make_35 ?_
    refine V_icmpge C0 93 dX2_make_36 (by decide) (fun _ => ?_) (fun _ => ?_)
    · exact V_vret C0 dX2_make_93
    · refine V_iload C0 4 4 rfl dX2_make_39 ?_
      refine V_aload_n C0 1 rfl 1 rfl dX2_make_41 ?_
      refine V_alenE C0 6 s46 m46 dX2_make_42 ?_
      refine V_icmpge C0 93 dX2_make_43 (by decide) (fun _ => ?_) (fun _ => ?_)
      · exact V_vret C0 dX2_make_93
      · refine V_aload_n C0 1 rfl 1 rfl dX2_make_46 ?_
        refine V_iload C0 4 4 rfl dX2_make_47 ?_
        refine V_aaldE C0 dX2_make_49 (fun q1 => ?_)
        refine g2_43 C0 q1 dX2_make_50 ?_
        refine V_ifne C0 87 dX2_make_53 (by decide) (fun _ => ?_) (fun _ => ?_)
        · refine V_iincB C0 4 4 (fun y2 => [(4, .int y2), (0, .ref (G.2 + 47)), (1, .ref (G.2 + 46)), (2, .int x2), (3, .int x3)]) rfl ic_1 (by decide) (fun _ => rfl) dX2_make_87 (fun y2 => ?_)
          refine V_goto C0 33 dX2_make_90 (by decide) ?_
          exact V_sub [1, 2, 3, 4, 0] rfl (ih x2 x3 y2 M)
        · refine V_aload_n C0 0 rfl 0 rfl dX2_make_56 ?_
          refine V_aload_n C0 1 rfl 1 rfl dX2_make_57 ?_
          refine V_iload C0 4 4 rfl dX2_make_58 ?_
          refine V_aaldE C0 dX2_make_60 (fun q3 => ?_)
          refine V_iconst C0 dX2_make_61 ic_0 ?_
          refine V_iload_n C0 3 rfl 3 rfl dX2_make_62 ?_
          refine V_iconst C0 dX2_make_63 ic_1 ?_
          refine k2_49 C0 (by decide) (fun lq rq Mq hh => mc_f_Plan_workOut 60 lq (160 + 8 * ix x4) 0 x3 1 M rq Mq q3 hh) (Nat.le_of_ble_eq_true rfl) dX2_make_64 (fun _ M4 => ?_)
          refine V_iload C0 4 4 rfl dX2_make_67 ?_
          refine V_iload_n C0 2 rfl 2 rfl dX2_make_69 ?_
          refine V_iconst C0 dX2_make_70 ic_1 ?_
          refine V_isub C0 dX2_make_71 ?_
          refine V_icmpge C0 87 dX2_make_72 (by decide) (fun _ => ?_) (fun _ => ?_)
          · refine V_iincB C0 4 4 (fun y5 => [(4, .int y5), (0, .ref (G.2 + 47)), (1, .ref (G.2 + 46)), (2, .int x2), (3, .int x3)]) rfl ic_1 (by decide) (fun _ => rfl) dX2_make_87 (fun y5 => ?_)
            refine V_goto C0 33 dX2_make_90 (by decide) ?_
            exact V_sub [1, 2, 3, 4, 0] rfl (ih x2 x3 y5 M4)
          · refine V_aload_n C0 0 rfl 0 rfl dX2_make_75 ?_
            refine V_iconst C0 dX2_make_76 ic_4 ?_
            refine V_aload_n C0 1 rfl 1 rfl dX2_make_77 ?_
            refine V_iload C0 4 4 rfl dX2_make_78 ?_
            refine V_aaldE C0 dX2_make_80 (fun q6 => ?_)
            refine V_iconst C0 dX2_make_81 ic_0 ?_
            refine V_iconst C0 dX2_make_82 ic_4 ?_
            refine V_iconst C0 dX2_make_83 ic_m1 ?_
            refine k2_53 C0 (by decide) (fun lq rq Mq hh => mc_f_Plan_addStep lq 4 (160 + 8 * ix x4) 0 4 (-1) M4 rq Mq q6 hh) (Nat.le_of_ble_eq_true rfl) dX2_make_84 (fun _ M7 => ?_)
            refine V_iincB C0 4 4 (fun y8 => [(4, .int y8), (0, .ref (G.2 + 47)), (1, .ref (G.2 + 46)), (2, .int x2), (3, .int x3)]) rfl ic_1 (by decide) (fun _ => rfl) dX2_make_87 (fun y8 => ?_)
            refine V_goto C0 33 dX2_make_90 (by decide) ?_
            exact V_sub [1, 2, 3, 4, 0] rfl (ih x2 x3 y8 M7)
set_option maxRecDepth 100000 in
set_option maxHeartbeats 4000000 in
theorem mc_f_Plan_make {G : GT} (l : Launch) (x2 : Int32) (x3 : Int32) (M : Mem) (r : Unit) (M1 : Mem) (ho : f_Plan_make x2 x3 M = some (r, M1)) : MC l G yX2_make cX2_make 5 none 303 [.ref (G.2 + 47), .ref (G.2 + 46), .int x2, .int x3] M (vU r) M1 :=
  MC.ofV (own := RX2) (lv := [(0, .ref (G.2 + 47)), (1, .ref (G.2 + 46)), (2, .int x2), (3, .int x3)]) (by decide +kernel) rfl rfl (Nat.le_of_ble_eq_true rfl) ho (fun X hX C0 => by
    unfold f_Plan_make
    refine V_aload_n C0 0 rfl 0 rfl dX2_make_0 ?_
    refine V_iconst C0 dX2_make_1 ic_0 ?_
    refine p2_24 C0 dX2_make_2 (fun M1 => ?_)
    refine V_aload_n C0 0 rfl 0 rfl dX2_make_5 ?_
    refine V_iconst C0 dX2_make_6 ic_0 ?_
    refine p2_28 C0 dX2_make_7 (fun M2 => ?_)
    refine V_aload_n C0 0 rfl 0 rfl dX2_make_10 ?_
    refine V_iconst C0 dX2_make_11 ic_0 ?_
    refine p2_31 C0 dX2_make_12 (fun M3 => ?_)
    refine V_aload_n C0 0 rfl 0 rfl dX2_make_15 ?_
    refine V_iconst C0 dX2_make_16 ic_0 ?_
    refine p2_34 C0 dX2_make_17 (fun M4 => ?_)
    refine V_aload_n C0 0 rfl 0 rfl dX2_make_20 ?_
    refine V_iconst C0 dX2_make_21 ic_0 ?_
    refine p2_37 C0 dX2_make_22 (fun M5 => ?_)
    refine V_aload_n C0 0 rfl 0 rfl dX2_make_25 ?_
    refine V_iconst C0 dX2_make_26 ic_0 ?_
    refine p2_40 C0 dX2_make_27 (fun M6 => ?_)
    refine V_iconst C0 dX2_make_30 ic_0 ?_
    refine V_istore C0 4 [(4, .int 0), (0, .ref (G.2 + 47)), (1, .ref (G.2 + 46)), (2, .int x2), (3, .int x3)] (by decide) rfl dX2_make_31 ?_
    exact V_sub [1, 2, 3, 4, 0] rfl (f_Plan_make_b33_ok C0 FU x2 x3 0 M6))
set_option maxRecDepth 100000 in
set_option maxHeartbeats 4000000 in
theorem mc_f_Reader_isDigit {G : GT} (l : Launch) (x0 : Int32) (M : Mem) (r : Int32) (M1 : Mem) (ho : f_Reader_isDigit x0 M = some (r, M1)) : MC l G yX3_isDigit cX3_isDigit 1 (some .boolean) 0 [.int x0] M (vI r) M1 :=
  MC.ofV (own := RX3) (lv := [(0, .int x0)]) (by decide +kernel) rfl rfl (Nat.le_of_ble_eq_true rfl) ho (fun X hX C0 => by
    unfold f_Reader_isDigit
    refine V_iload_n C0 0 rfl 0 rfl dX3_isDigit_0 ?_
    refine V_bipush C0 dX3_isDigit_1 bp_48 ?_
    refine V_icmplt C0 16 dX3_isDigit_3 (by decide) (fun _ => ?_) (fun _ => ?_)
    · refine V_iconst C0 dX3_isDigit_16 ic_0 ?_
      exact V_zret C0 dX3_isDigit_17
    · refine V_iload_n C0 0 rfl 0 rfl dX3_isDigit_6 ?_
      refine V_bipush C0 dX3_isDigit_7 bp_57 ?_
      refine V_icmpgt C0 16 dX3_isDigit_9 (by decide) (fun _ => ?_) (fun _ => ?_)
      · refine V_iconst C0 dX3_isDigit_16 ic_0 ?_
        exact V_zret C0 dX3_isDigit_17
      · refine V_iconst C0 dX3_isDigit_12 ic_1 ?_
        refine V_goto C0 17 dX3_isDigit_13 (by decide) ?_
        exact V_zret C0 dX3_isDigit_17)
set_option maxRecDepth 100000 in
set_option maxHeartbeats 4000000 in
theorem mc_f_Reader_sign {G : GT} (l : Launch) (M : Mem) (r : Int32) (M1 : Mem) (ho : f_Reader_sign  M = some (r, M1)) : MC l G yX3_sign cX3_sign 1 (some .int) 0 [.ref (G.2 + 1)] M (vI r) M1 :=
  MC.ofV (own := RX3) (lv := [(0, .ref (G.2 + 1))]) (by decide +kernel) rfl rfl (Nat.le_of_ble_eq_true rfl) ho (fun X hX C0 => by
    unfold f_Reader_sign
    refine V_aload_n C0 0 rfl 0 rfl dX3_sign_0 ?_
    refine g3_26 C0 dX3_sign_1 ?_
    refine V_iflt C0 42 dX3_sign_4 (by decide) (fun _ => ?_) (fun _ => ?_)
    · refine V_iconst C0 dX3_sign_42 ic_0 ?_
      exact V_iret C0 dX3_sign_43
    · refine V_aload_n C0 0 rfl 0 rfl dX3_sign_7 ?_
      refine g3_26 C0 dX3_sign_8 ?_
      refine V_aload_n C0 0 rfl 0 rfl dX3_sign_11 ?_
      refine g3_22 C0 dX3_sign_12 ?_
      refine V_icmpge C0 42 dX3_sign_15 (by decide) (fun _ => ?_) (fun _ => ?_)
      · refine V_iconst C0 dX3_sign_42 ic_0 ?_
        exact V_iret C0 dX3_sign_43
      · refine V_aload_n C0 0 rfl 0 rfl dX3_sign_18 ?_
        refine g3_26 C0 dX3_sign_19 ?_
        refine V_aload_n C0 0 rfl 0 rfl dX3_sign_22 ?_
        refine g3_9 C0 dX3_sign_23 ?_
        refine V_alenI C0 100 s2 m2 dX3_sign_26 ?_
        refine V_icmpge C0 42 dX3_sign_27 (by decide) (fun _ => ?_) (fun _ => ?_)
        · refine V_iconst C0 dX3_sign_42 ic_0 ?_
          exact V_iret C0 dX3_sign_43
        · refine V_aload_n C0 0 rfl 0 rfl dX3_sign_30 ?_
          refine g3_9 C0 dX3_sign_31 ?_
          refine V_aload_n C0 0 rfl 0 rfl dX3_sign_34 ?_
          refine g3_26 C0 dX3_sign_35 ?_
          refine V_iald C0 100 s2 n2 dX3_sign_38 ?_
          refine V_goto C0 43 dX3_sign_39 (by decide) ?_
          exact V_iret C0 dX3_sign_43)
set_option maxRecDepth 100000 in
set_option maxHeartbeats 4000000 in
theorem f_Reader_pass_b13_ok {X : XT} {G : GT} (C0 : Cx X G cX3_pass 3 RX3 (some .boolean)) (t0 : Int32) (M : Mem) : V X G 1 vI 3 13 [(0, .ref (G.2 + 1))] [.int t0] M (f_Reader_pass_b13 t0 M) := by
  unfold f_Reader_pass_b13
  refine V_istore_n C0 2 [(2, .int t0), (0, .ref (G.2 + 1))] rfl (by decide) rfl dX3_pass_13 ?_
  refine V_aload_n C0 0 rfl 1 rfl dX3_pass_14 ?_
  refine V_dup C0 rfl dX3_pass_15 ?_
  refine g3_26 C0 dX3_pass_16 ?_
  refine V_iload_n C0 2 rfl 0 rfl dX3_pass_19 ?_
  refine V_ifeq C0 27 dX3_pass_20 (by decide) (fun _ => ?_) (fun _ => ?_)
  · refine V_iconst C0 dX3_pass_27 ic_0 ?_
    refine V_iadd C0 dX3_pass_28 ?_
    refine p3_26 C0 dX3_pass_29 (fun M1 => ?_)
    refine V_iload_n C0 2 rfl 0 rfl dX3_pass_32 ?_
    exact V_zret C0 dX3_pass_33
  · refine V_iconst C0 dX3_pass_23 ic_1 ?_
    refine V_goto C0 28 dX3_pass_24 (by decide) ?_
    refine V_iadd C0 dX3_pass_28 ?_
    refine p3_26 C0 dX3_pass_29 (fun M2 => ?_)
    refine V_iload_n C0 2 rfl 0 rfl dX3_pass_32 ?_
    exact V_zret C0 dX3_pass_33
set_option maxRecDepth 100000 in
set_option maxHeartbeats 4000000 in
theorem mc_f_Reader_pass {G : GT} (l : Launch) (x1 : Int32) (M : Mem) (r : Int32) (M1 : Mem) (ho : f_Reader_pass x1 M = some (r, M1)) : MC l G yX3_pass cX3_pass 3 (some .boolean) 1 [.ref (G.2 + 1), .int x1] M (vI r) M1 :=
  MC.ofV (own := RX3) (lv := [(0, .ref (G.2 + 1)), (1, .int x1)]) (by decide +kernel) rfl rfl (Nat.le_of_ble_eq_true rfl) ho (fun X hX C0 => by
    unfold f_Reader_pass
    refine V_aload_n C0 0 rfl 0 rfl dX3_pass_0 ?_
    refine k3_29 C0 (by decide) (fun lq rq Mq hh => mc_f_Reader_sign lq  M rq Mq  hh) (Nat.le_of_ble_eq_true rfl) dX3_pass_1 (fun r1 M1 => ?_)
    refine V_iload_n C0 1 rfl 1 rfl dX3_pass_4 ?_
    refine V_icmpne C0 12 dX3_pass_5 (by decide) (fun _ => ?_) (fun _ => ?_)
    · refine V_iconst C0 dX3_pass_12 ic_0 ?_
      exact V_sub [0] rfl (f_Reader_pass_b13_ok C0 0 M1)
    · refine V_iconst C0 dX3_pass_8 ic_1 ?_
      refine V_goto C0 13 dX3_pass_9 (by decide) ?_
      exact V_sub [0] rfl (f_Reader_pass_b13_ok C0 1 M1))
set_option maxRecDepth 100000 in
set_option maxHeartbeats 4000000 in
theorem mc_f_Reader_readOperation {G : GT} (l : Launch) (a1 : Nat) (x2 : Int32) (x3 : Int32) (M : Mem) (r : Int32) (M1 : Mem) (h_a1 : (sh a1).1 = 1) (ho : f_Reader_readOperation a1 x2 x3 M = some (r, M1)) : MC l G yX3_readOperation cX3_readOperation 5 (some .boolean) 2 [.ref (G.2 + 1), .ref (G.2 + a1), .int x2, .int x3] M (vI r) M1 :=
  MC.ofV (own := RX3) (lv := [(0, .ref (G.2 + 1)), (1, .ref (G.2 + a1)), (2, .int x2), (3, .int x3)]) (by decide +kernel) rfl rfl (Nat.le_of_ble_eq_true rfl) ho (fun X hX C0 => by
    unfold f_Reader_readOperation
    refine V_aload_n C0 1 rfl 1 rfl dX3_readOperation_0 ?_
    refine V_iload_n C0 2 rfl 2 rfl dX3_readOperation_1 ?_
    refine V_iload_n C0 3 rfl 3 rfl dX3_readOperation_2 ?_
    refine V_iconst C0 dX3_readOperation_3 ic_0 ?_
    refine k3_62 C0 h_a1 (by decide) (fun lq rq Mq hh => mc_f_Form_insert lq a1 x2 x3 0 M rq Mq h_a1 hh) (Nat.le_of_ble_eq_true rfl) dX3_readOperation_4 (fun r1 M1 => ?_)
    refine V_istore C0 4 [(4, .int r1), (0, .ref (G.2 + 1)), (1, .ref (G.2 + a1)), (2, .int x2), (3, .int x3)] (by decide) rfl dX3_readOperation_7 ?_
    refine V_aload_n C0 0 rfl 1 rfl dX3_readOperation_9 ?_
    refine V_dup C0 rfl dX3_readOperation_10 ?_
    refine g3_26 C0 dX3_readOperation_11 ?_
    refine V_iload C0 4 0 rfl dX3_readOperation_14 ?_
    refine V_ifeq C0 23 dX3_readOperation_16 (by decide) (fun _ => ?_) (fun _ => ?_)
    · refine V_iconst C0 dX3_readOperation_23 ic_0 ?_
      refine V_iadd C0 dX3_readOperation_24 ?_
      refine p3_26 C0 dX3_readOperation_25 (fun M2 => ?_)
      refine V_iload C0 4 0 rfl dX3_readOperation_28 ?_
      exact V_zret C0 dX3_readOperation_30
    · refine V_iconst C0 dX3_readOperation_19 ic_1 ?_
      refine V_goto C0 24 dX3_readOperation_20 (by decide) ?_
      refine V_iadd C0 dX3_readOperation_24 ?_
      refine p3_26 C0 dX3_readOperation_25 (fun M3 => ?_)
      refine V_iload C0 4 0 rfl dX3_readOperation_28 ?_
      exact V_zret C0 dX3_readOperation_30)
set_option maxRecDepth 100000 in
set_option maxHeartbeats 4000000 in
theorem f_Reader_readNumber_b27_ok {X : XT} {G : GT} (C0 : Cx X G cX3_readNumber 3 RX3 (some .int)) (k4 : Int32 → Int32 → Mem → Option (Int32 × Mem)) (hk4 : ∀ (x1 : Int32) (x2 : Int32) (M : Mem), V X G 1 vI 3 4 [(0, .ref (G.2 + 1)), (1, .int x1), (2, .int x2)] [] M (k4 x1 x2 M)) (x1 : Int32) (x2 : Int32) (M : Mem) : V X G 1 vI 3 27 [(0, .ref (G.2 + 1)), (1, .int x1), (2, .int x2)] [] M (f_Reader_readNumber_b27 k4 x1 x2 M) := by
  unfold f_Reader_readNumber_b27
  refine V_bipush C0 dX3_readNumber_27 bp_10 ?_
  refine V_iload_n C0 1 rfl 1 rfl dX3_readNumber_29 ?_
  refine V_imul C0 dX3_readNumber_30 ?_
  refine V_aload_n C0 0 rfl 0 rfl dX3_readNumber_31 ?_
  refine k3_29 C0 (by decide) (fun lq rq Mq hh => mc_f_Reader_sign lq  M rq Mq  hh) (Nat.le_of_ble_eq_true rfl) dX3_readNumber_32 (fun r1 M1 => ?_)
  refine V_iadd C0 dX3_readNumber_35 ?_
  refine V_bipush C0 dX3_readNumber_36 bp_48 ?_
  refine V_isub C0 dX3_readNumber_38 ?_
  refine V_bi (fun y2 => ?_)
  refine V_istore_n C0 1 [(1, .int y2), (0, .ref (G.2 + 1)), (2, .int x2)] rfl (by decide) rfl dX3_readNumber_39 ?_
  refine V_iincB C0 2 2 (fun y3 => [(2, .int y3), (1, .int y2), (0, .ref (G.2 + 1))]) rfl ic_1 (by decide) (fun _ => rfl) dX3_readNumber_40 (fun y3 => ?_)
  refine V_aload_n C0 0 rfl 2 rfl dX3_readNumber_43 ?_
  refine V_dup C0 rfl dX3_readNumber_44 ?_
  refine g3_26 C0 dX3_readNumber_45 ?_
  refine V_iconst C0 dX3_readNumber_48 ic_1 ?_
  refine V_iadd C0 dX3_readNumber_49 ?_
  refine p3_26 C0 dX3_readNumber_50 (fun M4 => ?_)
  refine V_goto C0 4 dX3_readNumber_53 (by decide) ?_
  exact V_sub [2, 1, 0] rfl (hk4 y2 y3 M4)
set_option maxRecDepth 100000 in
set_option maxHeartbeats 4000000 in
theorem f_Reader_readNumber_b4_ok {X : XT} {G : GT} (C0 : Cx X G cX3_readNumber 3 RX3 (some .int)) : ∀ (n : Nat) (x1 : Int32) (x2 : Int32) (M : Mem), V X G 1 vI 3 4 [(0, .ref (G.2 + 1)), (1, .int x1), (2, .int x2)] [] M (f_Reader_readNumber_b4 n x1 x2 M) := by
  intro n
  induction n with
  | zero =>
    intros
    exact V_none
  | succ n ih =>
    intro x1 x2 M
    rw [f_Reader_readNumber_b4]
    refine V_iload_n C0 2 rfl 2 rfl dX3_readNumber_4 ?_
    refine V_iconst C0 dX3_readNumber_5 ic_3 ?_
    refine V_icmpge C0 56 dX3_readNumber_6 (by decide) (fun _ => ?_) (fun _ => ?_)
    · refine V_iload_n C0 1 rfl 1 rfl dX3_readNumber_56 ?_
      exact V_iret C0 dX3_readNumber_57
    · refine V_aload_n C0 0 rfl 0 rfl dX3_readNumber_9 ?_
      refine k3_29 C0 (by decide) (fun lq rq Mq hh => mc_f_Reader_sign lq  M rq Mq  hh) (Nat.le_of_ble_eq_true rfl) dX3_readNumber_10 (fun r1 M1 => ?_)
      refine k3_81 C0 (by decide) (fun lq rq Mq hh => mc_f_Reader_isDigit lq r1 M1 rq Mq  hh) (Nat.le_of_ble_eq_true rfl) dX3_readNumber_13 (fun r2 M2 => ?_)
      refine V_ifeq C0 56 dX3_readNumber_16 (by decide) (fun _ => ?_) (fun _ => ?_)
      · refine V_iload_n C0 1 rfl 1 rfl dX3_readNumber_56 ?_
        exact V_iret C0 dX3_readNumber_57
      · refine V_iload_n C0 2 rfl 2 rfl dX3_readNumber_19 ?_
        refine V_ifeq C0 27 dX3_readNumber_20 (by decide) (fun _ => ?_) (fun _ => ?_)
        · exact V_sub [0, 1, 2] rfl (f_Reader_readNumber_b27_ok C0 (f_Reader_readNumber_b4 n) ih x1 x2 M2)
        · refine V_iload_n C0 1 rfl 1 rfl dX3_readNumber_23 ?_
          refine V_ifle C0 56 dX3_readNumber_24 (by decide) (fun _ => ?_) (fun _ => ?_)
          · refine V_iload_n C0 1 rfl 1 rfl dX3_readNumber_56 ?_
            exact V_iret C0 dX3_readNumber_57
          · exact V_sub [0, 1, 2] rfl (f_Reader_readNumber_b27_ok C0 (f_Reader_readNumber_b4 n) ih x1 x2 M2)
set_option maxRecDepth 100000 in
set_option maxHeartbeats 4000000 in
theorem mc_f_Reader_readNumber {G : GT} (l : Launch) (M : Mem) (r : Int32) (M1 : Mem) (ho : f_Reader_readNumber  M = some (r, M1)) : MC l G yX3_readNumber cX3_readNumber 3 (some .int) 1 [.ref (G.2 + 1)] M (vI r) M1 :=
  MC.ofV (own := RX3) (lv := [(0, .ref (G.2 + 1))]) (by decide +kernel) rfl rfl (Nat.le_of_ble_eq_true rfl) ho (fun X hX C0 => by
    unfold f_Reader_readNumber
    refine V_iconst C0 dX3_readNumber_0 ic_0 ?_
    refine V_istore_n C0 1 [(1, .int 0), (0, .ref (G.2 + 1))] rfl (by decide) rfl dX3_readNumber_1 ?_
    refine V_iconst C0 dX3_readNumber_2 ic_0 ?_
    refine V_istore_n C0 2 [(2, .int 0), (1, .int 0), (0, .ref (G.2 + 1))] rfl (by decide) rfl dX3_readNumber_3 ?_
    exact V_sub [2, 1, 0] rfl (f_Reader_readNumber_b4_ok C0 FU 0 0 M))
