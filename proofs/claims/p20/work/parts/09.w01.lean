set_option maxRecDepth 100000 in
set_option maxHeartbeats 4000000 in
theorem f_Expanded_measure_b15_ok {X : XT} {G : GT} (C0 : Cx X G cX0_measure 8 RX0 none) : ∀ (n : Nat) (a0 : Nat) (a1 : Nat) (x3 : Int32) (M : Mem), (sh a0).1 = 0 → (sh a1).1 = 10 → V X G 3 vU 8 15 [(0, .ref (G.2 + a0)), (1, .ref (G.2 + a1)), (2, .ref (G.2 + 46)), (3, .int x3)] [] M (f_Expanded_measure_b15 n a0 a1 x3 M) := by
  intro n
  induction n with
  | zero =>
    intros
    exact V_none
  | succ n ih =>
    intro a0 a1 x3 M h_a0 h_a1
    rw [f_Expanded_measure_b15]
    refine V_iload_n C0 3 rfl 3 rfl dX0_measure_15 ?_
    refine V_iflt C0 215 dX0_measure_16 (by decide) (fun _ => ?_) (fun _ => ?_)
    · exact V_vret C0 dX0_measure_215
    · refine V_iload_n C0 3 rfl 3 rfl dX0_measure_19 ?_
      refine V_iconst C0 dX0_measure_20 ic_1 ?_
      refine V_iadd C0 dX0_measure_21 ?_
      refine V_bi (fun y1 => ?_)
      refine V_istore C0 4 [(4, .int y1), (0, .ref (G.2 + a0)), (1, .ref (G.2 + a1)), (2, .ref (G.2 + 46)), (3, .int x3)] (by decide) rfl dX0_measure_22 ?_
      refine V_aload_n C0 0 rfl 1 rfl dX0_measure_24 ?_
      refine g0_14 C0 h_a0 dX0_measure_25 ?_
      refine V_iload_n C0 3 rfl 4 rfl dX0_measure_28 ?_
      refine k0_48 C0 (tE1 h_a0) (by decide) (fun lq rq Mq hh => mc_f_Form_kindOf lq (a0 + 1) x3 M rq Mq (tE1 h_a0) hh) (Nat.le_of_ble_eq_true rfl) dX0_measure_29 (fun r2 M2 => ?_)
      refine k0_51 C0 (by decide) (fun lq rq Mq hh => mc_f_LP_partsOf lq r2 M2 rq Mq  hh) (Nat.le_of_ble_eq_true rfl) dX0_measure_32 (fun r3 M3 => ?_)
      refine V_istore C0 5 [(5, .int r3), (4, .int y1), (0, .ref (G.2 + a0)), (1, .ref (G.2 + a1)), (2, .ref (G.2 + 46)), (3, .int x3)] (by decide) rfl dX0_measure_35 ?_
      refine V_iload C0 5 0 rfl dX0_measure_37 ?_
      refine V_ifne C0 66 dX0_measure_39 (by decide) (fun _ => ?_) (fun _ => ?_)
      · refine V_iload C0 5 0 rfl dX0_measure_66 ?_
        refine V_iconst C0 dX0_measure_68 ic_1 ?_
        refine V_icmpne C0 115 dX0_measure_69 (by decide) (fun _ => ?_) (fun _ => ?_)
        · refine V_aload_n C0 0 rfl 2 rfl dX0_measure_115 ?_
          refine V_iload_n C0 3 rfl 5 rfl dX0_measure_116 ?_
          refine k0_96 C0 h_a0 (by decide) (fun lq rq Mq hh => mc_f_Expanded_rightOf lq a0 x3 M3 rq Mq h_a0 hh) (Nat.le_of_ble_eq_true rfl) dX0_measure_117 (fun r4 M4 => ?_)
          refine V_istore C0 6 [(6, .int r4), (5, .int r3), (4, .int y1), (0, .ref (G.2 + a0)), (1, .ref (G.2 + a1)), (2, .ref (G.2 + 46)), (3, .int x3)] (by decide) rfl dX0_measure_120 ?_
          refine V_aload_n C0 0 rfl 3 rfl dX0_measure_122 ?_
          refine V_iload C0 4 2 rfl dX0_measure_123 ?_
          refine k0_90 C0 h_a0 (by decide) (fun lq rq Mq hh => mc_f_Expanded_depthOf lq a0 y1 M4 rq Mq h_a0 hh) (Nat.le_of_ble_eq_true rfl) dX0_measure_125 (fun r5 M5 => ?_)
          refine V_aload_n C0 0 rfl 3 rfl dX0_measure_128 ?_
          refine V_iload C0 6 0 rfl dX0_measure_129 ?_
          refine k0_90 C0 h_a0 (by decide) (fun lq rq Mq hh => mc_f_Expanded_depthOf lq a0 r4 M5 rq Mq h_a0 hh) (Nat.le_of_ble_eq_true rfl) dX0_measure_131 (fun r6 M6 => ?_)
          refine V_mmax C0 wm0_99 wsM_max w0Math wcM_max (by decide) (Nat.le_of_ble_eq_true rfl) dX0_measure_134 ?_
          refine V_iconst C0 dX0_measure_137 ic_1 ?_
          refine V_iadd C0 dX0_measure_138 ?_
          refine V_bi (fun y7 => ?_)
          refine V_istore C0 7 [(7, .int y7), (6, .int r4), (5, .int r3), (4, .int y1), (0, .ref (G.2 + a0)), (1, .ref (G.2 + a1)), (2, .ref (G.2 + 46)), (3, .int x3)] (by decide) rfl dX0_measure_139 ?_
          refine V_aload_n C0 0 rfl 4 rfl dX0_measure_141 ?_
          refine V_iload_n C0 3 rfl 7 rfl dX0_measure_142 ?_
          refine V_aload_n C0 0 rfl 4 rfl dX0_measure_143 ?_
          refine V_iload C0 4 3 rfl dX0_measure_144 ?_
          refine k0_41 C0 h_a0 (by decide) (fun lq rq Mq hh => mc_f_Expanded_sizeOf lq a0 y1 M6 rq Mq h_a0 hh) (Nat.le_of_ble_eq_true rfl) dX0_measure_146 (fun r8 M8 => ?_)
          refine V_aload_n C0 0 rfl 4 rfl dX0_measure_149 ?_
          refine V_iload C0 6 1 rfl dX0_measure_150 ?_
          refine k0_41 C0 h_a0 (by decide) (fun lq rq Mq hh => mc_f_Expanded_sizeOf lq a0 r4 M8 rq Mq h_a0 hh) (Nat.le_of_ble_eq_true rfl) dX0_measure_152 (fun r9 M9 => ?_)
          refine V_iadd C0 dX0_measure_155 ?_
          refine V_iconst C0 dX0_measure_156 ic_1 ?_
          refine V_iadd C0 dX0_measure_157 ?_
          refine V_aload_n C0 0 rfl 4 rfl dX0_measure_158 ?_
          refine V_iload C0 4 3 rfl dX0_measure_159 ?_
          refine k0_87 C0 h_a0 (by decide) (fun lq rq Mq hh => mc_f_Expanded_needOf lq a0 y1 M9 rq Mq h_a0 hh) (Nat.le_of_ble_eq_true rfl) dX0_measure_161 (fun r10 M10 => ?_)
          refine V_aload_n C0 0 rfl 4 rfl dX0_measure_164 ?_
          refine V_iload C0 6 1 rfl dX0_measure_165 ?_
          refine k0_87 C0 h_a0 (by decide) (fun lq rq Mq hh => mc_f_Expanded_needOf lq a0 r4 M10 rq Mq h_a0 hh) (Nat.le_of_ble_eq_true rfl) dX0_measure_167 (fun r11 M11 => ?_)
          refine k0_102 C0 (by decide) (fun lq rq Mq hh => mc_f_Expanded_needOfPair lq r10 r11 M11 rq Mq  hh) (Nat.le_of_ble_eq_true rfl) dX0_measure_170 (fun r12 M12 => ?_)
          refine V_iload C0 7 0 rfl dX0_measure_173 ?_
          refine k0_79 C0 h_a0 (by decide) (fun lq rq Mq hh => mc_f_Expanded_put lq a0 x3 ((r8 + r9) + 1) r12 y7 M12 rq Mq h_a0 hh) (Nat.le_of_ble_eq_true rfl) dX0_measure_175 (fun _ M13 => ?_)
          refine V_aload_n C0 0 rfl 4 rfl dX0_measure_178 ?_
          refine g0_30 C0 h_a0 dX0_measure_179 ?_
          refine V_iload_n C0 3 rfl 7 rfl dX0_measure_182 ?_
          refine V_aload_n C0 0 rfl 4 rfl dX0_measure_183 ?_
          refine g0_14 C0 h_a0 dX0_measure_184 ?_
          refine V_iload_n C0 3 rfl 7 rfl dX0_measure_187 ?_
          refine k0_48 C0 (tE1 h_a0) (by decide) (fun lq rq Mq hh => mc_f_Form_kindOf lq (a0 + 1) x3 M13 rq Mq (tE1 h_a0) hh) (Nat.le_of_ble_eq_true rfl) dX0_measure_188 (fun r14 M14 => ?_)
          refine V_aload_n C0 0 rfl 4 rfl dX0_measure_191 ?_
          refine V_iload C0 4 3 rfl dX0_measure_192 ?_
          refine k0_93 C0 h_a0 (by decide) (fun lq rq Mq hh => mc_f_Expanded_valueOf lq a0 y1 M14 rq Mq h_a0 hh) (Nat.le_of_ble_eq_true rfl) dX0_measure_194 (fun r15 M15 => ?_)
          refine V_i2l C0 dX0_measure_197 ?_
          refine V_aload_n C0 0 rfl 4 rfl dX0_measure_198 ?_
          refine V_iload C0 6 1 rfl dX0_measure_199 ?_
          refine k0_93 C0 h_a0 (by decide) (fun lq rq Mq hh => mc_f_Expanded_valueOf lq a0 r4 M15 rq Mq h_a0 hh) (Nat.le_of_ble_eq_true rfl) dX0_measure_201 (fun r16 M16 => ?_)
          refine V_i2l C0 dX0_measure_204 ?_
          refine k0_105 C0 (by decide) (fun lq rq Mq hh => mc_f_Expanded_operate lq r14 (Int32.toInt64 r15) (Int32.toInt64 r16) M16 rq Mq  hh) (Nat.le_of_ble_eq_true rfl) dX0_measure_205 (fun r17 M17 => ?_)
          refine V_iast C0 60 (tE6 h_a0) (nE6 h_a0) dX0_measure_208 (fun M18 => ?_)
          refine V_iincB C0 3 7 (fun y19 => [(3, .int y19), (7, .int y7), (6, .int r4), (5, .int r3), (4, .int y1), (0, .ref (G.2 + a0)), (1, .ref (G.2 + a1)), (2, .ref (G.2 + 46))]) rfl ic_m1 (by decide) (fun _ => rfl) dX0_measure_209 (fun y19 => ?_)
          refine V_goto C0 15 dX0_measure_212 (by decide) ?_
          exact V_sub [5, 6, 7, 0] rfl (ih a0 a1 y19 M18 h_a0 h_a1)
        · refine V_aload_n C0 0 rfl 2 rfl dX0_measure_72 ?_
          refine V_iload_n C0 3 rfl 5 rfl dX0_measure_73 ?_
          refine V_aload_n C0 0 rfl 2 rfl dX0_measure_74 ?_
          refine V_iload C0 4 1 rfl dX0_measure_75 ?_
          refine k0_41 C0 h_a0 (by decide) (fun lq rq Mq hh => mc_f_Expanded_sizeOf lq a0 y1 M3 rq Mq h_a0 hh) (Nat.le_of_ble_eq_true rfl) dX0_measure_77 (fun r20 M20 => ?_)
          refine V_iconst C0 dX0_measure_80 ic_1 ?_
          refine V_iadd C0 dX0_measure_81 ?_
          refine V_aload_n C0 0 rfl 2 rfl dX0_measure_82 ?_
          refine V_iload C0 4 1 rfl dX0_measure_83 ?_
          refine k0_87 C0 h_a0 (by decide) (fun lq rq Mq hh => mc_f_Expanded_needOf lq a0 y1 M20 rq Mq h_a0 hh) (Nat.le_of_ble_eq_true rfl) dX0_measure_85 (fun r21 M21 => ?_)
          refine V_aload_n C0 0 rfl 2 rfl dX0_measure_88 ?_
          refine V_iload C0 4 1 rfl dX0_measure_89 ?_
          refine k0_90 C0 h_a0 (by decide) (fun lq rq Mq hh => mc_f_Expanded_depthOf lq a0 y1 M21 rq Mq h_a0 hh) (Nat.le_of_ble_eq_true rfl) dX0_measure_91 (fun r22 M22 => ?_)
          refine V_iconst C0 dX0_measure_94 ic_1 ?_
          refine V_iadd C0 dX0_measure_95 ?_
          refine k0_79 C0 h_a0 (by decide) (fun lq rq Mq hh => mc_f_Expanded_put lq a0 x3 (r20 + 1) r21 (r22 + 1) M22 rq Mq h_a0 hh) (Nat.le_of_ble_eq_true rfl) dX0_measure_96 (fun _ M23 => ?_)
          refine V_aload_n C0 0 rfl 2 rfl dX0_measure_99 ?_
          refine g0_30 C0 h_a0 dX0_measure_100 ?_
          refine V_iload_n C0 3 rfl 5 rfl dX0_measure_103 ?_
          refine V_aload_n C0 0 rfl 2 rfl dX0_measure_104 ?_
          refine V_iload C0 4 1 rfl dX0_measure_105 ?_
          refine k0_93 C0 h_a0 (by decide) (fun lq rq Mq hh => mc_f_Expanded_valueOf lq a0 y1 M23 rq Mq h_a0 hh) (Nat.le_of_ble_eq_true rfl) dX0_measure_107 (fun r24 M24 => ?_)
          refine V_ineg C0 dX0_measure_110 ?_
          refine V_iast C0 60 (tE6 h_a0) (nE6 h_a0) dX0_measure_111 (fun M25 => ?_)
          refine V_goto C0 209 dX0_measure_112 (by decide) ?_
          refine V_iincB C0 3 5 (fun y26 => [(3, .int y26), (5, .int r3), (4, .int y1), (0, .ref (G.2 + a0)), (1, .ref (G.2 + a1)), (2, .ref (G.2 + 46))]) rfl ic_m1 (by decide) (fun _ => rfl) dX0_measure_209 (fun y26 => ?_)
          refine V_goto C0 15 dX0_measure_212 (by decide) ?_
          exact V_sub [3, 4, 5, 0] rfl (ih a0 a1 y26 M25 h_a0 h_a1)
      · refine V_aload_n C0 0 rfl 2 rfl dX0_measure_42 ?_
        refine V_iload_n C0 3 rfl 5 rfl dX0_measure_43 ?_
        refine V_iconst C0 dX0_measure_44 ic_1 ?_
        refine V_iconst C0 dX0_measure_45 ic_1 ?_
        refine V_iconst C0 dX0_measure_46 ic_1 ?_
        refine k0_79 C0 h_a0 (by decide) (fun lq rq Mq hh => mc_f_Expanded_put lq a0 x3 1 1 1 M3 rq Mq h_a0 hh) (Nat.le_of_ble_eq_true rfl) dX0_measure_47 (fun _ M27 => ?_)
        refine V_aload_n C0 0 rfl 2 rfl dX0_measure_50 ?_
        refine g0_30 C0 h_a0 dX0_measure_51 ?_
        refine V_iload_n C0 3 rfl 5 rfl dX0_measure_54 ?_
        refine V_aload_n C0 0 rfl 2 rfl dX0_measure_55 ?_
        refine V_iload_n C0 3 rfl 5 rfl dX0_measure_56 ?_
        refine V_aload_n C0 1 rfl 3 rfl dX0_measure_57 ?_
        refine V_aload_n C0 2 rfl 4 rfl dX0_measure_58 ?_
        refine k0_83 C0 h_a0 (by decide) (fun lq rq Mq hh => mc_f_Expanded_leafValue lq a0 x3 a1 M27 rq Mq h_a0 h_a1 hh) (Nat.le_of_ble_eq_true rfl) dX0_measure_59 (fun r28 M28 => ?_)
        refine V_iast C0 60 (tE6 h_a0) (nE6 h_a0) dX0_measure_62 (fun M29 => ?_)
        refine V_goto C0 209 dX0_measure_63 (by decide) ?_
        refine V_iincB C0 3 5 (fun y30 => [(3, .int y30), (5, .int r3), (4, .int y1), (0, .ref (G.2 + a0)), (1, .ref (G.2 + a1)), (2, .ref (G.2 + 46))]) rfl ic_m1 (by decide) (fun _ => rfl) dX0_measure_209 (fun y30 => ?_)
        refine V_goto C0 15 dX0_measure_212 (by decide) ?_
        exact V_sub [3, 4, 5, 0] rfl (ih a0 a1 y30 M29 h_a0 h_a1)
set_option maxRecDepth 100000 in
set_option maxHeartbeats 4000000 in
theorem mc_f_Expanded_measure {G : GT} (l : Launch) (a0 : Nat) (a1 : Nat) (M : Mem) (r : Unit) (M1 : Mem) (h_a0 : (sh a0).1 = 0) (h_a1 : (sh a1).1 = 10) (ho : f_Expanded_measure a0 a1 M = some (r, M1)) : MC l G yX0_measure cX0_measure 8 none 3 [.ref (G.2 + a0), .ref (G.2 + a1), .ref (G.2 + 46)] M (vU r) M1 :=
  MC.ofV (own := RX0) (lv := [(0, .ref (G.2 + a0)), (1, .ref (G.2 + a1)), (2, .ref (G.2 + 46))]) (by decide +kernel) rfl rfl (Nat.le_of_ble_eq_true rfl) ho (fun X hX C0 => by
    unfold f_Expanded_measure
    refine V_aload_n C0 0 rfl 0 rfl dX0_measure_0 ?_
    refine g0_14 C0 h_a0 dX0_measure_1 ?_
    refine g0_45 C0 (tE1 h_a0) dX0_measure_4 ?_
    refine V_bipush C0 dX0_measure_7 bp_60 ?_
    refine V_mmin C0 wm0_73 wsM_min w0Math wcM_min (by decide) (Nat.le_of_ble_eq_true rfl) dX0_measure_9 ?_
    refine V_iconst C0 dX0_measure_12 ic_1 ?_
    refine V_isub C0 dX0_measure_13 ?_
    refine V_bi (fun y1 => ?_)
    refine V_istore_n C0 3 [(3, .int y1), (0, .ref (G.2 + a0)), (1, .ref (G.2 + a1)), (2, .ref (G.2 + 46))] rfl (by decide) rfl dX0_measure_14 ?_
    exact V_sub [1, 2, 3, 0] rfl (f_Expanded_measure_b15_ok C0 FU a0 a1 y1 M h_a0 h_a1))
set_option maxRecDepth 100000 in
set_option maxHeartbeats 4000000 in
theorem f_Expanded_pairs_b4_ok {X : XT} {G : GT} (C0 : Cx X G cX0_pairs 3 RX0 (some .int)) : ∀ (n : Nat) (a0 : Nat) (x1 : Int32) (x2 : Int32) (M : Mem), (sh a0).1 = 0 → V X G 2 vI 3 4 [(0, .ref (G.2 + a0)), (1, .int x1), (2, .int x2)] [] M (f_Expanded_pairs_b4 n a0 x1 x2 M) := by
  intro n
  induction n with
  | zero =>
    intros
    exact V_none
  | succ n ih =>
    intro a0 x1 x2 M h_a0
    rw [f_Expanded_pairs_b4]
    refine V_iload_n C0 2 rfl 2 rfl dX0_pairs_4 ?_
    refine V_aload_n C0 0 rfl 0 rfl dX0_pairs_5 ?_
    refine g0_14 C0 h_a0 dX0_pairs_6 ?_
    refine g0_45 C0 (tE1 h_a0) dX0_pairs_9 ?_
    refine V_icmpge C0 44 dX0_pairs_12 (by decide) (fun _ => ?_) (fun _ => ?_)
    · refine V_iload_n C0 1 rfl 1 rfl dX0_pairs_44 ?_
      exact V_iret C0 dX0_pairs_45
    · refine V_iload_n C0 1 rfl 1 rfl dX0_pairs_15 ?_
      refine V_aload_n C0 0 rfl 0 rfl dX0_pairs_16 ?_
      refine g0_14 C0 h_a0 dX0_pairs_17 ?_
      refine V_iload_n C0 2 rfl 2 rfl dX0_pairs_20 ?_
      refine k0_48 C0 (tE1 h_a0) (by decide) (fun lq rq Mq hh => mc_f_Form_kindOf lq (a0 + 1) x2 M rq Mq (tE1 h_a0) hh) (Nat.le_of_ble_eq_true rfl) dX0_pairs_21 (fun r1 M1 => ?_)
      refine k0_51 C0 (by decide) (fun lq rq Mq hh => mc_f_LP_partsOf lq r1 M1 rq Mq  hh) (Nat.le_of_ble_eq_true rfl) dX0_pairs_24 (fun r2 M2 => ?_)
      refine V_iconst C0 dX0_pairs_27 ic_2 ?_
      refine V_icmpne C0 35 dX0_pairs_28 (by decide) (fun _ => ?_) (fun _ => ?_)
      · refine V_iconst C0 dX0_pairs_35 ic_0 ?_
        refine V_iadd C0 dX0_pairs_36 ?_
        refine V_bi (fun y3 => ?_)
        refine V_istore_n C0 1 [(1, .int y3), (0, .ref (G.2 + a0)), (2, .int x2)] rfl (by decide) rfl dX0_pairs_37 ?_
        refine V_iincB C0 2 2 (fun y4 => [(2, .int y4), (1, .int y3), (0, .ref (G.2 + a0))]) rfl ic_1 (by decide) (fun _ => rfl) dX0_pairs_38 (fun y4 => ?_)
        refine V_goto C0 4 dX0_pairs_41 (by decide) ?_
        exact V_sub [2, 1, 0] rfl (ih a0 y3 y4 M2 h_a0)
      · refine V_iconst C0 dX0_pairs_31 ic_1 ?_
        refine V_goto C0 36 dX0_pairs_32 (by decide) ?_
        refine V_iadd C0 dX0_pairs_36 ?_
        refine V_bi (fun y5 => ?_)
        refine V_istore_n C0 1 [(1, .int y5), (0, .ref (G.2 + a0)), (2, .int x2)] rfl (by decide) rfl dX0_pairs_37 ?_
        refine V_iincB C0 2 2 (fun y6 => [(2, .int y6), (1, .int y5), (0, .ref (G.2 + a0))]) rfl ic_1 (by decide) (fun _ => rfl) dX0_pairs_38 (fun y6 => ?_)
        refine V_goto C0 4 dX0_pairs_41 (by decide) ?_
        exact V_sub [2, 1, 0] rfl (ih a0 y5 y6 M2 h_a0)
set_option maxRecDepth 100000 in
set_option maxHeartbeats 4000000 in
theorem mc_f_Expanded_pairs {G : GT} (l : Launch) (a0 : Nat) (M : Mem) (r : Int32) (M1 : Mem) (h_a0 : (sh a0).1 = 0) (ho : f_Expanded_pairs a0 M = some (r, M1)) : MC l G yX0_pairs cX0_pairs 3 (some .int) 2 [.ref (G.2 + a0)] M (vI r) M1 :=
  MC.ofV (own := RX0) (lv := [(0, .ref (G.2 + a0))]) (by decide +kernel) rfl rfl (Nat.le_of_ble_eq_true rfl) ho (fun X hX C0 => by
    unfold f_Expanded_pairs
    refine V_iconst C0 dX0_pairs_0 ic_0 ?_
    refine V_istore_n C0 1 [(1, .int 0), (0, .ref (G.2 + a0))] rfl (by decide) rfl dX0_pairs_1 ?_
    refine V_iconst C0 dX0_pairs_2 ic_0 ?_
    refine V_istore_n C0 2 [(2, .int 0), (1, .int 0), (0, .ref (G.2 + a0))] rfl (by decide) rfl dX0_pairs_3 ?_
    exact V_sub [2, 1, 0] rfl (f_Expanded_pairs_b4_ok C0 FU a0 0 0 M h_a0))
set_option maxRecDepth 100000 in
set_option maxHeartbeats 4000000 in
theorem f_Form_behind_b8_ok {X : XT} {G : GT} (C0 : Cx X G cX1_behind 4 RX1 (some .int)) : ∀ (n : Nat) (a0 : Nat) (x2 : Int32) (x3 : Int32) (M : Mem), (sh a0).1 = 1 → V X G 2 vI 4 8 [(0, .ref (G.2 + a0)), (2, .int x2), (3, .int x3)] [] M (f_Form_behind_b8 n a0 x2 x3 M) := by
  intro n
  induction n with
  | zero =>
    intros
    exact V_none
  | succ n ih =>
    intro a0 x2 x3 M h_a0
    rw [f_Form_behind_b8]
    refine V_iload_n C0 3 rfl 2 rfl dX1_behind_8 ?_
    refine V_ifle C0 39 dX1_behind_9 (by decide) (fun _ => ?_) (fun _ => ?_)
    · refine V_iload_n C0 2 rfl 1 rfl dX1_behind_39 ?_
      exact V_iret C0 dX1_behind_40
    · refine V_iload_n C0 2 rfl 1 rfl dX1_behind_12 ?_
      refine V_aload_n C0 0 rfl 0 rfl dX1_behind_13 ?_
      refine g1_9 C0 h_a0 dX1_behind_14 ?_
      refine V_icmpge C0 39 dX1_behind_17 (by decide) (fun _ => ?_) (fun _ => ?_)
      · refine V_iload_n C0 2 rfl 1 rfl dX1_behind_39 ?_
        exact V_iret C0 dX1_behind_40
      · refine V_iload_n C0 3 rfl 2 rfl dX1_behind_20 ?_
        refine V_aload_n C0 0 rfl 0 rfl dX1_behind_21 ?_
        refine V_iload_n C0 2 rfl 1 rfl dX1_behind_22 ?_
        refine k1_32 C0 h_a0 (by decide) (fun lq rq Mq hh => mc_f_Form_kindOf lq a0 x2 M rq Mq h_a0 hh) (Nat.le_of_ble_eq_true rfl) dX1_behind_23 (fun r1 M1 => ?_)
        refine k1_57 C0 (by decide) (fun lq rq Mq hh => mc_f_LP_partsOf lq r1 M1 rq Mq  hh) (Nat.le_of_ble_eq_true rfl) dX1_behind_26 (fun r2 M2 => ?_)
        refine V_iconst C0 dX1_behind_29 ic_1 ?_
        refine V_isub C0 dX1_behind_30 ?_
        refine V_iadd C0 dX1_behind_31 ?_
        refine V_bi (fun y3 => ?_)
        refine V_istore_n C0 3 [(3, .int y3), (0, .ref (G.2 + a0)), (2, .int x2)] rfl (by decide) rfl dX1_behind_32 ?_
        refine V_iincB C0 2 2 (fun y4 => [(2, .int y4), (3, .int y3), (0, .ref (G.2 + a0))]) rfl ic_1 (by decide) (fun _ => rfl) dX1_behind_33 (fun y4 => ?_)
        refine V_goto C0 8 dX1_behind_36 (by decide) ?_
        exact V_sub [2, 0, 1] rfl (ih a0 y4 y3 M2 h_a0)
set_option maxRecDepth 100000 in
set_option maxHeartbeats 4000000 in
theorem mc_f_Form_behind {G : GT} (l : Launch) (a0 : Nat) (x1 : Int32) (M : Mem) (r : Int32) (M1 : Mem) (h_a0 : (sh a0).1 = 1) (ho : f_Form_behind a0 x1 M = some (r, M1)) : MC l G yX1_behind cX1_behind 4 (some .int) 2 [.ref (G.2 + a0), .int x1] M (vI r) M1 :=
  MC.ofV (own := RX1) (lv := [(0, .ref (G.2 + a0)), (1, .int x1)]) (by decide +kernel) rfl rfl (Nat.le_of_ble_eq_true rfl) ho (fun X hX C0 => by
    unfold f_Form_behind
    refine V_iconst C0 dX1_behind_0 ic_0 ?_
    refine V_iload_n C0 1 rfl 1 rfl dX1_behind_1 ?_
    refine V_mmax C0 wm1_15 wsM_max w0Math wcM_max (by decide) (Nat.le_of_ble_eq_true rfl) dX1_behind_2 ?_
    refine V_bi (fun y1 => ?_)
    refine V_istore_n C0 2 [(2, .int y1), (0, .ref (G.2 + a0)), (1, .int x1)] rfl (by decide) rfl dX1_behind_5 ?_
    refine V_iconst C0 dX1_behind_6 ic_1 ?_
    refine V_istore_n C0 3 [(3, .int 1), (2, .int y1), (0, .ref (G.2 + a0)), (1, .int x1)] rfl (by decide) rfl dX1_behind_7 ?_
    exact V_sub [2, 1, 0] rfl (f_Form_behind_b8_ok C0 FU a0 y1 1 M h_a0))
set_option maxRecDepth 100000 in
set_option maxHeartbeats 4000000 in
theorem mc_f_Form_copy {G : GT} (l : Launch) (a0 : Nat) (a1 : Nat) (M : Mem) (r : Unit) (M1 : Mem) (h_a0 : (sh a0).1 = 1) (h_a1 : (sh a1).1 = 1) (ho : f_Form_copy a0 a1 M = some (r, M1)) : MC l G yX1_copy cX1_copy 2 none 3 [.ref (G.2 + a0), .ref (G.2 + a1)] M (vU r) M1 :=
  MC.ofV (own := RX1) (lv := [(0, .ref (G.2 + a0)), (1, .ref (G.2 + a1))]) (by decide +kernel) rfl rfl (Nat.le_of_ble_eq_true rfl) ho (fun X hX C0 => by
    unfold f_Form_copy
    refine V_aload_n C0 0 rfl 0 rfl dX1_copy_0 ?_
    refine V_iconst C0 dX1_copy_1 ic_0 ?_
    refine p1_9 C0 h_a0 dX1_copy_2 (fun M1 => ?_)
    refine V_aload_n C0 0 rfl 0 rfl dX1_copy_5 ?_
    refine V_aload_n C0 1 rfl 1 rfl dX1_copy_6 ?_
    refine k1_53 C0 h_a0 (by decide) (fun lq rq Mq hh => mc_f_Form_addAll lq a0 a1 M1 rq Mq h_a0 h_a1 hh) (Nat.le_of_ble_eq_true rfl) dX1_copy_7 (fun _ M2 => ?_)
    exact V_vret C0 dX1_copy_10)
set_option maxRecDepth 100000 in
set_option maxHeartbeats 4000000 in
theorem f_Form_turnAround_b5_ok {X : XT} {G : GT} (C0 : Cx X G cX1_turnAround 7 RX1 none) : ∀ (n : Nat) (a0 : Nat) (x3 : Int32) (x4 : Int32) (M : Mem), (sh a0).1 = 1 → V X G 1 vU 7 5 [(0, .ref (G.2 + a0)), (3, .int x3), (4, .int x4)] [] M (f_Form_turnAround_b5 n a0 x3 x4 M) := by
  intro n
  induction n with
  | zero =>
    intros
    exact V_none
  | succ n ih =>
    intro a0 x3 x4 M h_a0
    rw [f_Form_turnAround_b5]
    refine V_iload_n C0 3 rfl 1 rfl dX1_turnAround_5 ?_
    refine V_iload C0 4 2 rfl dX1_turnAround_6 ?_
    refine V_icmpge C0 97 dX1_turnAround_8 (by decide) (fun _ => ?_) (fun _ => ?_)
    · exact V_vret C0 dX1_turnAround_97
    · refine V_aload_n C0 0 rfl 0 rfl dX1_turnAround_11 ?_
      refine V_iload_n C0 3 rfl 1 rfl dX1_turnAround_12 ?_
      refine k1_28 C0 h_a0 (by decide) (fun lq rq Mq hh => mc_f_Form_has lq a0 x3 M rq Mq h_a0 hh) (Nat.le_of_ble_eq_true rfl) dX1_turnAround_13 (fun r1 M1 => ?_)
      refine V_ifeq C0 97 dX1_turnAround_16 (by decide) (fun _ => ?_) (fun _ => ?_)
      · exact V_vret C0 dX1_turnAround_97
      · refine V_aload_n C0 0 rfl 0 rfl dX1_turnAround_19 ?_
        refine V_iload C0 4 2 rfl dX1_turnAround_20 ?_
        refine k1_28 C0 h_a0 (by decide) (fun lq rq Mq hh => mc_f_Form_has lq a0 x4 M1 rq Mq h_a0 hh) (Nat.le_of_ble_eq_true rfl) dX1_turnAround_22 (fun r2 M2 => ?_)
        refine V_ifeq C0 97 dX1_turnAround_25 (by decide) (fun _ => ?_) (fun _ => ?_)
        · exact V_vret C0 dX1_turnAround_97
        · refine V_aload_n C0 0 rfl 0 rfl dX1_turnAround_28 ?_
          refine g1_21 C0 h_a0 dX1_turnAround_29 ?_
          refine V_iload_n C0 3 rfl 1 rfl dX1_turnAround_32 ?_
          refine V_iald C0 (ln (a0 + 1)) (tF0 h_a0) rfl dX1_turnAround_33 ?_
          refine V_bi (fun y3 => ?_)
          refine V_istore C0 5 [(5, .int y3), (0, .ref (G.2 + a0)), (3, .int x3), (4, .int x4)] (by decide) rfl dX1_turnAround_34 ?_
          refine V_aload_n C0 0 rfl 1 rfl dX1_turnAround_36 ?_
          refine g1_21 C0 h_a0 dX1_turnAround_37 ?_
          refine V_iload_n C0 3 rfl 2 rfl dX1_turnAround_40 ?_
          refine V_aload_n C0 0 rfl 1 rfl dX1_turnAround_41 ?_
          refine g1_21 C0 h_a0 dX1_turnAround_42 ?_
          refine V_iload C0 4 3 rfl dX1_turnAround_45 ?_
          refine V_iald C0 (ln (a0 + 1)) (tF0 h_a0) rfl dX1_turnAround_47 ?_
          refine V_iast C0 (ln (a0 + 1)) (tF0 h_a0) rfl dX1_turnAround_48 (fun M4 => ?_)
          refine V_aload_n C0 0 rfl 1 rfl dX1_turnAround_49 ?_
          refine g1_21 C0 h_a0 dX1_turnAround_50 ?_
          refine V_iload C0 4 3 rfl dX1_turnAround_53 ?_
          refine V_iload C0 5 0 rfl dX1_turnAround_55 ?_
          refine V_iast C0 (ln (a0 + 1)) (tF0 h_a0) rfl dX1_turnAround_57 (fun M5 => ?_)
          refine V_aload_n C0 0 rfl 1 rfl dX1_turnAround_58 ?_
          refine g1_25 C0 h_a0 dX1_turnAround_59 ?_
          refine V_iload_n C0 3 rfl 2 rfl dX1_turnAround_62 ?_
          refine V_iald C0 (ln (a0 + 2)) (tF1 h_a0) rfl dX1_turnAround_63 ?_
          refine V_bi (fun y6 => ?_)
          refine V_istore C0 6 [(6, .int y6), (5, .int y3), (0, .ref (G.2 + a0)), (3, .int x3), (4, .int x4)] (by decide) rfl dX1_turnAround_64 ?_
          refine V_aload_n C0 0 rfl 2 rfl dX1_turnAround_66 ?_
          refine g1_25 C0 h_a0 dX1_turnAround_67 ?_
          refine V_iload_n C0 3 rfl 3 rfl dX1_turnAround_70 ?_
          refine V_aload_n C0 0 rfl 2 rfl dX1_turnAround_71 ?_
          refine g1_25 C0 h_a0 dX1_turnAround_72 ?_
          refine V_iload C0 4 4 rfl dX1_turnAround_75 ?_
          refine V_iald C0 (ln (a0 + 2)) (tF1 h_a0) rfl dX1_turnAround_77 ?_
          refine V_iast C0 (ln (a0 + 2)) (tF1 h_a0) rfl dX1_turnAround_78 (fun M7 => ?_)
          refine V_aload_n C0 0 rfl 2 rfl dX1_turnAround_79 ?_
          refine g1_25 C0 h_a0 dX1_turnAround_80 ?_
          refine V_iload C0 4 4 rfl dX1_turnAround_83 ?_
          refine V_iload C0 6 0 rfl dX1_turnAround_85 ?_
          refine V_iast C0 (ln (a0 + 2)) (tF1 h_a0) rfl dX1_turnAround_87 (fun M8 => ?_)
          refine V_iincB C0 3 3 (fun y9 => [(3, .int y9), (6, .int y6), (5, .int y3), (0, .ref (G.2 + a0)), (4, .int x4)]) rfl ic_1 (by decide) (fun _ => rfl) dX1_turnAround_88 (fun y9 => ?_)
          refine V_iincB C0 4 4 (fun y10 => [(4, .int y10), (3, .int y9), (6, .int y6), (5, .int y3), (0, .ref (G.2 + a0))]) rfl ic_m1 (by decide) (fun _ => rfl) dX1_turnAround_91 (fun y10 => ?_)
          refine V_goto C0 5 dX1_turnAround_94 (by decide) ?_
          exact V_sub [4, 1, 0] rfl (ih a0 y9 y10 M8 h_a0)
set_option maxRecDepth 100000 in
set_option maxHeartbeats 4000000 in
theorem mc_f_Form_turnAround {G : GT} (l : Launch) (a0 : Nat) (x1 : Int32) (x2 : Int32) (M : Mem) (r : Unit) (M1 : Mem) (h_a0 : (sh a0).1 = 1) (ho : f_Form_turnAround a0 x1 x2 M = some (r, M1)) : MC l G yX1_turnAround cX1_turnAround 7 none 1 [.ref (G.2 + a0), .int x1, .int x2] M (vU r) M1 :=
  MC.ofV (own := RX1) (lv := [(0, .ref (G.2 + a0)), (1, .int x1), (2, .int x2)]) (by decide +kernel) rfl rfl (Nat.le_of_ble_eq_true rfl) ho (fun X hX C0 => by
    unfold f_Form_turnAround
    refine V_iload_n C0 1 rfl 1 rfl dX1_turnAround_0 ?_
    refine V_istore_n C0 3 [(3, .int x1), (0, .ref (G.2 + a0)), (1, .int x1), (2, .int x2)] rfl (by decide) rfl dX1_turnAround_1 ?_
    refine V_iload_n C0 2 rfl 3 rfl dX1_turnAround_2 ?_
    refine V_istore C0 4 [(4, .int x2), (3, .int x1), (0, .ref (G.2 + a0)), (1, .int x1), (2, .int x2)] (by decide) rfl dX1_turnAround_3 ?_
    exact V_sub [2, 1, 0] rfl (f_Form_turnAround_b5_ok C0 FU a0 x1 x2 M h_a0))
set_option maxRecDepth 100000 in
set_option maxHeartbeats 4000000 in
theorem mc_f_Form_exchange {G : GT} (l : Launch) (a0 : Nat) (x1 : Int32) (M : Mem) (r : Unit) (M1 : Mem) (h_a0 : (sh a0).1 = 1) (ho : f_Form_exchange a0 x1 M = some (r, M1)) : MC l G yX1_exchange cX1_exchange 4 none 3 [.ref (G.2 + a0), .int x1] M (vU r) M1 :=
  MC.ofV (own := RX1) (lv := [(0, .ref (G.2 + a0)), (1, .int x1)]) (by decide +kernel) rfl rfl (Nat.le_of_ble_eq_true rfl) ho (fun X hX C0 => by
    unfold f_Form_exchange
    refine V_aload_n C0 0 rfl 0 rfl dX1_exchange_0 ?_
    refine V_iload_n C0 1 rfl 1 rfl dX1_exchange_1 ?_
    refine V_iconst C0 dX1_exchange_2 ic_1 ?_
    refine V_iadd C0 dX1_exchange_3 ?_
    refine k1_60 C0 h_a0 (by decide) (fun lq rq Mq hh => mc_f_Form_behind lq a0 (x1 + 1) M rq Mq h_a0 hh) (Nat.le_of_ble_eq_true rfl) dX1_exchange_4 (fun r1 M1 => ?_)
    refine V_istore_n C0 2 [(2, .int r1), (0, .ref (G.2 + a0)), (1, .int x1)] rfl (by decide) rfl dX1_exchange_7 ?_
    refine V_aload_n C0 0 rfl 1 rfl dX1_exchange_8 ?_
    refine V_iload_n C0 2 rfl 0 rfl dX1_exchange_9 ?_
    refine k1_60 C0 h_a0 (by decide) (fun lq rq Mq hh => mc_f_Form_behind lq a0 r1 M1 rq Mq h_a0 hh) (Nat.le_of_ble_eq_true rfl) dX1_exchange_10 (fun r2 M2 => ?_)
    refine V_istore_n C0 3 [(3, .int r2), (2, .int r1), (0, .ref (G.2 + a0)), (1, .int x1)] rfl (by decide) rfl dX1_exchange_13 ?_
    refine V_aload_n C0 0 rfl 2 rfl dX1_exchange_14 ?_
    refine V_iload_n C0 1 rfl 3 rfl dX1_exchange_15 ?_
    refine V_iconst C0 dX1_exchange_16 ic_1 ?_
    refine V_iadd C0 dX1_exchange_17 ?_
    refine V_iload_n C0 2 rfl 1 rfl dX1_exchange_18 ?_
    refine V_iconst C0 dX1_exchange_19 ic_1 ?_
    refine V_isub C0 dX1_exchange_20 ?_
    refine k1_63 C0 h_a0 (by decide) (fun lq rq Mq hh => mc_f_Form_turnAround lq a0 (x1 + 1) (r1 - 1) M2 rq Mq h_a0 hh) (Nat.le_of_ble_eq_true rfl) dX1_exchange_21 (fun _ M3 => ?_)
    refine V_aload_n C0 0 rfl 2 rfl dX1_exchange_24 ?_
    refine V_iload_n C0 2 rfl 1 rfl dX1_exchange_25 ?_
    refine V_iload_n C0 3 rfl 0 rfl dX1_exchange_26 ?_
    refine V_iconst C0 dX1_exchange_27 ic_1 ?_
    refine V_isub C0 dX1_exchange_28 ?_
    refine k1_63 C0 h_a0 (by decide) (fun lq rq Mq hh => mc_f_Form_turnAround lq a0 r1 (r2 - 1) M3 rq Mq h_a0 hh) (Nat.le_of_ble_eq_true rfl) dX1_exchange_29 (fun _ M4 => ?_)
    refine V_aload_n C0 0 rfl 2 rfl dX1_exchange_32 ?_
    refine V_iload_n C0 1 rfl 3 rfl dX1_exchange_33 ?_
    refine V_iconst C0 dX1_exchange_34 ic_1 ?_
    refine V_iadd C0 dX1_exchange_35 ?_
    refine V_iload_n C0 3 rfl 0 rfl dX1_exchange_36 ?_
    refine V_iconst C0 dX1_exchange_37 ic_1 ?_
    refine V_isub C0 dX1_exchange_38 ?_
    refine k1_63 C0 h_a0 (by decide) (fun lq rq Mq hh => mc_f_Form_turnAround lq a0 (x1 + 1) (r2 - 1) M4 rq Mq h_a0 hh) (Nat.le_of_ble_eq_true rfl) dX1_exchange_39 (fun _ M5 => ?_)
    exact V_vret C0 dX1_exchange_42)
set_option maxRecDepth 100000 in
set_option maxHeartbeats 4000000 in
theorem mc_f_Form_insert {G : GT} (l : Launch) (a0 : Nat) (x1 : Int32) (x2 : Int32) (x3 : Int32) (M : Mem) (r : Int32) (M1 : Mem) (h_a0 : (sh a0).1 = 1) (ho : f_Form_insert a0 x1 x2 x3 M = some (r, M1)) : MC l G yX1_insert cX1_insert 4 (some .boolean) 1 [.ref (G.2 + a0), .int x1, .int x2, .int x3] M (vI r) M1 :=
  MC.ofV (own := RX1) (lv := [(0, .ref (G.2 + a0)), (1, .int x1), (2, .int x2), (3, .int x3)]) (by decide +kernel) rfl rfl (Nat.le_of_ble_eq_true rfl) ho (fun X hX C0 => by
    unfold f_Form_insert
    refine V_aload_n C0 0 rfl 0 rfl dX1_insert_0 ?_
    refine k1_36 C0 h_a0 (by decide) (fun lq rq Mq hh => mc_f_Form_isFull lq a0 M rq Mq h_a0 hh) (Nat.le_of_ble_eq_true rfl) dX1_insert_1 (fun r1 M1 => ?_)
    refine V_ifne C0 19 dX1_insert_4 (by decide) (fun _ => ?_) (fun _ => ?_)
    · refine V_iconst C0 dX1_insert_19 ic_0 ?_
      exact V_zret C0 dX1_insert_20
    · refine V_iload_n C0 1 rfl 1 rfl dX1_insert_7 ?_
      refine V_iflt C0 19 dX1_insert_8 (by decide) (fun _ => ?_) (fun _ => ?_)
      · refine V_iconst C0 dX1_insert_19 ic_0 ?_
        exact V_zret C0 dX1_insert_20
      · refine V_iload_n C0 1 rfl 1 rfl dX1_insert_11 ?_
        refine V_aload_n C0 0 rfl 0 rfl dX1_insert_12 ?_
        refine g1_9 C0 h_a0 dX1_insert_13 ?_
        refine V_icmple C0 21 dX1_insert_16 (by decide) (fun _ => ?_) (fun _ => ?_)
        · refine V_aload_n C0 0 rfl 0 rfl dX1_insert_21 ?_
          refine g1_21 C0 h_a0 dX1_insert_22 ?_
          refine V_iload_n C0 1 rfl 1 rfl dX1_insert_25 ?_
          refine V_aload_n C0 0 rfl 0 rfl dX1_insert_26 ?_
          refine g1_21 C0 h_a0 dX1_insert_27 ?_
          refine V_iload_n C0 1 rfl 1 rfl dX1_insert_30 ?_
          refine V_iconst C0 dX1_insert_31 ic_1 ?_
          refine V_iadd C0 dX1_insert_32 ?_
          refine V_aload_n C0 0 rfl 0 rfl dX1_insert_33 ?_
          refine g1_9 C0 h_a0 dX1_insert_34 ?_
          refine V_iload_n C0 1 rfl 1 rfl dX1_insert_37 ?_
          refine V_isub C0 dX1_insert_38 ?_
          refine V_copy C0 (ln (a0 + 1)) (ln (a0 + 1)) wm1_40 wnM_copy wsM_copy w0System (tF0 h_a0) (tF0 h_a0) rfl rfl (by decide) (Nat.le_of_ble_eq_true rfl) dX1_insert_39 (fun M2 => ?_)
          refine V_aload_n C0 0 rfl 0 rfl dX1_insert_42 ?_
          refine g1_25 C0 h_a0 dX1_insert_43 ?_
          refine V_iload_n C0 1 rfl 1 rfl dX1_insert_46 ?_
          refine V_aload_n C0 0 rfl 0 rfl dX1_insert_47 ?_
          refine g1_25 C0 h_a0 dX1_insert_48 ?_
          refine V_iload_n C0 1 rfl 1 rfl dX1_insert_51 ?_
          refine V_iconst C0 dX1_insert_52 ic_1 ?_
          refine V_iadd C0 dX1_insert_53 ?_
          refine V_aload_n C0 0 rfl 0 rfl dX1_insert_54 ?_
          refine g1_9 C0 h_a0 dX1_insert_55 ?_
          refine V_iload_n C0 1 rfl 1 rfl dX1_insert_58 ?_
          refine V_isub C0 dX1_insert_59 ?_
          refine V_copy C0 (ln (a0 + 2)) (ln (a0 + 2)) wm1_40 wnM_copy wsM_copy w0System (tF1 h_a0) (tF1 h_a0) rfl rfl (by decide) (Nat.le_of_ble_eq_true rfl) dX1_insert_60 (fun M3 => ?_)
          refine V_aload_n C0 0 rfl 0 rfl dX1_insert_63 ?_
          refine g1_21 C0 h_a0 dX1_insert_64 ?_
          refine V_iload_n C0 1 rfl 1 rfl dX1_insert_67 ?_
          refine V_iload_n C0 2 rfl 2 rfl dX1_insert_68 ?_
          refine V_iast C0 (ln (a0 + 1)) (tF0 h_a0) rfl dX1_insert_69 (fun M4 => ?_)
          refine V_aload_n C0 0 rfl 0 rfl dX1_insert_70 ?_
          refine g1_25 C0 h_a0 dX1_insert_71 ?_
          refine V_iload_n C0 1 rfl 1 rfl dX1_insert_74 ?_
          refine V_iload_n C0 3 rfl 3 rfl dX1_insert_75 ?_
          refine V_iast C0 (ln (a0 + 2)) (tF1 h_a0) rfl dX1_insert_76 (fun M5 => ?_)
          refine V_aload_n C0 0 rfl 0 rfl dX1_insert_77 ?_
          refine V_dup C0 rfl dX1_insert_78 ?_
          refine g1_9 C0 h_a0 dX1_insert_79 ?_
          refine V_iconst C0 dX1_insert_82 ic_1 ?_
          refine V_iadd C0 dX1_insert_83 ?_
          refine p1_9 C0 h_a0 dX1_insert_84 (fun M6 => ?_)
          refine V_iconst C0 dX1_insert_87 ic_1 ?_
          exact V_zret C0 dX1_insert_88
        · refine V_iconst C0 dX1_insert_19 ic_0 ?_
          exact V_zret C0 dX1_insert_20)
set_option maxRecDepth 100000 in
set_option maxHeartbeats 4000000 in
theorem mc_f_Reader_isDigit {G : GT} (l : Launch) (x0 : Int32) (M : Mem) (r : Int32) (M1 : Mem) (ho : f_Reader_isDigit x0 M = some (r, M1)) : MC l G yX3_isDigit cX3_isDigit 1 (some .boolean) 0 [.int x0] M (vI r) M1 :=
  MC.ofV (own := RX3) (lv := [(0, .int x0)]) (by decide +kernel) rfl rfl (Nat.le_of_ble_eq_true rfl) ho (fun X hX C0 => by
    unfold f_Reader_isDigit
    refine V_iload_n C0 0 rfl 0 rfl dX3_isDigit_0 ?_
    refine V_bipush C0 dX3_isDigit_1 bp_48 ?_
    refine V_icmplt C0 16 dX3_isDigit_3 (by decide) (fun _ => ?_) (fun _ => ?_)
    · refine V_iconst C0 dX3_isDigit_16 ic_0 ?_
      exact V_zret C0 dX3_isDigit_17
    · refine V_iload_n C0 0 rfl 0 rfl dX3_isDigit_6 ?_
      refine V_bipush C0 dX3_isDigit_7 bp_57 ?_
      refine V_icmpgt C0 16 dX3_isDigit_9 (by decide) (fun _ => ?_) (fun _ => ?_)
      · refine V_iconst C0 dX3_isDigit_16 ic_0 ?_
        exact V_zret C0 dX3_isDigit_17
      · refine V_iconst C0 dX3_isDigit_12 ic_1 ?_
        refine V_goto C0 17 dX3_isDigit_13 (by decide) ?_
        exact V_zret C0 dX3_isDigit_17)
set_option maxRecDepth 100000 in
set_option maxHeartbeats 4000000 in
theorem mc_f_Reader_sign {G : GT} (l : Launch) (M : Mem) (r : Int32) (M1 : Mem) (ho : f_Reader_sign  M = some (r, M1)) : MC l G yX3_sign cX3_sign 1 (some .int) 0 [.ref (G.2 + 1)] M (vI r) M1 :=
  MC.ofV (own := RX3) (lv := [(0, .ref (G.2 + 1))]) (by decide +kernel) rfl rfl (Nat.le_of_ble_eq_true rfl) ho (fun X hX C0 => by
    unfold f_Reader_sign
    refine V_aload_n C0 0 rfl 0 rfl dX3_sign_0 ?_
    refine g3_26 C0 dX3_sign_1 ?_
    refine V_iflt C0 42 dX3_sign_4 (by decide) (fun _ => ?_) (fun _ => ?_)
    · refine V_iconst C0 dX3_sign_42 ic_0 ?_
      exact V_iret C0 dX3_sign_43
    · refine V_aload_n C0 0 rfl 0 rfl dX3_sign_7 ?_
      refine g3_26 C0 dX3_sign_8 ?_
      refine V_aload_n C0 0 rfl 0 rfl dX3_sign_11 ?_
      refine g3_22 C0 dX3_sign_12 ?_
      refine V_icmpge C0 42 dX3_sign_15 (by decide) (fun _ => ?_) (fun _ => ?_)
      · refine V_iconst C0 dX3_sign_42 ic_0 ?_
        exact V_iret C0 dX3_sign_43
      · refine V_aload_n C0 0 rfl 0 rfl dX3_sign_18 ?_
        refine g3_26 C0 dX3_sign_19 ?_
        refine V_aload_n C0 0 rfl 0 rfl dX3_sign_22 ?_
        refine g3_9 C0 dX3_sign_23 ?_
        refine V_alenI C0 100 s2 m2 dX3_sign_26 ?_
        refine V_icmpge C0 42 dX3_sign_27 (by decide) (fun _ => ?_) (fun _ => ?_)
        · refine V_iconst C0 dX3_sign_42 ic_0 ?_
          exact V_iret C0 dX3_sign_43
        · refine V_aload_n C0 0 rfl 0 rfl dX3_sign_30 ?_
          refine g3_9 C0 dX3_sign_31 ?_
          refine V_aload_n C0 0 rfl 0 rfl dX3_sign_34 ?_
          refine g3_26 C0 dX3_sign_35 ?_
          refine V_iald C0 100 s2 n2 dX3_sign_38 ?_
          refine V_goto C0 43 dX3_sign_39 (by decide) ?_
          exact V_iret C0 dX3_sign_43)
set_option maxRecDepth 100000 in
set_option maxHeartbeats 4000000 in
theorem f_Reader_pass_b13_ok {X : XT} {G : GT} (C0 : Cx X G cX3_pass 3 RX3 (some .boolean)) (t0 : Int32) (M : Mem) : V X G 1 vI 3 13 [(0, .ref (G.2 + 1))] [.int t0] M (f_Reader_pass_b13 t0 M) := by
  unfold f_Reader_pass_b13
  refine V_istore_n C0 2 [(2, .int t0), (0, .ref (G.2 + 1))] rfl (by decide) rfl dX3_pass_13 ?_
  refine V_aload_n C0 0 rfl 1 rfl dX3_pass_14 ?_
  refine V_dup C0 rfl dX3_pass_15 ?_
  refine g3_26 C0 dX3_pass_16 ?_
  refine V_iload_n C0 2 rfl 0 rfl dX3_pass_19 ?_
  refine V_ifeq C0 27 dX3_pass_20 (by decide) (fun _ => ?_) (fun _ => ?_)
  · refine V_iconst C0 dX3_pass_27 ic_0 ?_
    refine V_iadd C0 dX3_pass_28 ?_
    refine p3_26 C0 dX3_pass_29 (fun M1 => ?_)
    refine V_iload_n C0 2 rfl 0 rfl dX3_pass_32 ?_
    exact V_zret C0 dX3_pass_33
  · refine V_iconst C0 dX3_pass_23 ic_1 ?_
    refine V_goto C0 28 dX3_pass_24 (by decide) ?_
    refine V_iadd C0 dX3_pass_28 ?_
    refine p3_26 C0 dX3_pass_29 (fun M2 => ?_)
    refine V_iload_n C0 2 rfl 0 rfl dX3_pass_32 ?_
    exact V_zret C0 dX3_pass_33
set_option maxRecDepth 100000 in
set_option maxHeartbeats 4000000 in
theorem mc_f_Reader_pass {G : GT} (l : Launch) (x1 : Int32) (M : Mem) (r : Int32) (M1 : Mem) (ho : f_Reader_pass x1 M = some (r, M1)) : MC l G yX3_pass cX3_pass 3 (some .boolean) 1 [.ref (G.2 + 1), .int x1] M (vI r) M1 :=
  MC.ofV (own := RX3) (lv := [(0, .ref (G.2 + 1)), (1, .int x1)]) (by decide +kernel) rfl rfl (Nat.le_of_ble_eq_true rfl) ho (fun X hX C0 => by
    unfold f_Reader_pass
    refine V_aload_n C0 0 rfl 0 rfl dX3_pass_0 ?_
    refine k3_29 C0 (by decide) (fun lq rq Mq hh => mc_f_Reader_sign lq  M rq Mq  hh) (Nat.le_of_ble_eq_true rfl) dX3_pass_1 (fun r1 M1 => ?_)
    refine V_iload_n C0 1 rfl 1 rfl dX3_pass_4 ?_
    refine V_icmpne C0 12 dX3_pass_5 (by decide) (fun _ => ?_) (fun _ => ?_)
    · refine V_iconst C0 dX3_pass_12 ic_0 ?_
      exact V_sub [0] rfl (f_Reader_pass_b13_ok C0 0 M1)
    · refine V_iconst C0 dX3_pass_8 ic_1 ?_
      refine V_goto C0 13 dX3_pass_9 (by decide) ?_
      exact V_sub [0] rfl (f_Reader_pass_b13_ok C0 1 M1))
set_option maxRecDepth 100000 in
set_option maxHeartbeats 4000000 in
theorem mc_f_Reader_readOperation {G : GT} (l : Launch) (a1 : Nat) (x2 : Int32) (x3 : Int32) (M : Mem) (r : Int32) (M1 : Mem) (h_a1 : (sh a1).1 = 1) (ho : f_Reader_readOperation a1 x2 x3 M = some (r, M1)) : MC l G yX3_readOperation cX3_readOperation 5 (some .boolean) 2 [.ref (G.2 + 1), .ref (G.2 + a1), .int x2, .int x3] M (vI r) M1 :=
  MC.ofV (own := RX3) (lv := [(0, .ref (G.2 + 1)), (1, .ref (G.2 + a1)), (2, .int x2), (3, .int x3)]) (by decide +kernel) rfl rfl (Nat.le_of_ble_eq_true rfl) ho (fun X hX C0 => by
    unfold f_Reader_readOperation
    refine V_aload_n C0 1 rfl 1 rfl dX3_readOperation_0 ?_
    refine V_iload_n C0 2 rfl 2 rfl dX3_readOperation_1 ?_
    refine V_iload_n C0 3 rfl 3 rfl dX3_readOperation_2 ?_
    refine V_iconst C0 dX3_readOperation_3 ic_0 ?_
    refine k3_62 C0 h_a1 (by decide) (fun lq rq Mq hh => mc_f_Form_insert lq a1 x2 x3 0 M rq Mq h_a1 hh) (Nat.le_of_ble_eq_true rfl) dX3_readOperation_4 (fun r1 M1 => ?_)
    refine V_istore C0 4 [(4, .int r1), (0, .ref (G.2 + 1)), (1, .ref (G.2 + a1)), (2, .int x2), (3, .int x3)] (by decide) rfl dX3_readOperation_7 ?_
    refine V_aload_n C0 0 rfl 1 rfl dX3_readOperation_9 ?_
    refine V_dup C0 rfl dX3_readOperation_10 ?_
    refine g3_26 C0 dX3_readOperation_11 ?_
    refine V_iload C0 4 0 rfl dX3_readOperation_14 ?_
    refine V_ifeq C0 23 dX3_readOperation_16 (by decide) (fun _ => ?_) (fun _ => ?_)
    · refine V_iconst C0 dX3_readOperation_23 ic_0 ?_
      refine V_iadd C0 dX3_readOperation_24 ?_
      refine p3_26 C0 dX3_readOperation_25 (fun M2 => ?_)
      refine V_iload C0 4 0 rfl dX3_readOperation_28 ?_
      exact V_zret C0 dX3_readOperation_30
    · refine V_iconst C0 dX3_readOperation_19 ic_1 ?_
      refine V_goto C0 24 dX3_readOperation_20 (by decide) ?_
      refine V_iadd C0 dX3_readOperation_24 ?_
      refine p3_26 C0 dX3_readOperation_25 (fun M3 => ?_)
      refine V_iload C0 4 0 rfl dX3_readOperation_28 ?_
      exact V_zret C0 dX3_readOperation_30)
set_option maxRecDepth 100000 in
set_option maxHeartbeats 4000000 in
theorem f_Reader_readNumber_b27_ok {X : XT} {G : GT} (C0 : Cx X G cX3_readNumber 3 RX3 (some .int)) (k4 : Int32 → Int32 → Mem → Option (Int32 × Mem)) (hk4 : ∀ (x1 : Int32) (x2 : Int32) (M : Mem), V X G 1 vI 3 4 [(0, .ref (G.2 + 1)), (1, .int x1), (2, .int x2)] [] M (k4 x1 x2 M)) (x1 : Int32) (x2 : Int32) (M : Mem) : V X G 1 vI 3 27 [(0, .ref (G.2 + 1)), (1, .int x1), (2, .int x2)] [] M (f_Reader_readNumber_b27 k4 x1 x2 M) := by
  unfold f_Reader_readNumber_b27
  refine V_bipush C0 dX3_readNumber_27 bp_10 ?_
  refine V_iload_n C0 1 rfl 1 rfl dX3_readNumber_29 ?_
  refine V_imul C0 dX3_readNumber_30 ?_
  refine V_aload_n C0 0 rfl 0 rfl dX3_readNumber_31 ?_
  refine k3_29 C0 (by decide) (fun lq rq Mq hh => mc_f_Reader_sign lq  M rq Mq  hh) (Nat.le_of_ble_eq_true rfl) dX3_readNumber_32 (fun r1 M1 => ?_)
  refine V_iadd C0 dX3_readNumber_35 ?_
  refine V_bipush C0 dX3_readNumber_36 bp_48 ?_
  refine V_isub C0 dX3_readNumber_38 ?_
  refine V_bi (fun y2 => ?_)
  refine V_istore_n C0 1 [(1, .int y2), (0, .ref (G.2 + 1)), (2, .int x2)] rfl (by decide) rfl dX3_readNumber_39 ?_
  refine V_iincB C0 2 2 (fun y3 => [(2, .int y3), (1, .int y2), (0, .ref (G.2 + 1))]) rfl ic_1 (by decide) (fun _ => rfl) dX3_readNumber_40 (fun y3 => ?_)
  refine V_aload_n C0 0 rfl 2 rfl dX3_readNumber_43 ?_
  refine V_dup C0 rfl dX3_readNumber_44 ?_
  refine g3_26 C0 dX3_readNumber_45 ?_
  refine V_iconst C0 dX3_readNumber_48 ic_1 ?_
  refine V_iadd C0 dX3_readNumber_49 ?_
  refine p3_26 C0 dX3_readNumber_50 (fun M4 => ?_)
  refine V_goto C0 4 dX3_readNumber_53 (by decide) ?_
  exact V_sub [2, 1, 0] rfl (hk4 y2 y3 M4)
set_option maxRecDepth 100000 in
set_option maxHeartbeats 4000000 in
theorem f_Reader_readNumber_b4_ok {X : XT} {G : GT} (C0 : Cx X G cX3_readNumber 3 RX3 (some .int)) : ∀ (n : Nat) (x1 : Int32) (x2 : Int32) (M : Mem), V X G 1 vI 3 4 [(0, .ref (G.2 + 1)), (1, .int x1), (2, .int x2)] [] M (f_Reader_readNumber_b4 n x1 x2 M) := by
  intro n
  induction n with
  | zero =>
    intros
    exact V_none
  | succ n ih =>
    intro x1 x2 M
    rw [f_Reader_readNumber_b4]
    refine V_iload_n C0 2 rfl 2 rfl dX3_readNumber_4 ?_
    refine V_iconst C0 dX3_readNumber_5 ic_3 ?_
    refine V_icmpge C0 56 dX3_readNumber_6 (by decide) (fun _ => ?_) (fun _ => ?_)
    · refine V_iload_n C0 1 rfl 1 rfl dX3_readNumber_56 ?_
      exact V_iret C0 dX3_readNumber_57
    · refine V_aload_n C0 0 rfl 0 rfl dX3_readNumber_9 ?_
      refine k3_29 C0 (by decide) (fun lq rq Mq hh => mc_f_Reader_sign lq  M rq Mq  hh) (Nat.le_of_ble_eq_true rfl) dX3_readNumber_10 (fun r1 M1 => ?_)
      refine k3_81 C0 (by decide) (fun lq rq Mq hh => mc_f_Reader_isDigit lq r1 M1 rq Mq  hh) (Nat.le_of_ble_eq_true rfl) dX3_readNumber_13 (fun r2 M2 => ?_)
      refine V_ifeq C0 56 dX3_readNumber_16 (by decide) (fun _ => ?_) (fun _ => ?_)
      · refine V_iload_n C0 1 rfl 1 rfl dX3_readNumber_56 ?_
        exact V_iret C0 dX3_readNumber_57
      · refine V_iload_n C0 2 rfl 2 rfl dX3_readNumber_19 ?_
        refine V_ifeq C0 27 dX3_readNumber_20 (by decide) (fun _ => ?_) (fun _ => ?_)
        · exact V_sub [0, 1, 2] rfl (f_Reader_readNumber_b27_ok C0 (f_Reader_readNumber_b4 n) ih x1 x2 M2)
        · refine V_iload_n C0 1 rfl 1 rfl dX3_readNumber_23 ?_
          refine V_ifle C0 56 dX3_readNumber_24 (by decide) (fun _ => ?_) (fun _ => ?_)
          · refine V_iload_n C0 1 rfl 1 rfl dX3_readNumber_56 ?_
            exact V_iret C0 dX3_readNumber_57
          · exact V_sub [0, 1, 2] rfl (f_Reader_readNumber_b27_ok C0 (f_Reader_readNumber_b4 n) ih x1 x2 M2)
set_option maxRecDepth 100000 in
set_option maxHeartbeats 4000000 in
theorem mc_f_Reader_readNumber {G : GT} (l : Launch) (M : Mem) (r : Int32) (M1 : Mem) (ho : f_Reader_readNumber  M = some (r, M1)) : MC l G yX3_readNumber cX3_readNumber 3 (some .int) 1 [.ref (G.2 + 1)] M (vI r) M1 :=
  MC.ofV (own := RX3) (lv := [(0, .ref (G.2 + 1))]) (by decide +kernel) rfl rfl (Nat.le_of_ble_eq_true rfl) ho (fun X hX C0 => by
    unfold f_Reader_readNumber
    refine V_iconst C0 dX3_readNumber_0 ic_0 ?_
    refine V_istore_n C0 1 [(1, .int 0), (0, .ref (G.2 + 1))] rfl (by decide) rfl dX3_readNumber_1 ?_
    refine V_iconst C0 dX3_readNumber_2 ic_0 ?_
    refine V_istore_n C0 2 [(2, .int 0), (1, .int 0), (0, .ref (G.2 + 1))] rfl (by decide) rfl dX3_readNumber_3 ?_
    exact V_sub [2, 1, 0] rfl (f_Reader_readNumber_b4_ok C0 FU 0 0 M))
