set_option maxRecDepth 100000 in
set_option maxHeartbeats 4000000 in
theorem mc_f_Md_formula {G : GT} (l : Launch) (x1 : Int32) (x2 : Int32) (M : Mem) (r : Int32) (M1 : Mem) (ho : f_Md_formula x1 x2 M = some (r, M1)) : MC l G yX7_formula cX7_formula 3 (some .int) 4 [.ref (G.2 + 208), .int x1, .int x2] M (vI r) M1 :=
  MC.ofV (own := RX7) (lv := [(0, .ref (G.2 + 208)), (1, .int x1), (2, .int x2)]) (by decide +kernel) rfl rfl (Nat.le_of_ble_eq_true rfl) ho (fun X hX C0 => by
    unfold f_Md_formula
    refine V_aload_n C0 0 rfl 0 rfl dX7_formula_0 ?_
    refine V_iload_n C0 1 rfl 1 rfl dX7_formula_1 ?_
    refine k7_156 C0 (by decide) (fun lq rq Mq hh => mc_f_Md_isFormula lq x1 M rq Mq  hh) (Nat.le_of_ble_eq_true rfl) dX7_formula_2 (fun r1 M1 => ?_)
    refine V_ifeq C0 18 dX7_formula_5 (by decide) (fun _ => ?_) (fun _ => ?_)
    · refine V_ldc C0 wk7_79 dX7_formula_18 ?_
      exact V_iret C0 dX7_formula_20
    · refine V_iload_n C0 2 rfl 2 rfl dX7_formula_8 ?_
      refine V_iconst C0 dX7_formula_9 ic_0 ?_
      refine V_bipush C0 dX7_formula_10 bp_6 ?_
      refine k7_75 C0 (by decide) (fun lq rq Mq hh => mc_f_Md_in lq x2 0 6 M1 rq Mq  hh) (Nat.le_of_ble_eq_true rfl) dX7_formula_12 (fun r2 M2 => ?_)
      refine V_ifne C0 21 dX7_formula_15 (by decide) (fun _ => ?_) (fun _ => ?_)
      · refine V_aload_n C0 0 rfl 0 rfl dX7_formula_21 ?_
        refine k7_164 C0 (by decide) (fun lq rq Mq hh => mc_f_Md_lays lq  M2 rq Mq  hh) (Nat.le_of_ble_eq_true rfl) dX7_formula_22 (fun _ M3 => ?_)
        refine V_iload_n C0 2 rfl 2 rfl dX7_formula_25 ?_
        refine V_ts C0 0 64 dX7_formula_26 (by decide) (by decide) rfl (by decide) (fun _ => ?_) (fun hs0 => ?_)
        · refine V_aload_n C0 0 rfl 0 rfl dX7_formula_64 ?_
          refine g7_7 C0 dX7_formula_65 ?_
          refine V_bipush C0 dX7_formula_68 bp_10 ?_
          refine V_iload_n C0 1 rfl 1 rfl dX7_formula_70 ?_
          refine V_iadd C0 dX7_formula_71 ?_
          refine V_iald C0 376 s209 n209 dX7_formula_72 ?_
          exact V_iret C0 dX7_formula_73
        refine V_ts C0 1 74 dX7_formula_26 (by decide) (by decide) rfl (by decide) (fun _ => ?_) (fun hs1 => ?_)
        · refine V_aload_n C0 0 rfl 0 rfl dX7_formula_74 ?_
          refine g7_49 C0 dX7_formula_75 ?_
          refine V_iload_n C0 1 rfl 1 rfl dX7_formula_78 ?_
          refine V_iald C0 6 s222 n222 dX7_formula_79 ?_
          exact V_iret C0 dX7_formula_80
        refine V_ts C0 2 81 dX7_formula_26 (by decide) (by decide) rfl (by decide) (fun _ => ?_) (fun hs2 => ?_)
        · refine V_aload_n C0 0 rfl 0 rfl dX7_formula_81 ?_
          refine g7_40 C0 dX7_formula_82 ?_
          refine V_bipush C0 dX7_formula_85 bp_90 ?_
          refine V_iload_n C0 1 rfl 1 rfl dX7_formula_87 ?_
          refine V_imul C0 dX7_formula_88 ?_
          refine V_iald C0 540 s219 n219 dX7_formula_89 ?_
          exact V_iret C0 dX7_formula_90
        refine V_ts C0 3 91 dX7_formula_26 (by decide) (by decide) rfl (by decide) (fun _ => ?_) (fun hs3 => ?_)
        · refine V_aload_n C0 0 rfl 0 rfl dX7_formula_91 ?_
          refine g7_52 C0 dX7_formula_92 ?_
          refine V_iload_n C0 1 rfl 1 rfl dX7_formula_95 ?_
          refine V_zald C0 6 s223 n223 dX7_formula_96 ?_
          refine V_ifeq C0 104 dX7_formula_97 (by decide) (fun _ => ?_) (fun _ => ?_)
          · refine V_iconst C0 dX7_formula_104 ic_0 ?_
            exact V_iret C0 dX7_formula_105
          · refine V_iconst C0 dX7_formula_100 ic_1 ?_
            refine V_goto C0 105 dX7_formula_101 (by decide) ?_
            exact V_iret C0 dX7_formula_105
        refine V_ts C0 4 106 dX7_formula_26 (by decide) (by decide) rfl (by decide) (fun _ => ?_) (fun hs4 => ?_)
        · refine V_aload_n C0 0 rfl 0 rfl dX7_formula_106 ?_
          refine g7_46 C0 dX7_formula_107 ?_
          refine V_bipush C0 dX7_formula_110 bp_90 ?_
          refine V_iload_n C0 1 rfl 1 rfl dX7_formula_112 ?_
          refine V_imul C0 dX7_formula_113 ?_
          refine V_iald C0 540 s221 n221 dX7_formula_114 ?_
          exact V_iret C0 dX7_formula_115
        refine V_ts C0 5 116 dX7_formula_26 (by decide) (by decide) rfl (by decide) (fun _ => ?_) (fun hs5 => ?_)
        · refine V_aload_n C0 0 rfl 0 rfl dX7_formula_116 ?_
          refine g7_43 C0 dX7_formula_117 ?_
          refine V_bipush C0 dX7_formula_120 bp_90 ?_
          refine V_iload_n C0 1 rfl 1 rfl dX7_formula_122 ?_
          refine V_imul C0 dX7_formula_123 ?_
          refine V_iald C0 540 s220 n220 dX7_formula_124 ?_
          exact V_iret C0 dX7_formula_125
        refine V_tsO C0 126 dX7_formula_26 (by have hz0 := lv_neT hs0 (a := 0) rfl; have hz1 := lv_neT hs1 (a := 1) rfl; have hz2 := lv_neT hs2 (a := 2) rfl; have hz3 := lv_neT hs3 (a := 3) rfl; have hz4 := lv_neT hs4 (a := 4) rfl; have hz5 := lv_neT hs5 (a := 5) rfl; omega) (by decide) ?_
        refine V_aload_n C0 0 rfl 0 rfl dX7_formula_126 ?_
        refine V_iload_n C0 1 rfl 1 rfl dX7_formula_127 ?_
        refine k7_197 C0 (by decide) (fun lq rq Mq hh => mc_f_Md_uses lq x1 M3 rq Mq  hh) (Nat.le_of_ble_eq_true rfl) dX7_formula_128 (fun r4 M4 => ?_)
        exact V_iret C0 dX7_formula_131
      · refine V_ldc C0 wk7_79 dX7_formula_18 ?_
        exact V_iret C0 dX7_formula_20)
set_option maxRecDepth 100000 in
set_option maxHeartbeats 4000000 in
theorem mc_f_Md_kindOf {G : GT} (l : Launch) (x0 : Int32) (M : Mem) (r : Int32) (M1 : Mem) (ho : f_Md_kindOf x0 M = some (r, M1)) : MC l G yX7_kindOf cX7_kindOf 1 (some .int) 0 [.int x0] M (vI r) M1 :=
  MC.ofV (own := RX7) (lv := [(0, .int x0)]) (by decide +kernel) rfl rfl (Nat.le_of_ble_eq_true rfl) ho (fun X hX C0 => by
    unfold f_Md_kindOf
    refine V_iload_n C0 0 rfl 0 rfl dX7_kindOf_0 ?_
    refine V_bipush C0 dX7_kindOf_1 bp_33 ?_
    refine V_icmpne C0 10 dX7_kindOf_3 (by decide) (fun _ => ?_) (fun _ => ?_)
    · refine V_iload_n C0 0 rfl 0 rfl dX7_kindOf_10 ?_
      refine V_bipush C0 dX7_kindOf_11 bp_43 ?_
      refine V_icmpne C0 20 dX7_kindOf_13 (by decide) (fun _ => ?_) (fun _ => ?_)
      · refine V_iload_n C0 0 rfl 0 rfl dX7_kindOf_20 ?_
        refine V_bipush C0 dX7_kindOf_21 bp_45 ?_
        refine V_icmpne C0 30 dX7_kindOf_23 (by decide) (fun _ => ?_) (fun _ => ?_)
        · refine V_bipush C0 dX7_kindOf_30 bp_6 ?_
          exact V_iret C0 dX7_kindOf_32
        · refine V_iconst C0 dX7_kindOf_26 ic_5 ?_
          refine V_goto C0 32 dX7_kindOf_27 (by decide) ?_
          exact V_iret C0 dX7_kindOf_32
      · refine V_iconst C0 dX7_kindOf_16 ic_4 ?_
        refine V_goto C0 32 dX7_kindOf_17 (by decide) ?_
        exact V_iret C0 dX7_kindOf_32
    · refine V_iconst C0 dX7_kindOf_6 ic_3 ?_
      refine V_goto C0 32 dX7_kindOf_7 (by decide) ?_
      exact V_iret C0 dX7_kindOf_32)
set_option maxRecDepth 100000 in
set_option maxHeartbeats 4000000 in
theorem f_Md_makes_b16_ok {X : XT} {G : GT} (C0 : Cx X G cX7_makes 2 RX7 none) (x1 : Int32) (M : Mem) : V X G 1 vU 2 16 [(0, .ref (G.2 + 208)), (1, .int x1)] [] M (f_Md_makes_b16 x1 M) := by
  unfold f_Md_makes_b16
  refine V_aload_n C0 0 rfl 0 rfl dX7_makes_16 ?_
  refine V_aload_n C0 0 rfl 0 rfl dX7_makes_17 ?_
  refine g7_22 C0 dX7_makes_18 ?_
  refine V_aload_n C0 0 rfl 0 rfl dX7_makes_21 ?_
  refine g7_94 C0 dX7_makes_22 ?_
  refine V_iconst C0 dX7_makes_25 ic_1 ?_
  refine V_isub C0 dX7_makes_26 ?_
  refine V_iald C0 31 s213 n213 dX7_makes_27 ?_
  refine V_iload_n C0 1 rfl 1 rfl dX7_makes_28 ?_
  refine k7_104 C0 (by decide) (fun lq rq Mq hh => mc_f_Md_kindOf lq x1 M rq Mq  hh) (Nat.le_of_ble_eq_true rfl) dX7_makes_29 (fun r1 M1 => ?_)
  refine V_ldc C0 wk7_87 dX7_makes_32 ?_
  refine k7_97 C0 (by decide) (fun lq rq Mq hh => mc_f_Md_puts lq (M.1 213 (ix ((M.1 208 12) - 1))) r1 (-1000009) M1 rq Mq  hh) (Nat.le_of_ble_eq_true rfl) dX7_makes_34 (fun _ M2 => ?_)
  exact V_vret C0 dX7_makes_37
set_option maxRecDepth 100000 in
set_option maxHeartbeats 4000000 in
theorem mc_f_Md_makes {G : GT} (l : Launch) (x1 : Int32) (M : Mem) (r : Unit) (M1 : Mem) (ho : f_Md_makes x1 M = some (r, M1)) : MC l G yX7_makes cX7_makes 2 none 1 [.ref (G.2 + 208), .int x1] M (vU r) M1 :=
  MC.ofV (own := RX7) (lv := [(0, .ref (G.2 + 208)), (1, .int x1)]) (by decide +kernel) rfl rfl (Nat.le_of_ble_eq_true rfl) ho (fun X hX C0 => by
    unfold f_Md_makes
    refine V_iload_n C0 1 rfl 1 rfl dX7_makes_0 ?_
    refine V_bipush C0 dX7_makes_1 bp_33 ?_
    refine V_icmpeq C0 16 dX7_makes_3 (by decide) (fun _ => ?_) (fun _ => ?_)
    · exact V_sub [0, 1] rfl (f_Md_makes_b16_ok C0 x1 M)
    · refine V_aload_n C0 0 rfl 0 rfl dX7_makes_6 ?_
      refine V_dup C0 rfl dX7_makes_7 ?_
      refine g7_94 C0 dX7_makes_8 ?_
      refine V_iconst C0 dX7_makes_11 ic_1 ?_
      refine V_isub C0 dX7_makes_12 ?_
      refine p7_94 C0 dX7_makes_13 (fun M1 => ?_)
      exact V_sub [0, 1] rfl (f_Md_makes_b16_ok C0 x1 M1))
set_option maxRecDepth 100000 in
set_option maxHeartbeats 4000000 in
theorem f_Md_settles_b69_ok {X : XT} {G : GT} (C0 : Cx X G cX7_settles 5 RX7 none) (k2 : Int32 → Int32 → Mem → Option (Unit × Mem)) (hk2 : ∀ (x1 : Int32) (x2 : Int32) (M : Mem), V X G 2 vU 5 2 [(0, .ref (G.2 + 208)), (1, .int x1), (2, .int x2)] [] M (k2 x1 x2 M)) (x1 : Int32) (x3 : Int32) (t0 : Int32) (M : Mem) : V X G 2 vU 5 69 [(0, .ref (G.2 + 208)), (1, .int x1), (3, .int x3)] [.int t0] M (f_Md_settles_b69 k2 x1 x3 t0 M) := by
  unfold f_Md_settles_b69
  refine V_istore_n C0 2 [(2, .int t0), (0, .ref (G.2 + 208)), (1, .int x1), (3, .int x3)] rfl (by decide) rfl dX7_settles_69 ?_
  refine V_iload_n C0 2 rfl 0 rfl dX7_settles_70 ?_
  refine V_ifeq C0 109 dX7_settles_71 (by decide) (fun _ => ?_) (fun _ => ?_)
  · refine V_goto C0 2 dX7_settles_109 (by decide) ?_
    exact V_sub [1, 2, 0] rfl (hk2 x1 t0 M)
  · refine V_aload_n C0 0 rfl 1 rfl dX7_settles_74 ?_
    refine V_iload_n C0 3 rfl 3 rfl dX7_settles_75 ?_
    refine k7_111 C0 (by decide) (fun lq rq Mq hh => mc_f_Md_makes lq x3 M rq Mq  hh) (Nat.le_of_ble_eq_true rfl) dX7_settles_76 (fun _ M1 => ?_)
    refine V_aload_n C0 0 rfl 1 rfl dX7_settles_79 ?_
    refine V_dup C0 rfl dX7_settles_80 ?_
    refine g7_108 C0 dX7_settles_81 ?_
    refine V_iconst C0 dX7_settles_84 ic_1 ?_
    refine V_isub C0 dX7_settles_85 ?_
    refine p7_108 C0 dX7_settles_86 (fun M2 => ?_)
    refine V_aload_n C0 0 rfl 1 rfl dX7_settles_89 ?_
    refine V_dup C0 rfl dX7_settles_90 ?_
    refine g7_115 C0 dX7_settles_91 ?_
    refine V_iload_n C0 3 rfl 3 rfl dX7_settles_94 ?_
    refine V_bipush C0 dX7_settles_95 bp_33 ?_
    refine V_icmpne C0 104 dX7_settles_97 (by decide) (fun _ => ?_) (fun _ => ?_)
    · refine V_iconst C0 dX7_settles_104 ic_0 ?_
      refine V_isub C0 dX7_settles_105 ?_
      refine p7_115 C0 dX7_settles_106 (fun M3 => ?_)
      refine V_goto C0 2 dX7_settles_109 (by decide) ?_
      exact V_sub [1, 2, 0] rfl (hk2 x1 t0 M3)
    · refine V_iconst C0 dX7_settles_100 ic_1 ?_
      refine V_goto C0 105 dX7_settles_101 (by decide) ?_
      refine V_isub C0 dX7_settles_105 ?_
      refine p7_115 C0 dX7_settles_106 (fun M4 => ?_)
      refine V_goto C0 2 dX7_settles_109 (by decide) ?_
      exact V_sub [1, 2, 0] rfl (hk2 x1 t0 M4)
set_option maxRecDepth 100000 in
set_option maxHeartbeats 4000000 in
theorem f_Md_settles_b56_ok {X : XT} {G : GT} (C0 : Cx X G cX7_settles 5 RX7 none) (k2 : Int32 → Int32 → Mem → Option (Unit × Mem)) (hk2 : ∀ (x1 : Int32) (x2 : Int32) (M : Mem), V X G 2 vU 5 2 [(0, .ref (G.2 + 208)), (1, .int x1), (2, .int x2)] [] M (k2 x1 x2 M)) (x1 : Int32) (x3 : Int32) (t0 : Int32) (M : Mem) : V X G 2 vU 5 56 [(0, .ref (G.2 + 208)), (1, .int x1), (3, .int x3)] [.int t0] M (f_Md_settles_b56 k2 x1 x3 t0 M) := by
  unfold f_Md_settles_b56
  refine V_istore C0 4 [(4, .int t0), (0, .ref (G.2 + 208)), (1, .int x1), (3, .int x3)] (by decide) rfl dX7_settles_56 ?_
  refine V_iload C0 4 0 rfl dX7_settles_58 ?_
  refine V_iload_n C0 1 rfl 2 rfl dX7_settles_60 ?_
  refine V_icmplt C0 68 dX7_settles_61 (by decide) (fun _ => ?_) (fun _ => ?_)
  · refine V_iconst C0 dX7_settles_68 ic_0 ?_
    exact V_sub [1, 2, 3] rfl (f_Md_settles_b69_ok C0 k2 hk2 x1 x3 0 M)
  · refine V_iconst C0 dX7_settles_64 ic_1 ?_
    refine V_goto C0 69 dX7_settles_65 (by decide) ?_
    exact V_sub [1, 2, 3] rfl (f_Md_settles_b69_ok C0 k2 hk2 x1 x3 1 M)
set_option maxRecDepth 100000 in
set_option maxHeartbeats 4000000 in
theorem f_Md_settles_b2_ok {X : XT} {G : GT} (C0 : Cx X G cX7_settles 5 RX7 none) : ∀ (n : Nat) (x1 : Int32) (x2 : Int32) (M : Mem), V X G 2 vU 5 2 [(0, .ref (G.2 + 208)), (1, .int x1), (2, .int x2)] [] M (f_Md_settles_b2 n x1 x2 M) := by
  intro n
  induction n with
  | zero =>
    intros
    exact V_none
  | succ n ih =>
    intro x1 x2 M
    rw [f_Md_settles_b2]
    refine V_iload_n C0 2 rfl 2 rfl dX7_settles_2 ?_
    refine V_ifeq C0 112 dX7_settles_3 (by decide) (fun _ => ?_) (fun _ => ?_)
    · exact V_vret C0 dX7_settles_112
    · refine V_aload_n C0 0 rfl 0 rfl dX7_settles_6 ?_
      refine g7_108 C0 dX7_settles_7 ?_
      refine V_ifle C0 112 dX7_settles_10 (by decide) (fun _ => ?_) (fun _ => ?_)
      · exact V_vret C0 dX7_settles_112
      · refine V_aload_n C0 0 rfl 0 rfl dX7_settles_13 ?_
        refine g7_25 C0 dX7_settles_14 ?_
        refine V_aload_n C0 0 rfl 0 rfl dX7_settles_17 ?_
        refine g7_108 C0 dX7_settles_18 ?_
        refine V_iconst C0 dX7_settles_21 ic_1 ?_
        refine V_isub C0 dX7_settles_22 ?_
        refine V_iald C0 64 s214 n214 dX7_settles_23 ?_
        refine V_bi (fun y1 => ?_)
        refine V_istore_n C0 3 [(3, .int y1), (0, .ref (G.2 + 208)), (1, .int x1), (2, .int x2)] rfl (by decide) rfl dX7_settles_24 ?_
        refine V_iload_n C0 3 rfl 0 rfl dX7_settles_25 ?_
        refine V_bipush C0 dX7_settles_26 bp_40 ?_
        refine V_icmpne C0 35 dX7_settles_28 (by decide) (fun _ => ?_) (fun _ => ?_)
        · refine V_iload_n C0 3 rfl 0 rfl dX7_settles_35 ?_
          refine V_bipush C0 dX7_settles_36 bp_33 ?_
          refine V_icmpne C0 45 dX7_settles_38 (by decide) (fun _ => ?_) (fun _ => ?_)
          · refine V_iload_n C0 3 rfl 0 rfl dX7_settles_45 ?_
            refine V_bipush C0 dX7_settles_46 bp_42 ?_
            refine V_icmpne C0 55 dX7_settles_48 (by decide) (fun _ => ?_) (fun _ => ?_)
            · refine V_iconst C0 dX7_settles_55 ic_1 ?_
              exact V_sub [1, 2, 0] rfl (f_Md_settles_b56_ok C0 (f_Md_settles_b2 n) ih x1 y1 1 M)
            · refine V_iconst C0 dX7_settles_51 ic_2 ?_
              refine V_goto C0 56 dX7_settles_52 (by decide) ?_
              exact V_sub [1, 2, 0] rfl (f_Md_settles_b56_ok C0 (f_Md_settles_b2 n) ih x1 y1 2 M)
          · refine V_iconst C0 dX7_settles_41 ic_3 ?_
            refine V_goto C0 56 dX7_settles_42 (by decide) ?_
            exact V_sub [1, 2, 0] rfl (f_Md_settles_b56_ok C0 (f_Md_settles_b2 n) ih x1 y1 3 M)
        · refine V_iconst C0 dX7_settles_31 ic_0 ?_
          refine V_goto C0 56 dX7_settles_32 (by decide) ?_
          exact V_sub [1, 2, 0] rfl (f_Md_settles_b56_ok C0 (f_Md_settles_b2 n) ih x1 y1 0 M)
set_option maxRecDepth 100000 in
set_option maxHeartbeats 4000000 in
theorem mc_f_Md_settles {G : GT} (l : Launch) (x1 : Int32) (M : Mem) (r : Unit) (M1 : Mem) (ho : f_Md_settles x1 M = some (r, M1)) : MC l G yX7_settles cX7_settles 5 none 2 [.ref (G.2 + 208), .int x1] M (vU r) M1 :=
  MC.ofV (own := RX7) (lv := [(0, .ref (G.2 + 208)), (1, .int x1)]) (by decide +kernel) rfl rfl (Nat.le_of_ble_eq_true rfl) ho (fun X hX C0 => by
    unfold f_Md_settles
    refine V_iconst C0 dX7_settles_0 ic_1 ?_
    refine V_istore_n C0 2 [(2, .int 1), (0, .ref (G.2 + 208)), (1, .int x1)] rfl (by decide) rfl dX7_settles_1 ?_
    exact V_sub [1, 2, 0] rfl (f_Md_settles_b2_ok C0 FU x1 1 M))
set_option maxRecDepth 100000 in
set_option maxHeartbeats 4000000 in
theorem f_Md_isOpen_b4_ok {X : XT} {G : GT} (C0 : Cx X G cX7_isOpen 3 RX7 (some .boolean)) : ∀ (n : Nat) (x1 : Int32) (x2 : Int32) (M : Mem), V X G 0 vI 3 4 [(0, .ref (G.2 + 208)), (1, .int x1), (2, .int x2)] [] M (f_Md_isOpen_b4 n x1 x2 M) := by
  intro n
  induction n with
  | zero =>
    intros
    exact V_none
  | succ n ih =>
    intro x1 x2 M
    rw [f_Md_isOpen_b4]
    refine V_iload_n C0 2 rfl 2 rfl dX7_isOpen_4 ?_
    refine V_aload_n C0 0 rfl 0 rfl dX7_isOpen_5 ?_
    refine g7_108 C0 dX7_isOpen_6 ?_
    refine V_icmpge C0 39 dX7_isOpen_9 (by decide) (fun _ => ?_) (fun _ => ?_)
    · refine V_iload_n C0 1 rfl 1 rfl dX7_isOpen_39 ?_
      exact V_zret C0 dX7_isOpen_40
    · refine V_iload_n C0 1 rfl 1 rfl dX7_isOpen_12 ?_
      refine V_ifne C0 27 dX7_isOpen_13 (by decide) (fun _ => ?_) (fun _ => ?_)
      · refine V_iconst C0 dX7_isOpen_27 ic_1 ?_
        refine V_goto C0 32 dX7_isOpen_28 (by decide) ?_
        refine V_istore_n C0 1 [(1, .int 1), (0, .ref (G.2 + 208)), (2, .int x2)] rfl (by decide) rfl dX7_isOpen_32 ?_
        refine V_iincB C0 2 2 (fun y1 => [(2, .int y1), (1, .int 1), (0, .ref (G.2 + 208))]) rfl ic_1 (by decide) (fun _ => rfl) dX7_isOpen_33 (fun y1 => ?_)
        refine V_goto C0 4 dX7_isOpen_36 (by decide) ?_
        exact V_sub [2, 1, 0] rfl (ih 1 y1 M)
      · refine V_aload_n C0 0 rfl 0 rfl dX7_isOpen_16 ?_
        refine g7_25 C0 dX7_isOpen_17 ?_
        refine V_iload_n C0 2 rfl 2 rfl dX7_isOpen_20 ?_
        refine V_iald C0 64 s214 n214 dX7_isOpen_21 ?_
        refine V_bipush C0 dX7_isOpen_22 bp_40 ?_
        refine V_icmpne C0 31 dX7_isOpen_24 (by decide) (fun _ => ?_) (fun _ => ?_)
        · refine V_iconst C0 dX7_isOpen_31 ic_0 ?_
          refine V_istore_n C0 1 [(1, .int 0), (0, .ref (G.2 + 208)), (2, .int x2)] rfl (by decide) rfl dX7_isOpen_32 ?_
          refine V_iincB C0 2 2 (fun y2 => [(2, .int y2), (1, .int 0), (0, .ref (G.2 + 208))]) rfl ic_1 (by decide) (fun _ => rfl) dX7_isOpen_33 (fun y2 => ?_)
          refine V_goto C0 4 dX7_isOpen_36 (by decide) ?_
          exact V_sub [2, 1, 0] rfl (ih 0 y2 M)
        · refine V_iconst C0 dX7_isOpen_27 ic_1 ?_
          refine V_goto C0 32 dX7_isOpen_28 (by decide) ?_
          refine V_istore_n C0 1 [(1, .int 1), (0, .ref (G.2 + 208)), (2, .int x2)] rfl (by decide) rfl dX7_isOpen_32 ?_
          refine V_iincB C0 2 2 (fun y3 => [(2, .int y3), (1, .int 1), (0, .ref (G.2 + 208))]) rfl ic_1 (by decide) (fun _ => rfl) dX7_isOpen_33 (fun y3 => ?_)
          refine V_goto C0 4 dX7_isOpen_36 (by decide) ?_
          exact V_sub [2, 1, 0] rfl (ih 1 y3 M)
set_option maxRecDepth 100000 in
set_option maxHeartbeats 4000000 in
theorem mc_f_Md_isOpen {G : GT} (l : Launch) (M : Mem) (r : Int32) (M1 : Mem) (ho : f_Md_isOpen  M = some (r, M1)) : MC l G yX7_isOpen cX7_isOpen 3 (some .boolean) 0 [.ref (G.2 + 208)] M (vI r) M1 :=
  MC.ofV (own := RX7) (lv := [(0, .ref (G.2 + 208))]) (by decide +kernel) rfl rfl (Nat.le_of_ble_eq_true rfl) ho (fun X hX C0 => by
    unfold f_Md_isOpen
    refine V_iconst C0 dX7_isOpen_0 ic_0 ?_
    refine V_istore_n C0 1 [(1, .int 0), (0, .ref (G.2 + 208))] rfl (by decide) rfl dX7_isOpen_1 ?_
    refine V_iconst C0 dX7_isOpen_2 ic_0 ?_
    refine V_istore_n C0 2 [(2, .int 0), (1, .int 0), (0, .ref (G.2 + 208))] rfl (by decide) rfl dX7_isOpen_3 ?_
    exact V_sub [2, 1, 0] rfl (f_Md_isOpen_b4_ok C0 FU 0 0 M))
set_option maxRecDepth 100000 in
set_option maxHeartbeats 4000000 in
theorem f_Md_formulaRead_b170_ok {X : XT} {G : GT} (C0 : Cx X G cX7_formulaRead 4 RX7 (some .boolean)) (k27 : Int32 → Mem → Option (Int32 × Mem)) (hk27 : ∀ (x1 : Int32) (M : Mem), V X G 4 vI 4 27 [(0, .ref (G.2 + 208)), (1, .int x1)] [] M (k27 x1 M)) (x2 : Int32) (t0 : Int32) (M : Mem) : V X G 4 vI 4 170 [(0, .ref (G.2 + 208)), (2, .int x2)] [.int t0, .ref (G.2 + 208)] M (f_Md_formulaRead_b170 k27 x2 t0 M) := by
  unfold f_Md_formulaRead_b170
  refine k7_137 C0 (by decide) (fun lq rq Mq hh => mc_f_Md_settles lq t0 M rq Mq  hh) (Nat.le_of_ble_eq_true rfl) dX7_formulaRead_170 (fun _ M1 => ?_)
  refine V_aload_n C0 0 rfl 0 rfl dX7_formulaRead_173 ?_
  refine g7_25 C0 dX7_formulaRead_174 ?_
  refine V_aload_n C0 0 rfl 0 rfl dX7_formulaRead_177 ?_
  refine g7_108 C0 dX7_formulaRead_178 ?_
  refine V_iload_n C0 2 rfl 1 rfl dX7_formulaRead_181 ?_
  refine V_iast C0 64 s214 n214 dX7_formulaRead_182 (fun M2 => ?_)
  refine V_aload_n C0 0 rfl 0 rfl dX7_formulaRead_183 ?_
  refine V_dup C0 rfl dX7_formulaRead_184 ?_
  refine g7_108 C0 dX7_formulaRead_185 ?_
  refine V_iconst C0 dX7_formulaRead_188 ic_1 ?_
  refine V_iadd C0 dX7_formulaRead_189 ?_
  refine p7_108 C0 dX7_formulaRead_190 (fun M3 => ?_)
  refine V_aload_n C0 0 rfl 0 rfl dX7_formulaRead_193 ?_
  refine V_dup C0 rfl dX7_formulaRead_194 ?_
  refine g7_101 C0 dX7_formulaRead_195 ?_
  refine V_iconst C0 dX7_formulaRead_198 ic_1 ?_
  refine V_iadd C0 dX7_formulaRead_199 ?_
  refine p7_101 C0 dX7_formulaRead_200 (fun M4 => ?_)
  refine V_aload_n C0 0 rfl 0 rfl dX7_formulaRead_203 ?_
  refine V_dup C0 rfl dX7_formulaRead_204 ?_
  refine g7_84 C0 dX7_formulaRead_205 ?_
  refine V_iconst C0 dX7_formulaRead_208 ic_1 ?_
  refine V_iadd C0 dX7_formulaRead_209 ?_
  refine p7_84 C0 dX7_formulaRead_210 (fun M5 => ?_)
  refine V_iconst C0 dX7_formulaRead_213 ic_1 ?_
  refine V_istore_n C0 1 [(1, .int 1), (0, .ref (G.2 + 208)), (2, .int x2)] rfl (by decide) rfl dX7_formulaRead_214 ?_
  refine V_goto C0 263 dX7_formulaRead_215 (by decide) ?_
  refine V_goto C0 27 dX7_formulaRead_263 (by decide) ?_
  exact V_sub [1, 0] rfl (hk27 1 M5)
set_option maxRecDepth 100000 in
set_option maxHeartbeats 4000000 in
theorem f_Md_formulaRead_b147_ok {X : XT} {G : GT} (C0 : Cx X G cX7_formulaRead 4 RX7 (some .boolean)) (k27 : Int32 → Mem → Option (Int32 × Mem)) (hk27 : ∀ (x1 : Int32) (M : Mem), V X G 4 vI 4 27 [(0, .ref (G.2 + 208)), (1, .int x1)] [] M (k27 x1 M)) (x2 : Int32) (M : Mem) : V X G 4 vI 4 147 [(0, .ref (G.2 + 208)), (2, .int x2)] [] M (f_Md_formulaRead_b147 k27 x2 M) := by
  unfold f_Md_formulaRead_b147
  refine V_aload_n C0 0 rfl 0 rfl dX7_formulaRead_147 ?_
  refine g7_101 C0 dX7_formulaRead_148 ?_
  refine V_bipush C0 dX7_formulaRead_151 bp_30 ?_
  refine V_icmpne C0 158 dX7_formulaRead_153 (by decide) (fun _ => ?_) (fun _ => ?_)
  · refine V_aload_n C0 0 rfl 0 rfl dX7_formulaRead_158 ?_
    refine V_iload_n C0 2 rfl 1 rfl dX7_formulaRead_159 ?_
    refine V_bipush C0 dX7_formulaRead_160 bp_42 ?_
    refine V_icmpne C0 169 dX7_formulaRead_162 (by decide) (fun _ => ?_) (fun _ => ?_)
    · refine V_iconst C0 dX7_formulaRead_169 ic_1 ?_
      exact V_sub [0, 1] rfl (f_Md_formulaRead_b170_ok C0 k27 hk27 x2 1 M)
    · refine V_iconst C0 dX7_formulaRead_165 ic_2 ?_
      refine V_goto C0 170 dX7_formulaRead_166 (by decide) ?_
      exact V_sub [0, 1] rfl (f_Md_formulaRead_b170_ok C0 k27 hk27 x2 2 M)
  · refine V_iconst C0 dX7_formulaRead_156 ic_0 ?_
    exact V_zret C0 dX7_formulaRead_157
set_option maxRecDepth 100000 in
set_option maxHeartbeats 4000000 in
theorem f_Md_formulaRead_b242_ok {X : XT} {G : GT} (C0 : Cx X G cX7_formulaRead 4 RX7 (some .boolean)) (x3 : Int32) (t0 : Int32) (M : Mem) : V X G 4 vI 4 242 [(0, .ref (G.2 + 208)), (3, .int x3)] [.int t0, .ref (G.2 + 208)] M (f_Md_formulaRead_b242 x3 t0 M) := by
  unfold f_Md_formulaRead_b242
  refine k7_137 C0 (by decide) (fun lq rq Mq hh => mc_f_Md_settles lq t0 M rq Mq  hh) (Nat.le_of_ble_eq_true rfl) dX7_formulaRead_242 (fun _ M1 => ?_)
  refine V_aload_n C0 0 rfl 0 rfl dX7_formulaRead_245 ?_
  refine g7_19 C0 dX7_formulaRead_246 ?_
  refine V_bipush C0 dX7_formulaRead_249 bp_10 ?_
  refine V_aload_n C0 0 rfl 0 rfl dX7_formulaRead_251 ?_
  refine g7_88 C0 dX7_formulaRead_252 ?_
  refine V_iadd C0 dX7_formulaRead_255 ?_
  refine V_aload_n C0 0 rfl 0 rfl dX7_formulaRead_256 ?_
  refine g7_91 C0 dX7_formulaRead_257 ?_
  refine V_iast C0 376 s212 n212 dX7_formulaRead_260 (fun M2 => ?_)
  refine V_iload_n C0 3 rfl 1 rfl dX7_formulaRead_261 ?_
  exact V_zret C0 dX7_formulaRead_262
set_option maxRecDepth 100000 in
set_option maxHeartbeats 4000000 in
theorem f_Md_formulaRead_b230_ok {X : XT} {G : GT} (C0 : Cx X G cX7_formulaRead 4 RX7 (some .boolean)) (t0 : Int32) (M : Mem) : V X G 4 vI 4 230 [(0, .ref (G.2 + 208))] [.int t0] M (f_Md_formulaRead_b230 t0 M) := by
  unfold f_Md_formulaRead_b230
  refine V_istore_n C0 3 [(3, .int t0), (0, .ref (G.2 + 208))] rfl (by decide) rfl dX7_formulaRead_230 ?_
  refine V_aload_n C0 0 rfl 1 rfl dX7_formulaRead_231 ?_
  refine V_iload_n C0 3 rfl 0 rfl dX7_formulaRead_232 ?_
  refine V_ifeq C0 240 dX7_formulaRead_233 (by decide) (fun _ => ?_) (fun _ => ?_)
  · refine V_bipush C0 dX7_formulaRead_240 bp_9 ?_
    exact V_sub [1, 0] rfl (f_Md_formulaRead_b242_ok C0 t0 9 M)
  · refine V_iconst C0 dX7_formulaRead_236 ic_1 ?_
    refine V_goto C0 242 dX7_formulaRead_237 (by decide) ?_
    exact V_sub [1, 0] rfl (f_Md_formulaRead_b242_ok C0 t0 1 M)
set_option maxRecDepth 100000 in
set_option maxHeartbeats 4000000 in
theorem f_Md_formulaRead_b129_ok {X : XT} {G : GT} (C0 : Cx X G cX7_formulaRead 4 RX7 (some .boolean)) (k27 : Int32 → Mem → Option (Int32 × Mem)) (hk27 : ∀ (x1 : Int32) (M : Mem), V X G 4 vI 4 27 [(0, .ref (G.2 + 208)), (1, .int x1)] [] M (k27 x1 M)) (x2 : Int32) (M : Mem) : V X G 4 vI 4 129 [(0, .ref (G.2 + 208)), (2, .int x2)] [] M (f_Md_formulaRead_b129 k27 x2 M) := by
  unfold f_Md_formulaRead_b129
  refine V_iload_n C0 2 rfl 1 rfl dX7_formulaRead_129 ?_
  refine V_bipush C0 dX7_formulaRead_130 bp_43 ?_
  refine V_icmpeq C0 147 dX7_formulaRead_132 (by decide) (fun _ => ?_) (fun _ => ?_)
  · exact V_sub [0, 1] rfl (f_Md_formulaRead_b147_ok C0 k27 hk27 x2 M)
  · refine V_iload_n C0 2 rfl 1 rfl dX7_formulaRead_135 ?_
    refine V_bipush C0 dX7_formulaRead_136 bp_45 ?_
    refine V_icmpeq C0 147 dX7_formulaRead_138 (by decide) (fun _ => ?_) (fun _ => ?_)
    · exact V_sub [0, 1] rfl (f_Md_formulaRead_b147_ok C0 k27 hk27 x2 M)
    · refine V_iload_n C0 2 rfl 1 rfl dX7_formulaRead_141 ?_
      refine V_bipush C0 dX7_formulaRead_142 bp_42 ?_
      refine V_icmpne C0 218 dX7_formulaRead_144 (by decide) (fun _ => ?_) (fun _ => ?_)
      · refine V_aload_n C0 0 rfl 0 rfl dX7_formulaRead_218 ?_
        refine k7_140 C0 (by decide) (fun lq rq Mq hh => mc_f_Md_isOpen lq  M rq Mq  hh) (Nat.le_of_ble_eq_true rfl) dX7_formulaRead_219 (fun r1 M1 => ?_)
        refine V_ifne C0 229 dX7_formulaRead_222 (by decide) (fun _ => ?_) (fun _ => ?_)
        · refine V_iconst C0 dX7_formulaRead_229 ic_0 ?_
          exact V_sub [0] rfl (f_Md_formulaRead_b230_ok C0 0 M1)
        · refine V_iconst C0 dX7_formulaRead_225 ic_1 ?_
          refine V_goto C0 230 dX7_formulaRead_226 (by decide) ?_
          exact V_sub [0] rfl (f_Md_formulaRead_b230_ok C0 1 M1)
      · exact V_sub [0, 1] rfl (f_Md_formulaRead_b147_ok C0 k27 hk27 x2 M)
set_option maxRecDepth 100000 in
set_option maxHeartbeats 4000000 in
theorem f_Md_formulaRead_b57_ok {X : XT} {G : GT} (C0 : Cx X G cX7_formulaRead 4 RX7 (some .boolean)) (k27 : Int32 → Mem → Option (Int32 × Mem)) (hk27 : ∀ (x1 : Int32) (M : Mem), V X G 4 vI 4 27 [(0, .ref (G.2 + 208)), (1, .int x1)] [] M (k27 x1 M)) (t0 : Int32) (M : Mem) : V X G 4 vI 4 57 [(0, .ref (G.2 + 208))] [.int t0] M (f_Md_formulaRead_b57 k27 t0 M) := by
  unfold f_Md_formulaRead_b57
  refine V_istore_n C0 1 [(1, .int t0), (0, .ref (G.2 + 208))] rfl (by decide) rfl dX7_formulaRead_57 ?_
  refine V_aload_n C0 0 rfl 1 rfl dX7_formulaRead_58 ?_
  refine g7_126 C0 dX7_formulaRead_59 ?_
  refine V_ifeq C0 263 dX7_formulaRead_62 (by decide) (fun _ => ?_) (fun _ => ?_)
  · refine V_goto C0 27 dX7_formulaRead_263 (by decide) ?_
    exact V_sub [1, 0] rfl (hk27 t0 M)
  · refine V_aload_n C0 0 rfl 1 rfl dX7_formulaRead_65 ?_
    refine V_iconst C0 dX7_formulaRead_66 ic_3 ?_
    refine k7_137 C0 (by decide) (fun lq rq Mq hh => mc_f_Md_settles lq 3 M rq Mq  hh) (Nat.le_of_ble_eq_true rfl) dX7_formulaRead_67 (fun _ M1 => ?_)
    refine V_goto C0 263 dX7_formulaRead_70 (by decide) ?_
    refine V_goto C0 27 dX7_formulaRead_263 (by decide) ?_
    exact V_sub [1, 0] rfl (hk27 t0 M1)
set_option maxRecDepth 100000 in
set_option maxHeartbeats 4000000 in
theorem f_Md_formulaRead_b27_ok {X : XT} {G : GT} (C0 : Cx X G cX7_formulaRead 4 RX7 (some .boolean)) : ∀ (n : Nat) (x1 : Int32) (M : Mem), V X G 4 vI 4 27 [(0, .ref (G.2 + 208)), (1, .int x1)] [] M (f_Md_formulaRead_b27 n x1 M) := by
  intro n
  induction n with
  | zero =>
    intros
    exact V_none
  | succ n ih =>
    intro x1 M
    rw [f_Md_formulaRead_b27]
    refine V_aload_n C0 0 rfl 0 rfl dX7_formulaRead_27 ?_
    refine k7_118 C0 (by decide) (fun lq rq Mq hh => mc_f_Md_here lq  M rq Mq  hh) (Nat.le_of_ble_eq_true rfl) dX7_formulaRead_28 (fun r1 M1 => ?_)
    refine V_istore_n C0 2 [(2, .int r1), (0, .ref (G.2 + 208)), (1, .int x1)] rfl (by decide) rfl dX7_formulaRead_31 ?_
    refine V_iload_n C0 1 rfl 2 rfl dX7_formulaRead_32 ?_
    refine V_ifeq C0 73 dX7_formulaRead_33 (by decide) (fun _ => ?_) (fun _ => ?_)
    · refine V_iload_n C0 2 rfl 0 rfl dX7_formulaRead_73 ?_
      refine V_bipush C0 dX7_formulaRead_74 bp_41 ?_
      refine V_icmpne C0 129 dX7_formulaRead_76 (by decide) (fun _ => ?_) (fun _ => ?_)
      · exact V_sub [1, 0] rfl (f_Md_formulaRead_b129_ok C0 (f_Md_formulaRead_b27 n) ih r1 M1)
      · refine V_aload_n C0 0 rfl 1 rfl dX7_formulaRead_79 ?_
        refine k7_140 C0 (by decide) (fun lq rq Mq hh => mc_f_Md_isOpen lq  M1 rq Mq  hh) (Nat.le_of_ble_eq_true rfl) dX7_formulaRead_80 (fun r2 M2 => ?_)
        refine V_ifeq C0 129 dX7_formulaRead_83 (by decide) (fun _ => ?_) (fun _ => ?_)
        · exact V_sub [1, 0] rfl (f_Md_formulaRead_b129_ok C0 (f_Md_formulaRead_b27 n) ih r1 M2)
        · refine V_aload_n C0 0 rfl 1 rfl dX7_formulaRead_86 ?_
          refine V_iconst C0 dX7_formulaRead_87 ic_1 ?_
          refine k7_137 C0 (by decide) (fun lq rq Mq hh => mc_f_Md_settles lq 1 M2 rq Mq  hh) (Nat.le_of_ble_eq_true rfl) dX7_formulaRead_88 (fun _ M3 => ?_)
          refine V_aload_n C0 0 rfl 1 rfl dX7_formulaRead_91 ?_
          refine V_dup C0 rfl dX7_formulaRead_92 ?_
          refine g7_108 C0 dX7_formulaRead_93 ?_
          refine V_iconst C0 dX7_formulaRead_96 ic_1 ?_
          refine V_isub C0 dX7_formulaRead_97 ?_
          refine p7_108 C0 dX7_formulaRead_98 (fun M4 => ?_)
          refine V_aload_n C0 0 rfl 1 rfl dX7_formulaRead_101 ?_
          refine V_dup C0 rfl dX7_formulaRead_102 ?_
          refine g7_115 C0 dX7_formulaRead_103 ?_
          refine V_iconst C0 dX7_formulaRead_106 ic_1 ?_
          refine V_isub C0 dX7_formulaRead_107 ?_
          refine p7_115 C0 dX7_formulaRead_108 (fun M5 => ?_)
          refine V_aload_n C0 0 rfl 1 rfl dX7_formulaRead_111 ?_
          refine V_dup C0 rfl dX7_formulaRead_112 ?_
          refine g7_84 C0 dX7_formulaRead_113 ?_
          refine V_iconst C0 dX7_formulaRead_116 ic_1 ?_
          refine V_iadd C0 dX7_formulaRead_117 ?_
          refine p7_84 C0 dX7_formulaRead_118 (fun M6 => ?_)
          refine V_aload_n C0 0 rfl 1 rfl dX7_formulaRead_121 ?_
          refine V_iconst C0 dX7_formulaRead_122 ic_3 ?_
          refine k7_137 C0 (by decide) (fun lq rq Mq hh => mc_f_Md_settles lq 3 M6 rq Mq  hh) (Nat.le_of_ble_eq_true rfl) dX7_formulaRead_123 (fun _ M7 => ?_)
          refine V_goto C0 263 dX7_formulaRead_126 (by decide) ?_
          refine V_goto C0 27 dX7_formulaRead_263 (by decide) ?_
          exact V_sub [1, 2] rfl (ih x1 M7)
    · refine V_aload_n C0 0 rfl 1 rfl dX7_formulaRead_36 ?_
      refine k7_134 C0 (by decide) (fun lq rq Mq hh => mc_f_Md_factor lq  M1 rq Mq  hh) (Nat.le_of_ble_eq_true rfl) dX7_formulaRead_37 (fun r8 M8 => ?_)
      refine V_ifne C0 45 dX7_formulaRead_40 (by decide) (fun _ => ?_) (fun _ => ?_)
      · refine V_aload_n C0 0 rfl 1 rfl dX7_formulaRead_45 ?_
        refine g7_126 C0 dX7_formulaRead_46 ?_
        refine V_ifne C0 56 dX7_formulaRead_49 (by decide) (fun _ => ?_) (fun _ => ?_)
        · refine V_iconst C0 dX7_formulaRead_56 ic_0 ?_
          exact V_sub [1] rfl (f_Md_formulaRead_b57_ok C0 (f_Md_formulaRead_b27 n) ih 0 M8)
        · refine V_iconst C0 dX7_formulaRead_52 ic_1 ?_
          refine V_goto C0 57 dX7_formulaRead_53 (by decide) ?_
          exact V_sub [1] rfl (f_Md_formulaRead_b57_ok C0 (f_Md_formulaRead_b27 n) ih 1 M8)
      · refine V_iconst C0 dX7_formulaRead_43 ic_0 ?_
        exact V_zret C0 dX7_formulaRead_44
set_option maxRecDepth 100000 in
set_option maxHeartbeats 4000000 in
theorem mc_f_Md_formulaRead {G : GT} (l : Launch) (M : Mem) (r : Int32) (M1 : Mem) (ho : f_Md_formulaRead  M = some (r, M1)) : MC l G yX7_formulaRead cX7_formulaRead 4 (some .boolean) 4 [.ref (G.2 + 208)] M (vI r) M1 :=
  MC.ofV (own := RX7) (lv := [(0, .ref (G.2 + 208))]) (by decide +kernel) rfl rfl (Nat.le_of_ble_eq_true rfl) ho (fun X hX C0 => by
    unfold f_Md_formulaRead
    refine V_aload_n C0 0 rfl 0 rfl dX7_formulaRead_0 ?_
    refine V_iconst C0 dX7_formulaRead_1 ic_0 ?_
    refine p7_91 C0 dX7_formulaRead_2 (fun M1 => ?_)
    refine V_aload_n C0 0 rfl 0 rfl dX7_formulaRead_5 ?_
    refine V_iconst C0 dX7_formulaRead_6 ic_0 ?_
    refine p7_101 C0 dX7_formulaRead_7 (fun M2 => ?_)
    refine V_aload_n C0 0 rfl 0 rfl dX7_formulaRead_10 ?_
    refine V_iconst C0 dX7_formulaRead_11 ic_0 ?_
    refine p7_115 C0 dX7_formulaRead_12 (fun M3 => ?_)
    refine V_aload_n C0 0 rfl 0 rfl dX7_formulaRead_15 ?_
    refine V_iconst C0 dX7_formulaRead_16 ic_0 ?_
    refine p7_94 C0 dX7_formulaRead_17 (fun M4 => ?_)
    refine V_aload_n C0 0 rfl 0 rfl dX7_formulaRead_20 ?_
    refine V_iconst C0 dX7_formulaRead_21 ic_0 ?_
    refine p7_108 C0 dX7_formulaRead_22 (fun M5 => ?_)
    refine V_iconst C0 dX7_formulaRead_25 ic_1 ?_
    refine V_istore_n C0 1 [(1, .int 1), (0, .ref (G.2 + 208))] rfl (by decide) rfl dX7_formulaRead_26 ?_
    exact V_sub [1, 0] rfl (f_Md_formulaRead_b27_ok C0 FU 1 M5))
set_option maxRecDepth 100000 in
set_option maxHeartbeats 4000000 in
theorem mc_f_Md_node {G : GT} (l : Launch) (x1 : Int32) (x2 : Int32) (x3 : Int32) (M : Mem) (r : Int32) (M1 : Mem) (ho : f_Md_node x1 x2 x3 M = some (r, M1)) : MC l G yX7_node cX7_node 5 (some .int) 4 [.ref (G.2 + 208), .int x1, .int x2, .int x3] M (vI r) M1 :=
  MC.ofV (own := RX7) (lv := [(0, .ref (G.2 + 208)), (1, .int x1), (2, .int x2), (3, .int x3)]) (by decide +kernel) rfl rfl (Nat.le_of_ble_eq_true rfl) ho (fun X hX C0 => by
    unfold f_Md_node
    refine V_aload_n C0 0 rfl 0 rfl dX7_node_0 ?_
    refine k7_164 C0 (by decide) (fun lq rq Mq hh => mc_f_Md_lays lq  M rq Mq  hh) (Nat.le_of_ble_eq_true rfl) dX7_node_1 (fun _ M1 => ?_)
    refine V_aload_n C0 0 rfl 0 rfl dX7_node_4 ?_
    refine V_iload_n C0 1 rfl 1 rfl dX7_node_5 ?_
    refine k7_156 C0 (by decide) (fun lq rq Mq hh => mc_f_Md_isFormula lq x1 M1 rq Mq  hh) (Nat.le_of_ble_eq_true rfl) dX7_node_6 (fun r2 M2 => ?_)
    refine V_ifeq C0 38 dX7_node_9 (by decide) (fun _ => ?_) (fun _ => ?_)
    · refine V_ldc C0 wk7_79 dX7_node_38 ?_
      exact V_iret C0 dX7_node_40
    · refine V_iload_n C0 2 rfl 2 rfl dX7_node_12 ?_
      refine V_iconst C0 dX7_node_13 ic_0 ?_
      refine V_aload_n C0 0 rfl 0 rfl dX7_node_14 ?_
      refine g7_49 C0 dX7_node_15 ?_
      refine V_iload_n C0 1 rfl 1 rfl dX7_node_18 ?_
      refine V_iald C0 6 s222 n222 dX7_node_19 ?_
      refine V_iconst C0 dX7_node_20 ic_1 ?_
      refine V_isub C0 dX7_node_21 ?_
      refine k7_75 C0 (by decide) (fun lq rq Mq hh => mc_f_Md_in lq x2 0 ((M2.1 222 (ix x1)) - 1) M2 rq Mq  hh) (Nat.le_of_ble_eq_true rfl) dX7_node_22 (fun r3 M3 => ?_)
      refine V_ifeq C0 38 dX7_node_25 (by decide) (fun _ => ?_) (fun _ => ?_)
      · refine V_ldc C0 wk7_79 dX7_node_38 ?_
        exact V_iret C0 dX7_node_40
      · refine V_iload_n C0 3 rfl 3 rfl dX7_node_28 ?_
        refine V_iconst C0 dX7_node_29 ic_0 ?_
        refine V_bipush C0 dX7_node_30 bp_6 ?_
        refine k7_75 C0 (by decide) (fun lq rq Mq hh => mc_f_Md_in lq x3 0 6 M3 rq Mq  hh) (Nat.le_of_ble_eq_true rfl) dX7_node_32 (fun r4 M4 => ?_)
        refine V_ifne C0 41 dX7_node_35 (by decide) (fun _ => ?_) (fun _ => ?_)
        · refine V_bipush C0 dX7_node_41 bp_90 ?_
          refine V_iload_n C0 1 rfl 1 rfl dX7_node_43 ?_
          refine V_imul C0 dX7_node_44 ?_
          refine V_iload_n C0 2 rfl 2 rfl dX7_node_45 ?_
          refine V_iadd C0 dX7_node_46 ?_
          refine V_bi (fun y5 => ?_)
          refine V_istore C0 4 [(4, .int y5), (0, .ref (G.2 + 208)), (1, .int x1), (2, .int x2), (3, .int x3)] (by decide) rfl dX7_node_47 ?_
          refine V_iload_n C0 3 rfl 4 rfl dX7_node_49 ?_
          refine V_ts C0 0 88 dX7_node_50 (by decide) (by decide) rfl (by decide) (fun _ => ?_) (fun hs0 => ?_)
          · refine V_aload_n C0 0 rfl 1 rfl dX7_node_88 ?_
            refine g7_31 C0 dX7_node_89 ?_
            refine V_iload C0 4 0 rfl dX7_node_92 ?_
            refine V_iald C0 540 s216 n216 dX7_node_94 ?_
            exact V_iret C0 dX7_node_95
          refine V_ts C0 1 96 dX7_node_50 (by decide) (by decide) rfl (by decide) (fun _ => ?_) (fun hs1 => ?_)
          · refine V_aload_n C0 0 rfl 1 rfl dX7_node_96 ?_
            refine g7_31 C0 dX7_node_97 ?_
            refine V_iload C0 4 0 rfl dX7_node_100 ?_
            refine V_iald C0 540 s216 n216 dX7_node_102 ?_
            refine V_iconst C0 dX7_node_103 ic_3 ?_
            refine V_icmpge C0 117 dX7_node_104 (by decide) (fun _ => ?_) (fun _ => ?_)
            · refine V_ldc C0 wk7_87 dX7_node_117 ?_
              exact V_iret C0 dX7_node_119
            · refine V_aload_n C0 0 rfl 1 rfl dX7_node_107 ?_
              refine g7_34 C0 dX7_node_108 ?_
              refine V_iload C0 4 0 rfl dX7_node_111 ?_
              refine V_iald C0 540 s217 n217 dX7_node_113 ?_
              refine V_goto C0 119 dX7_node_114 (by decide) ?_
              exact V_iret C0 dX7_node_119
          refine V_ts C0 2 120 dX7_node_50 (by decide) (by decide) rfl (by decide) (fun _ => ?_) (fun hs2 => ?_)
          · refine V_aload_n C0 0 rfl 1 rfl dX7_node_120 ?_
            refine g7_31 C0 dX7_node_121 ?_
            refine V_iload C0 4 0 rfl dX7_node_124 ?_
            refine V_iald C0 540 s216 n216 dX7_node_126 ?_
            refine V_iconst C0 dX7_node_127 ic_3 ?_
            refine V_icmpge C0 136 dX7_node_128 (by decide) (fun _ => ?_) (fun _ => ?_)
            · refine V_iload_n C0 2 rfl 3 rfl dX7_node_136 ?_
              refine V_iconst C0 dX7_node_137 ic_1 ?_
              refine V_iadd C0 dX7_node_138 ?_
              exact V_iret C0 dX7_node_139
            · refine V_ldc C0 wk7_87 dX7_node_131 ?_
              refine V_goto C0 139 dX7_node_133 (by decide) ?_
              exact V_iret C0 dX7_node_139
          refine V_ts C0 3 140 dX7_node_50 (by decide) (by decide) rfl (by decide) (fun _ => ?_) (fun hs3 => ?_)
          · refine V_aload_n C0 0 rfl 1 rfl dX7_node_140 ?_
            refine g7_31 C0 dX7_node_141 ?_
            refine V_iload C0 4 0 rfl dX7_node_144 ?_
            refine V_iald C0 540 s216 n216 dX7_node_146 ?_
            refine V_iconst C0 dX7_node_147 ic_3 ?_
            refine V_icmpgt C0 156 dX7_node_148 (by decide) (fun _ => ?_) (fun _ => ?_)
            · refine V_iload_n C0 2 rfl 3 rfl dX7_node_156 ?_
              refine V_iconst C0 dX7_node_157 ic_1 ?_
              refine V_iadd C0 dX7_node_158 ?_
              refine V_aload_n C0 0 rfl 1 rfl dX7_node_159 ?_
              refine g7_37 C0 dX7_node_160 ?_
              refine V_iload C0 4 0 rfl dX7_node_163 ?_
              refine V_iconst C0 dX7_node_165 ic_1 ?_
              refine V_iadd C0 dX7_node_166 ?_
              refine V_iald C0 540 s218 n218 dX7_node_167 ?_
              refine V_iadd C0 dX7_node_168 ?_
              exact V_iret C0 dX7_node_169
            · refine V_ldc C0 wk7_87 dX7_node_151 ?_
              refine V_goto C0 169 dX7_node_153 (by decide) ?_
              exact V_iret C0 dX7_node_169
          refine V_ts C0 4 170 dX7_node_50 (by decide) (by decide) rfl (by decide) (fun _ => ?_) (fun hs4 => ?_)
          · refine V_aload_n C0 0 rfl 1 rfl dX7_node_170 ?_
            refine g7_40 C0 dX7_node_171 ?_
            refine V_iload C0 4 0 rfl dX7_node_174 ?_
            refine V_iald C0 540 s219 n219 dX7_node_176 ?_
            exact V_iret C0 dX7_node_177
          refine V_ts C0 5 178 dX7_node_50 (by decide) (by decide) rfl (by decide) (fun _ => ?_) (fun hs5 => ?_)
          · refine V_aload_n C0 0 rfl 1 rfl dX7_node_178 ?_
            refine g7_37 C0 dX7_node_179 ?_
            refine V_iload C0 4 0 rfl dX7_node_182 ?_
            refine V_iald C0 540 s218 n218 dX7_node_184 ?_
            exact V_iret C0 dX7_node_185
          refine V_tsO C0 186 dX7_node_50 (by have hz0 := lv_neT hs0 (a := 0) rfl; have hz1 := lv_neT hs1 (a := 1) rfl; have hz2 := lv_neT hs2 (a := 2) rfl; have hz3 := lv_neT hs3 (a := 3) rfl; have hz4 := lv_neT hs4 (a := 4) rfl; have hz5 := lv_neT hs5 (a := 5) rfl; omega) (by decide) ?_
          refine V_aload_n C0 0 rfl 1 rfl dX7_node_186 ?_
          refine g7_46 C0 dX7_node_187 ?_
          refine V_iload C0 4 0 rfl dX7_node_190 ?_
          refine V_iald C0 540 s221 n221 dX7_node_192 ?_
          exact V_iret C0 dX7_node_193
        · refine V_ldc C0 wk7_79 dX7_node_38 ?_
          exact V_iret C0 dX7_node_40)
set_option maxRecDepth 100000 in
set_option maxHeartbeats 4000000 in
theorem mc_f_Md_plan {G : GT} (l : Launch) (x1 : Int32) (M : Mem) (r : Int32) (M1 : Mem) (ho : f_Md_plan x1 M = some (r, M1)) : MC l G yX7_plan cX7_plan 2 (some .int) 5 [.ref (G.2 + 208), .int x1] M (vI r) M1 :=
  MC.ofV (own := RX7) (lv := [(0, .ref (G.2 + 208)), (1, .int x1)]) (by decide +kernel) rfl rfl (Nat.le_of_ble_eq_true rfl) ho (fun X hX C0 => by
    unfold f_Md_plan
    refine V_iload_n C0 1 rfl 1 rfl dX7_plan_0 ?_
    refine V_iconst C0 dX7_plan_1 ic_0 ?_
    refine V_iconst C0 dX7_plan_2 ic_4 ?_
    refine k7_75 C0 (by decide) (fun lq rq Mq hh => mc_f_Md_in lq x1 0 4 M rq Mq  hh) (Nat.le_of_ble_eq_true rfl) dX7_plan_3 (fun r1 M1 => ?_)
    refine V_ifne C0 12 dX7_plan_6 (by decide) (fun _ => ?_) (fun _ => ?_)
    · refine V_aload_n C0 0 rfl 0 rfl dX7_plan_12 ?_
      refine V_aload_n C0 0 rfl 0 rfl dX7_plan_13 ?_
      refine g7_7 C0 dX7_plan_14 ?_
      refine V_iconst C0 dX7_plan_17 ic_1 ?_
      refine V_iald C0 376 s209 n209 dX7_plan_18 ?_
      refine V_ldc C0 wk7_87 dX7_plan_19 ?_
      refine k7_237 C0 (by decide) (fun lq rq Mq hh => mc_f_Md_plans lq (M1.1 209 (ix 1)) (-1000009) M1 rq Mq  hh) (Nat.le_of_ble_eq_true rfl) dX7_plan_21 (fun _ M2 => ?_)
      refine V_iload_n C0 1 rfl 1 rfl dX7_plan_24 ?_
      refine V_ifne C0 35 dX7_plan_25 (by decide) (fun _ => ?_) (fun _ => ?_)
      · refine V_iload_n C0 1 rfl 1 rfl dX7_plan_35 ?_
        refine V_iconst C0 dX7_plan_36 ic_1 ?_
        refine V_icmpne C0 47 dX7_plan_37 (by decide) (fun _ => ?_) (fun _ => ?_)
        · refine V_iload_n C0 1 rfl 1 rfl dX7_plan_47 ?_
          refine V_iconst C0 dX7_plan_48 ic_2 ?_
          refine V_icmpne C0 59 dX7_plan_49 (by decide) (fun _ => ?_) (fun _ => ?_)
          · refine V_iload_n C0 1 rfl 1 rfl dX7_plan_59 ?_
            refine V_iconst C0 dX7_plan_60 ic_3 ?_
            refine V_icmpne C0 71 dX7_plan_61 (by decide) (fun _ => ?_) (fun _ => ?_)
            · refine V_aload_n C0 0 rfl 0 rfl dX7_plan_71 ?_
              refine g7_221 C0 dX7_plan_72 ?_
              exact V_iret C0 dX7_plan_75
            · refine V_aload_n C0 0 rfl 0 rfl dX7_plan_64 ?_
              refine g7_218 C0 dX7_plan_65 ?_
              refine V_goto C0 75 dX7_plan_68 (by decide) ?_
              exact V_iret C0 dX7_plan_75
          · refine V_aload_n C0 0 rfl 0 rfl dX7_plan_52 ?_
            refine g7_215 C0 dX7_plan_53 ?_
            refine V_goto C0 75 dX7_plan_56 (by decide) ?_
            exact V_iret C0 dX7_plan_75
        · refine V_aload_n C0 0 rfl 0 rfl dX7_plan_40 ?_
          refine g7_212 C0 dX7_plan_41 ?_
          refine V_goto C0 75 dX7_plan_44 (by decide) ?_
          exact V_iret C0 dX7_plan_75
      · refine V_aload_n C0 0 rfl 0 rfl dX7_plan_28 ?_
        refine g7_203 C0 dX7_plan_29 ?_
        refine V_goto C0 75 dX7_plan_32 (by decide) ?_
        exact V_iret C0 dX7_plan_75
    · refine V_ldc C0 wk7_79 dX7_plan_9 ?_
      exact V_iret C0 dX7_plan_11)
set_option maxRecDepth 100000 in
set_option maxHeartbeats 4000000 in
theorem f_Md_tries_b269_ok {X : XT} {G : GT} (C0 : Cx X G cX7_tries 11 RX7 (some .int)) (k52 : Int32 → Int32 → Int32 → Mem → Option (Int32 × Mem)) (k181 : Int32 → Int32 → Int32 → Int32 → Int32 → Int32 → Int32 → Mem → Option (Int32 × Mem)) (hk52 : ∀ (x1 : Int32) (x2 : Int32) (x3 : Int32) (M : Mem), V X G 0 vI 11 52 [(0, .ref (G.2 + 208)), (1, .int x1), (2, .int x2), (3, .int x3)] [] M (k52 x1 x2 x3 M)) (hk181 : ∀ (x1 : Int32) (x2 : Int32) (x3 : Int32) (x4 : Int32) (x5 : Int32) (x6 : Int32) (x7 : Int32) (M : Mem), V X G 0 vI 11 181 [(0, .ref (G.2 + 208)), (1, .int x1), (2, .int x2), (3, .int x3), (4, .int x4), (5, .int x5), (6, .int x6), (7, .int x7)] [] M (k181 x1 x2 x3 x4 x5 x6 x7 M)) (x1 : Int32) (x2 : Int32) (x3 : Int32) (x4 : Int32) (x5 : Int32) (x6 : Int32) (x7 : Int32) (x8 : Int32) (x9 : Int32) (x10 : Int32) (t0 : Int32) (t1 : Int32) (M : Mem) : V X G 0 vI 11 269 [(0, .ref (G.2 + 208)), (1, .int x1), (2, .int x2), (3, .int x3), (4, .int x4), (5, .int x5), (6, .int x6), (7, .int x7), (8, .int x8), (9, .int x9), (10, .int x10)] [.int t0, .int t1, .ref (G.2 + 228)] M (f_Md_tries_b269 k52 k181 x1 x2 x3 x4 x5 x6 x7 x8 x9 x10 t0 t1 M) := by
  unfold f_Md_tries_b269
  refine V_iadd C0 dX7_tries_269 ?_
  refine V_dup2 C0 rfl rfl dX7_tries_270 ?_
  refine V_iald C0 1170 s228 n228 dX7_tries_271 ?_
  refine V_iload C0 10 10 rfl dX7_tries_272 ?_
  refine V_iadd C0 dX7_tries_274 ?_
  refine V_iast C0 1170 s228 n228 dX7_tries_275 (fun M1 => ?_)
  refine V_aload_n C0 0 rfl 0 rfl dX7_tries_276 ?_
  refine g7_68 C0 dX7_tries_277 ?_
  refine V_bipush C0 dX7_tries_280 bp_13 ?_
  refine V_iload_n C0 3 rfl 3 rfl dX7_tries_282 ?_
  refine V_imul C0 dX7_tries_283 ?_
  refine V_iload C0 9 9 rfl dX7_tries_284 ?_
  refine V_iload C0 8 8 rfl dX7_tries_286 ?_
  refine V_iconst C0 dX7_tries_288 ic_1 ?_
  refine V_iadd C0 dX7_tries_289 ?_
  refine V_icmple C0 298 dX7_tries_290 (by decide) (fun _ => ?_) (fun _ => ?_)
  · refine V_iload C0 8 8 rfl dX7_tries_298 ?_
    refine V_iconst C0 dX7_tries_300 ic_1 ?_
    refine V_iadd C0 dX7_tries_301 ?_
    refine V_iadd C0 dX7_tries_302 ?_
    refine V_dup2 C0 rfl rfl dX7_tries_303 ?_
    refine V_iald C0 1170 s228 n228 dX7_tries_304 ?_
    refine V_iload C0 10 10 rfl dX7_tries_305 ?_
    refine V_iadd C0 dX7_tries_307 ?_
    refine V_iast C0 1170 s228 n228 dX7_tries_308 (fun M2 => ?_)
    refine V_iincB C0 7 7 (fun y3 => [(7, .int y3), (0, .ref (G.2 + 208)), (1, .int x1), (2, .int x2), (3, .int x3), (4, .int x4), (5, .int x5), (6, .int x6), (8, .int x8), (9, .int x9), (10, .int x10)]) rfl ic_1 (by decide) (fun _ => rfl) dX7_tries_309 (fun y3 => ?_)
    refine V_goto C0 181 dX7_tries_312 (by decide) ?_
    exact V_sub [1, 2, 3, 4, 5, 6, 7, 0] rfl (hk181 x1 x2 x3 x4 x5 x6 y3 M2)
  · refine V_iload C0 9 9 rfl dX7_tries_293 ?_
    refine V_goto C0 302 dX7_tries_295 (by decide) ?_
    refine V_iadd C0 dX7_tries_302 ?_
    refine V_dup2 C0 rfl rfl dX7_tries_303 ?_
    refine V_iald C0 1170 s228 n228 dX7_tries_304 ?_
    refine V_iload C0 10 10 rfl dX7_tries_305 ?_
    refine V_iadd C0 dX7_tries_307 ?_
    refine V_iast C0 1170 s228 n228 dX7_tries_308 (fun M4 => ?_)
    refine V_iincB C0 7 7 (fun y5 => [(7, .int y5), (0, .ref (G.2 + 208)), (1, .int x1), (2, .int x2), (3, .int x3), (4, .int x4), (5, .int x5), (6, .int x6), (8, .int x8), (9, .int x9), (10, .int x10)]) rfl ic_1 (by decide) (fun _ => rfl) dX7_tries_309 (fun y5 => ?_)
    refine V_goto C0 181 dX7_tries_312 (by decide) ?_
    exact V_sub [1, 2, 3, 4, 5, 6, 7, 0] rfl (hk181 x1 x2 x3 x4 x5 x6 y5 M4)
set_option maxRecDepth 100000 in
set_option maxHeartbeats 4000000 in
theorem f_Md_tries_b181_ok {X : XT} {G : GT} (C0 : Cx X G cX7_tries 11 RX7 (some .int)) (k52 : Int32 → Int32 → Int32 → Mem → Option (Int32 × Mem)) (hk52 : ∀ (x1 : Int32) (x2 : Int32) (x3 : Int32) (M : Mem), V X G 0 vI 11 52 [(0, .ref (G.2 + 208)), (1, .int x1), (2, .int x2), (3, .int x3)] [] M (k52 x1 x2 x3 M)) : ∀ (n : Nat) (x1 : Int32) (x2 : Int32) (x3 : Int32) (x4 : Int32) (x5 : Int32) (x6 : Int32) (x7 : Int32) (M : Mem), V X G 0 vI 11 181 [(0, .ref (G.2 + 208)), (1, .int x1), (2, .int x2), (3, .int x3), (4, .int x4), (5, .int x5), (6, .int x6), (7, .int x7)] [] M (f_Md_tries_b181 k52 n x1 x2 x3 x4 x5 x6 x7 M) := by
  intro n
  induction n with
  | zero =>
    intros
    exact V_none
  | succ n ih =>
    intro x1 x2 x3 x4 x5 x6 x7 M
    rw [f_Md_tries_b181]
    refine V_iload C0 7 7 rfl dX7_tries_181 ?_
    refine V_sipush C0 dX7_tries_183 sp_169 ?_
    refine V_icmpge C0 315 dX7_tries_186 (by decide) (fun _ => ?_) (fun _ => ?_)
    · refine V_iincB C0 3 3 (fun y1 => [(3, .int y1), (0, .ref (G.2 + 208)), (1, .int x1), (2, .int x2), (4, .int x4), (5, .int x5), (6, .int x6), (7, .int x7)]) rfl ic_m1 (by decide) (fun _ => rfl) dX7_tries_315 (fun y1 => ?_)
      refine V_goto C0 52 dX7_tries_318 (by decide) ?_
      exact V_sub [1, 2, 3, 0] rfl (hk52 x1 x2 y1 M)
    · refine V_iload C0 4 4 rfl dX7_tries_189 ?_
      refine V_iconst C0 dX7_tries_191 ic_3 ?_
      refine V_icmple C0 315 dX7_tries_192 (by decide) (fun _ => ?_) (fun _ => ?_)
      · refine V_iincB C0 3 3 (fun y2 => [(3, .int y2), (0, .ref (G.2 + 208)), (1, .int x1), (2, .int x2), (4, .int x4), (5, .int x5), (6, .int x6), (7, .int x7)]) rfl ic_m1 (by decide) (fun _ => rfl) dX7_tries_315 (fun y2 => ?_)
        refine V_goto C0 52 dX7_tries_318 (by decide) ?_
        exact V_sub [1, 2, 3, 0] rfl (hk52 x1 x2 y2 M)
      · refine V_iload C0 7 7 rfl dX7_tries_195 ?_
        refine V_bipush C0 dX7_tries_197 bp_13 ?_
        refine V_idiv C0 (by decide) dX7_tries_199 ?_
        refine V_bi (fun y3 => ?_)
        refine V_istore C0 8 [(8, .int y3), (0, .ref (G.2 + 208)), (1, .int x1), (2, .int x2), (3, .int x3), (4, .int x4), (5, .int x5), (6, .int x6), (7, .int x7)] (by decide) rfl dX7_tries_200 ?_
        refine V_iload C0 7 8 rfl dX7_tries_202 ?_
        refine V_bipush C0 dX7_tries_204 bp_13 ?_
        refine V_irem C0 (by decide) dX7_tries_206 ?_
        refine V_bi (fun y4 => ?_)
        refine V_istore C0 9 [(9, .int y4), (8, .int y3), (0, .ref (G.2 + 208)), (1, .int x1), (2, .int x2), (3, .int x3), (4, .int x4), (5, .int x5), (6, .int x6), (7, .int x7)] (by decide) rfl dX7_tries_207 ?_
        refine V_aload_n C0 0 rfl 2 rfl dX7_tries_209 ?_
        refine g7_68 C0 dX7_tries_210 ?_
        refine V_bipush C0 dX7_tries_213 bp_13 ?_
        refine V_iload C0 5 7 rfl dX7_tries_215 ?_
        refine V_imul C0 dX7_tries_217 ?_
        refine V_iload C0 8 1 rfl dX7_tries_218 ?_
        refine V_iadd C0 dX7_tries_220 ?_
        refine V_iald C0 1170 s228 n228 dX7_tries_221 ?_
        refine V_aload_n C0 0 rfl 2 rfl dX7_tries_222 ?_
        refine g7_68 C0 dX7_tries_223 ?_
        refine V_bipush C0 dX7_tries_226 bp_13 ?_
        refine V_iload C0 6 8 rfl dX7_tries_228 ?_
        refine V_imul C0 dX7_tries_230 ?_
        refine V_iload C0 9 0 rfl dX7_tries_231 ?_
        refine V_iadd C0 dX7_tries_233 ?_
        refine V_iald C0 1170 s228 n228 dX7_tries_234 ?_
        refine V_imul C0 dX7_tries_235 ?_
        refine V_bi (fun y5 => ?_)
        refine V_istore C0 10 [(10, .int y5), (9, .int y4), (8, .int y3), (0, .ref (G.2 + 208)), (1, .int x1), (2, .int x2), (3, .int x3), (4, .int x4), (5, .int x5), (6, .int x6), (7, .int x7)] (by decide) rfl dX7_tries_236 ?_
        refine V_iload C0 10 0 rfl dX7_tries_238 ?_
        refine V_ifle C0 309 dX7_tries_240 (by decide) (fun _ => ?_) (fun _ => ?_)
        · refine V_iincB C0 7 10 (fun y6 => [(7, .int y6), (10, .int y5), (9, .int y4), (8, .int y3), (0, .ref (G.2 + 208)), (1, .int x1), (2, .int x2), (3, .int x3), (4, .int x4), (5, .int x5), (6, .int x6)]) rfl ic_1 (by decide) (fun _ => rfl) dX7_tries_309 (fun y6 => ?_)
          refine V_goto C0 181 dX7_tries_312 (by decide) ?_
          exact V_sub [4, 5, 6, 7, 8, 9, 10, 0] rfl (ih x1 x2 x3 x4 x5 x6 y6 M)
        · refine V_aload_n C0 0 rfl 3 rfl dX7_tries_243 ?_
          refine g7_68 C0 dX7_tries_244 ?_
          refine V_bipush C0 dX7_tries_247 bp_13 ?_
          refine V_iload_n C0 3 rfl 6 rfl dX7_tries_249 ?_
          refine V_imul C0 dX7_tries_250 ?_
          refine V_iload C0 8 2 rfl dX7_tries_251 ?_
          refine V_iload C0 9 1 rfl dX7_tries_253 ?_
          refine V_iconst C0 dX7_tries_255 ic_1 ?_
          refine V_iadd C0 dX7_tries_256 ?_
          refine V_icmple C0 265 dX7_tries_257 (by decide) (fun _ => ?_) (fun _ => ?_)
          · refine V_iload C0 9 1 rfl dX7_tries_265 ?_
            refine V_iconst C0 dX7_tries_267 ic_1 ?_
            refine V_iadd C0 dX7_tries_268 ?_
            exact V_sub [3, 4, 5, 6, 7, 8, 9, 10, 2, 1, 0] rfl (f_Md_tries_b269_ok C0 k52 (f_Md_tries_b181 k52 n) hk52 ih x1 x2 x3 x4 x5 x6 x7 y3 y4 y5 (y4 + 1) (13 * x3) M)
          · refine V_iload C0 8 2 rfl dX7_tries_260 ?_
            refine V_goto C0 269 dX7_tries_262 (by decide) ?_
            exact V_sub [3, 4, 5, 6, 7, 8, 9, 10, 2, 1, 0] rfl (f_Md_tries_b269_ok C0 k52 (f_Md_tries_b181 k52 n) hk52 ih x1 x2 x3 x4 x5 x6 x7 y3 y4 y5 y3 (13 * x3) M)
set_option maxRecDepth 100000 in
set_option maxHeartbeats 4000000 in
theorem f_Md_tries_b110_ok {X : XT} {G : GT} (C0 : Cx X G cX7_tries 11 RX7 (some .int)) (k52 : Int32 → Int32 → Int32 → Mem → Option (Int32 × Mem)) (hk52 : ∀ (x1 : Int32) (x2 : Int32) (x3 : Int32) (M : Mem), V X G 0 vI 11 52 [(0, .ref (G.2 + 208)), (1, .int x1), (2, .int x2), (3, .int x3)] [] M (k52 x1 x2 x3 M)) : ∀ (n : Nat) (x1 : Int32) (x2 : Int32) (x3 : Int32) (x4 : Int32) (x5 : Int32) (x6 : Int32) (x7 : Int32) (M : Mem), V X G 0 vI 11 110 [(0, .ref (G.2 + 208)), (1, .int x1), (2, .int x2), (3, .int x3), (4, .int x4), (5, .int x5), (6, .int x6), (7, .int x7)] [] M (f_Md_tries_b110 k52 n x1 x2 x3 x4 x5 x6 x7 M) := by
  intro n
  induction n with
  | zero =>
    intros
    exact V_none
  | succ n ih =>
    intro x1 x2 x3 x4 x5 x6 x7 M
    rw [f_Md_tries_b110]
    refine V_iload C0 7 7 rfl dX7_tries_110 ?_
    refine V_bipush C0 dX7_tries_112 bp_13 ?_
    refine V_icmpge C0 178 dX7_tries_114 (by decide) (fun _ => ?_) (fun _ => ?_)
    · refine V_iconst C0 dX7_tries_178 ic_0 ?_
      refine V_istore C0 7 [(7, .int 0), (0, .ref (G.2 + 208)), (1, .int x1), (2, .int x2), (3, .int x3), (4, .int x4), (5, .int x5), (6, .int x6)] (by decide) rfl dX7_tries_179 ?_
      exact V_sub [1, 2, 3, 4, 5, 6, 7, 0] rfl (f_Md_tries_b181_ok C0 k52 hk52 FU x1 x2 x3 x4 x5 x6 0 M)
    · refine V_aload_n C0 0 rfl 0 rfl dX7_tries_117 ?_
      refine g7_68 C0 dX7_tries_118 ?_
      refine V_bipush C0 dX7_tries_121 bp_13 ?_
      refine V_iload_n C0 3 rfl 3 rfl dX7_tries_123 ?_
      refine V_imul C0 dX7_tries_124 ?_
      refine V_iload C0 7 7 rfl dX7_tries_125 ?_
      refine V_iadd C0 dX7_tries_127 ?_
      refine V_iload C0 4 4 rfl dX7_tries_128 ?_
      refine V_iconst C0 dX7_tries_130 ic_3 ?_
      refine V_icmpge C0 148 dX7_tries_131 (by decide) (fun _ => ?_) (fun _ => ?_)
      · refine V_iload C0 4 4 rfl dX7_tries_148 ?_
        refine V_iconst C0 dX7_tries_150 ic_3 ?_
        refine V_icmpne C0 170 dX7_tries_151 (by decide) (fun _ => ?_) (fun _ => ?_)
        · refine V_iconst C0 dX7_tries_170 ic_0 ?_
          refine V_iast C0 1170 s228 n228 dX7_tries_171 (fun M1 => ?_)
          refine V_iincB C0 7 7 (fun y2 => [(7, .int y2), (0, .ref (G.2 + 208)), (1, .int x1), (2, .int x2), (3, .int x3), (4, .int x4), (5, .int x5), (6, .int x6)]) rfl ic_1 (by decide) (fun _ => rfl) dX7_tries_172 (fun y2 => ?_)
          refine V_goto C0 110 dX7_tries_175 (by decide) ?_
          exact V_sub [1, 2, 3, 4, 5, 6, 7, 0] rfl (ih x1 x2 x3 x4 x5 x6 y2 M1)
        · refine V_aload_n C0 0 rfl 0 rfl dX7_tries_154 ?_
          refine g7_68 C0 dX7_tries_155 ?_
          refine V_bipush C0 dX7_tries_158 bp_13 ?_
          refine V_iload C0 5 5 rfl dX7_tries_160 ?_
          refine V_imul C0 dX7_tries_162 ?_
          refine V_iload C0 7 7 rfl dX7_tries_163 ?_
          refine V_iadd C0 dX7_tries_165 ?_
          refine V_iald C0 1170 s228 n228 dX7_tries_166 ?_
          refine V_goto C0 171 dX7_tries_167 (by decide) ?_
          refine V_iast C0 1170 s228 n228 dX7_tries_171 (fun M3 => ?_)
          refine V_iincB C0 7 7 (fun y4 => [(7, .int y4), (0, .ref (G.2 + 208)), (1, .int x1), (2, .int x2), (3, .int x3), (4, .int x4), (5, .int x5), (6, .int x6)]) rfl ic_1 (by decide) (fun _ => rfl) dX7_tries_172 (fun y4 => ?_)
          refine V_goto C0 110 dX7_tries_175 (by decide) ?_
          exact V_sub [1, 2, 3, 4, 5, 6, 7, 0] rfl (ih x1 x2 x3 x4 x5 x6 y4 M3)
      · refine V_iload C0 7 7 rfl dX7_tries_134 ?_
        refine V_iconst C0 dX7_tries_136 ic_1 ?_
        refine V_icmpne C0 144 dX7_tries_137 (by decide) (fun _ => ?_) (fun _ => ?_)
        · refine V_iconst C0 dX7_tries_144 ic_0 ?_
          refine V_goto C0 171 dX7_tries_145 (by decide) ?_
          refine V_iast C0 1170 s228 n228 dX7_tries_171 (fun M5 => ?_)
          refine V_iincB C0 7 7 (fun y6 => [(7, .int y6), (0, .ref (G.2 + 208)), (1, .int x1), (2, .int x2), (3, .int x3), (4, .int x4), (5, .int x5), (6, .int x6)]) rfl ic_1 (by decide) (fun _ => rfl) dX7_tries_172 (fun y6 => ?_)
          refine V_goto C0 110 dX7_tries_175 (by decide) ?_
          exact V_sub [1, 2, 3, 4, 5, 6, 7, 0] rfl (ih x1 x2 x3 x4 x5 x6 y6 M5)
        · refine V_iconst C0 dX7_tries_140 ic_1 ?_
          refine V_goto C0 171 dX7_tries_141 (by decide) ?_
          refine V_iast C0 1170 s228 n228 dX7_tries_171 (fun M7 => ?_)
          refine V_iincB C0 7 7 (fun y8 => [(7, .int y8), (0, .ref (G.2 + 208)), (1, .int x1), (2, .int x2), (3, .int x3), (4, .int x4), (5, .int x5), (6, .int x6)]) rfl ic_1 (by decide) (fun _ => rfl) dX7_tries_172 (fun y8 => ?_)
          refine V_goto C0 110 dX7_tries_175 (by decide) ?_
          exact V_sub [1, 2, 3, 4, 5, 6, 7, 0] rfl (ih x1 x2 x3 x4 x5 x6 y8 M7)
set_option maxRecDepth 100000 in
set_option maxHeartbeats 4000000 in
theorem f_Md_tries_b105_ok {X : XT} {G : GT} (C0 : Cx X G cX7_tries 11 RX7 (some .int)) (k52 : Int32 → Int32 → Int32 → Mem → Option (Int32 × Mem)) (hk52 : ∀ (x1 : Int32) (x2 : Int32) (x3 : Int32) (M : Mem), V X G 0 vI 11 52 [(0, .ref (G.2 + 208)), (1, .int x1), (2, .int x2), (3, .int x3)] [] M (k52 x1 x2 x3 M)) (x1 : Int32) (x2 : Int32) (x3 : Int32) (x4 : Int32) (x5 : Int32) (t0 : Int32) (M : Mem) : V X G 0 vI 11 105 [(0, .ref (G.2 + 208)), (1, .int x1), (2, .int x2), (3, .int x3), (4, .int x4), (5, .int x5)] [.int t0] M (f_Md_tries_b105 k52 x1 x2 x3 x4 x5 t0 M) := by
  unfold f_Md_tries_b105
  refine V_istore C0 6 [(6, .int t0), (0, .ref (G.2 + 208)), (1, .int x1), (2, .int x2), (3, .int x3), (4, .int x4), (5, .int x5)] (by decide) rfl dX7_tries_105 ?_
  refine V_iconst C0 dX7_tries_107 ic_0 ?_
  refine V_istore C0 7 [(7, .int 0), (6, .int t0), (0, .ref (G.2 + 208)), (1, .int x1), (2, .int x2), (3, .int x3), (4, .int x4), (5, .int x5)] (by decide) rfl dX7_tries_108 ?_
  exact V_sub [2, 3, 4, 5, 6, 7, 1, 0] rfl (f_Md_tries_b110_ok C0 k52 hk52 FU x1 x2 x3 x4 x5 t0 0 M)
set_option maxRecDepth 100000 in
set_option maxHeartbeats 4000000 in
theorem f_Md_tries_b52_ok {X : XT} {G : GT} (C0 : Cx X G cX7_tries 11 RX7 (some .int)) : ∀ (n : Nat) (x1 : Int32) (x2 : Int32) (x3 : Int32) (M : Mem), V X G 0 vI 11 52 [(0, .ref (G.2 + 208)), (1, .int x1), (2, .int x2), (3, .int x3)] [] M (f_Md_tries_b52 n x1 x2 x3 M) := by
  intro n
  induction n with
  | zero =>
    intros
    exact V_none
  | succ n ih =>
    intro x1 x2 x3 M
    rw [f_Md_tries_b52]
    refine V_iload_n C0 3 rfl 3 rfl dX7_tries_52 ?_
    refine V_iflt C0 321 dX7_tries_53 (by decide) (fun _ => ?_) (fun _ => ?_)
    · refine V_iload_n C0 2 rfl 2 rfl dX7_tries_321 ?_
      exact V_iret C0 dX7_tries_322
    · refine V_iload_n C0 2 rfl 2 rfl dX7_tries_56 ?_
      refine V_bipush C0 dX7_tries_57 bp_10 ?_
      refine V_icmpgt C0 321 dX7_tries_59 (by decide) (fun _ => ?_) (fun _ => ?_)
      · refine V_iload_n C0 2 rfl 2 rfl dX7_tries_321 ?_
        exact V_iret C0 dX7_tries_322
      · refine V_aload_n C0 0 rfl 0 rfl dX7_tries_62 ?_
        refine g7_31 C0 dX7_tries_63 ?_
        refine V_bipush C0 dX7_tries_66 bp_90 ?_
        refine V_iload_n C0 1 rfl 1 rfl dX7_tries_68 ?_
        refine V_imul C0 dX7_tries_69 ?_
        refine V_iload_n C0 3 rfl 3 rfl dX7_tries_70 ?_
        refine V_iadd C0 dX7_tries_71 ?_
        refine V_iald C0 540 s216 n216 dX7_tries_72 ?_
        refine V_bi (fun y1 => ?_)
        refine V_istore C0 4 [(4, .int y1), (0, .ref (G.2 + 208)), (1, .int x1), (2, .int x2), (3, .int x3)] (by decide) rfl dX7_tries_73 ?_
        refine V_iload_n C0 3 rfl 4 rfl dX7_tries_75 ?_
        refine V_iconst C0 dX7_tries_76 ic_1 ?_
        refine V_iadd C0 dX7_tries_77 ?_
        refine V_bi (fun y2 => ?_)
        refine V_istore C0 5 [(5, .int y2), (4, .int y1), (0, .ref (G.2 + 208)), (1, .int x1), (2, .int x2), (3, .int x3)] (by decide) rfl dX7_tries_78 ?_
        refine V_iload C0 4 1 rfl dX7_tries_80 ?_
        refine V_iconst C0 dX7_tries_82 ic_3 ?_
        refine V_icmple C0 104 dX7_tries_83 (by decide) (fun _ => ?_) (fun _ => ?_)
        · refine V_iconst C0 dX7_tries_104 ic_0 ?_
          exact V_sub [2, 3, 4, 5, 1, 0] rfl (f_Md_tries_b105_ok C0 (f_Md_tries_b52 n) ih x1 x2 x3 y1 y2 0 M)
        · refine V_iload C0 5 0 rfl dX7_tries_86 ?_
          refine V_aload_n C0 0 rfl 2 rfl dX7_tries_88 ?_
          refine g7_37 C0 dX7_tries_89 ?_
          refine V_bipush C0 dX7_tries_92 bp_90 ?_
          refine V_iload_n C0 1 rfl 3 rfl dX7_tries_94 ?_
          refine V_imul C0 dX7_tries_95 ?_
          refine V_iload C0 5 0 rfl dX7_tries_96 ?_
          refine V_iadd C0 dX7_tries_98 ?_
          refine V_iald C0 540 s218 n218 dX7_tries_99 ?_
          refine V_iadd C0 dX7_tries_100 ?_
          refine V_goto C0 105 dX7_tries_101 (by decide) ?_
          exact V_sub [2, 3, 4, 5, 1, 0] rfl (f_Md_tries_b105_ok C0 (f_Md_tries_b52 n) ih x1 x2 x3 y1 y2 (y2 + (M.1 218 (ix ((90 * x1) + y2)))) M)
set_option maxRecDepth 100000 in
set_option maxHeartbeats 4000000 in
theorem f_Md_tries_b4_ok {X : XT} {G : GT} (C0 : Cx X G cX7_tries 11 RX7 (some .int)) : ∀ (n : Nat) (x1 : Int32) (x2 : Int32) (x3 : Int32) (M : Mem), V X G 0 vI 11 4 [(0, .ref (G.2 + 208)), (1, .int x1), (2, .int x2), (3, .int x3)] [] M (f_Md_tries_b4 n x1 x2 x3 M) := by
  intro n
  induction n with
  | zero =>
    intros
    exact V_none
  | succ n ih =>
    intro x1 x2 x3 M
    rw [f_Md_tries_b4]
    refine V_iload_n C0 3 rfl 3 rfl dX7_tries_4 ?_
    refine V_aload_n C0 0 rfl 0 rfl dX7_tries_5 ?_
    refine g7_49 C0 dX7_tries_6 ?_
    refine V_iload_n C0 1 rfl 1 rfl dX7_tries_9 ?_
    refine V_iald C0 6 s222 n222 dX7_tries_10 ?_
    refine V_icmpge C0 43 dX7_tries_11 (by decide) (fun _ => ?_) (fun _ => ?_)
    · refine V_aload_n C0 0 rfl 0 rfl dX7_tries_43 ?_
      refine g7_49 C0 dX7_tries_44 ?_
      refine V_iload_n C0 1 rfl 1 rfl dX7_tries_47 ?_
      refine V_iald C0 6 s222 n222 dX7_tries_48 ?_
      refine V_iconst C0 dX7_tries_49 ic_1 ?_
      refine V_isub C0 dX7_tries_50 ?_
      refine V_bi (fun y1 => ?_)
      refine V_istore_n C0 3 [(3, .int y1), (0, .ref (G.2 + 208)), (1, .int x1), (2, .int x2)] rfl (by decide) rfl dX7_tries_51 ?_
      exact V_sub [1, 2, 3, 0] rfl (f_Md_tries_b52_ok C0 FU x1 x2 y1 M)
    · refine V_iload_n C0 2 rfl 2 rfl dX7_tries_14 ?_
      refine V_aload_n C0 0 rfl 0 rfl dX7_tries_15 ?_
      refine g7_31 C0 dX7_tries_16 ?_
      refine V_bipush C0 dX7_tries_19 bp_90 ?_
      refine V_iload_n C0 1 rfl 1 rfl dX7_tries_21 ?_
      refine V_imul C0 dX7_tries_22 ?_
      refine V_iload_n C0 3 rfl 3 rfl dX7_tries_23 ?_
      refine V_iadd C0 dX7_tries_24 ?_
      refine V_iald C0 540 s216 n216 dX7_tries_25 ?_
      refine V_iconst C0 dX7_tries_26 ic_3 ?_
      refine V_icmple C0 34 dX7_tries_27 (by decide) (fun _ => ?_) (fun _ => ?_)
      · refine V_iconst C0 dX7_tries_34 ic_0 ?_
        refine V_iadd C0 dX7_tries_35 ?_
        refine V_bi (fun y2 => ?_)
        refine V_istore_n C0 2 [(2, .int y2), (0, .ref (G.2 + 208)), (1, .int x1), (3, .int x3)] rfl (by decide) rfl dX7_tries_36 ?_
        refine V_iincB C0 3 3 (fun y3 => [(3, .int y3), (2, .int y2), (0, .ref (G.2 + 208)), (1, .int x1)]) rfl ic_1 (by decide) (fun _ => rfl) dX7_tries_37 (fun y3 => ?_)
        refine V_goto C0 4 dX7_tries_40 (by decide) ?_
        exact V_sub [2, 3, 1, 0] rfl (ih x1 y2 y3 M)
      · refine V_iconst C0 dX7_tries_30 ic_1 ?_
        refine V_goto C0 35 dX7_tries_31 (by decide) ?_
        refine V_iadd C0 dX7_tries_35 ?_
        refine V_bi (fun y4 => ?_)
        refine V_istore_n C0 2 [(2, .int y4), (0, .ref (G.2 + 208)), (1, .int x1), (3, .int x3)] rfl (by decide) rfl dX7_tries_36 ?_
        refine V_iincB C0 3 3 (fun y5 => [(3, .int y5), (2, .int y4), (0, .ref (G.2 + 208)), (1, .int x1)]) rfl ic_1 (by decide) (fun _ => rfl) dX7_tries_37 (fun y5 => ?_)
        refine V_goto C0 4 dX7_tries_40 (by decide) ?_
        exact V_sub [2, 3, 1, 0] rfl (ih x1 y4 y5 M)
set_option maxRecDepth 100000 in
set_option maxHeartbeats 4000000 in
theorem mc_f_Md_tries {G : GT} (l : Launch) (x1 : Int32) (M : Mem) (r : Int32) (M1 : Mem) (ho : f_Md_tries x1 M = some (r, M1)) : MC l G yX7_tries cX7_tries 11 (some .int) 0 [.ref (G.2 + 208), .int x1] M (vI r) M1 :=
  MC.ofV (own := RX7) (lv := [(0, .ref (G.2 + 208)), (1, .int x1)]) (by decide +kernel) rfl rfl (Nat.le_of_ble_eq_true rfl) ho (fun X hX C0 => by
    unfold f_Md_tries
    refine V_iconst C0 dX7_tries_0 ic_0 ?_
    refine V_istore_n C0 2 [(2, .int 0), (0, .ref (G.2 + 208)), (1, .int x1)] rfl (by decide) rfl dX7_tries_1 ?_
    refine V_iconst C0 dX7_tries_2 ic_0 ?_
    refine V_istore_n C0 3 [(3, .int 0), (2, .int 0), (0, .ref (G.2 + 208)), (1, .int x1)] rfl (by decide) rfl dX7_tries_3 ?_
    exact V_sub [2, 3, 1, 0] rfl (f_Md_tries_b4_ok C0 FU x1 0 0 M))
set_option maxRecDepth 100000 in
set_option maxHeartbeats 4000000 in
theorem mc_f_Md_proved {G : GT} (l : Launch) (x1 : Int32) (M : Mem) (r : Int32) (M1 : Mem) (ho : f_Md_proved x1 M = some (r, M1)) : MC l G yX7_proved cX7_proved 2 (some .int) 4 [.ref (G.2 + 208), .int x1] M (vI r) M1 :=
  MC.ofV (own := RX7) (lv := [(0, .ref (G.2 + 208)), (1, .int x1)]) (by decide +kernel) rfl rfl (Nat.le_of_ble_eq_true rfl) ho (fun X hX C0 => by
    unfold f_Md_proved
    refine V_aload_n C0 0 rfl 0 rfl dX7_proved_0 ?_
    refine V_iload_n C0 1 rfl 1 rfl dX7_proved_1 ?_
    refine k7_156 C0 (by decide) (fun lq rq Mq hh => mc_f_Md_isFormula lq x1 M rq Mq  hh) (Nat.le_of_ble_eq_true rfl) dX7_proved_2 (fun r1 M1 => ?_)
    refine V_ifne C0 11 dX7_proved_5 (by decide) (fun _ => ?_) (fun _ => ?_)
    · refine V_aload_n C0 0 rfl 0 rfl dX7_proved_11 ?_
      refine k7_164 C0 (by decide) (fun lq rq Mq hh => mc_f_Md_lays lq  M1 rq Mq  hh) (Nat.le_of_ble_eq_true rfl) dX7_proved_12 (fun _ M2 => ?_)
      refine V_aload_n C0 0 rfl 0 rfl dX7_proved_15 ?_
      refine V_iload_n C0 1 rfl 1 rfl dX7_proved_16 ?_
      refine k7_240 C0 (by decide) (fun lq rq Mq hh => mc_f_Md_tries lq x1 M2 rq Mq  hh) (Nat.le_of_ble_eq_true rfl) dX7_proved_17 (fun r3 M3 => ?_)
      refine V_bipush C0 dX7_proved_20 bp_10 ?_
      refine V_icmple C0 30 dX7_proved_22 (by decide) (fun _ => ?_) (fun _ => ?_)
      · refine V_aload_n C0 0 rfl 0 rfl dX7_proved_30 ?_
        refine k7_243 C0 (by decide) (fun lq rq Mq hh => mc_f_Md_fewest lq  M3 rq Mq  hh) (Nat.le_of_ble_eq_true rfl) dX7_proved_31 (fun r4 M4 => ?_)
        exact V_iret C0 dX7_proved_34
      · refine V_ldc C0 wk7_87 dX7_proved_25 ?_
        refine V_goto C0 34 dX7_proved_27 (by decide) ?_
        exact V_iret C0 dX7_proved_34
    · refine V_ldc C0 wk7_79 dX7_proved_8 ?_
      exact V_iret C0 dX7_proved_10)
