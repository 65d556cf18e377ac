set_option maxRecDepth 100000 in
set_option maxHeartbeats 4000000 in
theorem f_Reader_readSheet_b94_ok {X : XT} {G : GT} (C0 : Cx X G cX3_readSheet 2 RX3 (some .boolean)) (x1 : Int32) (M : Mem) : V X G 303 vI 2 94 [(0, .ref (G.2 + 1)), (1, .int x1)] [] M (f_Reader_readSheet_b94 x1 M) := by
  unfold f_Reader_readSheet_b94
  refine V_aload_n C0 0 rfl 0 rfl dX3_readSheet_94 ?_
  refine g3_18 C0 dX3_readSheet_95 ?_
  refine V_iload_n C0 1 rfl 1 rfl dX3_readSheet_98 ?_
  refine V_iconst C0 dX3_readSheet_99 ic_1 ?_
  refine V_iadd C0 dX3_readSheet_100 ?_
  refine p3_50 C0 s3 dX3_readSheet_101 (fun M1 => ?_)
  refine V_aload_n C0 0 rfl 0 rfl dX3_readSheet_104 ?_
  refine V_aload_n C0 0 rfl 0 rfl dX3_readSheet_105 ?_
  refine g3_18 C0 dX3_readSheet_106 ?_
  refine g3_33 C0 s3 dX3_readSheet_109 ?_
  refine V_iload_n C0 1 rfl 1 rfl dX3_readSheet_112 ?_
  refine V_aaldF C0 6 s4 rfl dX3_readSheet_113 (fun q2 => ?_)
  refine V_iload_n C0 1 rfl 1 rfl dX3_readSheet_114 ?_
  refine V_iconst C0 dX3_readSheet_115 ic_0 ?_
  refine k3_46 C0 (by decide) (fun lq rq Mq hh => mc_f_Reader_readSum (f_Reader_readNested 60) (3 + 4 * 60) (by decide) (mc_f_Reader_readNested 60) lq (6 + 3 * ix x1) x1 0 M1 rq Mq q2 hh) (Nat.le_of_ble_eq_true rfl) dX3_readSheet_116 (fun r3 M3 => ?_)
  refine V_ifeq C0 133 dX3_readSheet_119 (by decide) (fun _ => ?_) (fun _ => ?_)
  · refine V_iconst C0 dX3_readSheet_133 ic_0 ?_
    exact V_zret C0 dX3_readSheet_134
  · refine V_aload_n C0 0 rfl 0 rfl dX3_readSheet_122 ?_
    refine k3_29 C0 (by decide) (fun lq rq Mq hh => mc_f_Reader_sign lq  M3 rq Mq  hh) (Nat.le_of_ble_eq_true rfl) dX3_readSheet_123 (fun r4 M4 => ?_)
    refine V_ifne C0 133 dX3_readSheet_126 (by decide) (fun _ => ?_) (fun _ => ?_)
    · refine V_iconst C0 dX3_readSheet_133 ic_0 ?_
      exact V_zret C0 dX3_readSheet_134
    · refine V_iconst C0 dX3_readSheet_129 ic_1 ?_
      refine V_goto C0 134 dX3_readSheet_130 (by decide) ?_
      exact V_zret C0 dX3_readSheet_134
set_option maxRecDepth 100000 in
set_option maxHeartbeats 4000000 in
theorem f_Reader_readSheet_b34_ok {X : XT} {G : GT} (C0 : Cx X G cX3_readSheet 2 RX3 (some .boolean)) : ∀ (n : Nat) (x1 : Int32) (M : Mem), V X G 303 vI 2 34 [(0, .ref (G.2 + 1)), (1, .int x1)] [] M (f_Reader_readSheet_b34 n x1 M) := by
  intro n
  induction n with
  | zero =>
    intros
    exact V_none
  | succ n ih =>
    intro x1 M
    rw [f_Reader_readSheet_b34]
    refine V_iload_n C0 1 rfl 1 rfl dX3_readSheet_34 ?_
    refine V_iconst C0 dX3_readSheet_35 ic_5 ?_
    refine V_icmpge C0 94 dX3_readSheet_36 (by decide) (fun _ => ?_) (fun _ => ?_)
    · exact V_sub [0, 1] rfl (f_Reader_readSheet_b94_ok C0 x1 M)
    · refine V_aload_n C0 0 rfl 0 rfl dX3_readSheet_39 ?_
      refine V_bipush C0 dX3_readSheet_40 bp_65 ?_
      refine V_iload_n C0 1 rfl 1 rfl dX3_readSheet_42 ?_
      refine V_iadd C0 dX3_readSheet_43 ?_
      refine k3_42 C0 (by decide) (fun lq rq Mq hh => mc_f_Reader_pass lq (65 + x1) M rq Mq  hh) (Nat.le_of_ble_eq_true rfl) dX3_readSheet_44 (fun r1 M1 => ?_)
      refine V_ifeq C0 94 dX3_readSheet_47 (by decide) (fun _ => ?_) (fun _ => ?_)
      · exact V_sub [0, 1] rfl (f_Reader_readSheet_b94_ok C0 x1 M1)
      · refine V_aload_n C0 0 rfl 0 rfl dX3_readSheet_50 ?_
        refine V_bipush C0 dX3_readSheet_51 bp_61 ?_
        refine k3_42 C0 (by decide) (fun lq rq Mq hh => mc_f_Reader_pass lq 61 M1 rq Mq  hh) (Nat.le_of_ble_eq_true rfl) dX3_readSheet_53 (fun r2 M2 => ?_)
        refine V_ifeq C0 86 dX3_readSheet_56 (by decide) (fun _ => ?_) (fun _ => ?_)
        · refine V_iconst C0 dX3_readSheet_86 ic_0 ?_
          exact V_zret C0 dX3_readSheet_87
        · refine V_aload_n C0 0 rfl 0 rfl dX3_readSheet_59 ?_
          refine V_aload_n C0 0 rfl 0 rfl dX3_readSheet_60 ?_
          refine g3_18 C0 dX3_readSheet_61 ?_
          refine g3_33 C0 s3 dX3_readSheet_64 ?_
          refine V_iload_n C0 1 rfl 1 rfl dX3_readSheet_67 ?_
          refine V_aaldF C0 6 s4 rfl dX3_readSheet_68 (fun q3 => ?_)
          refine V_iload_n C0 1 rfl 1 rfl dX3_readSheet_69 ?_
          refine V_iconst C0 dX3_readSheet_70 ic_0 ?_
          refine k3_46 C0 (by decide) (fun lq rq Mq hh => mc_f_Reader_readSum (f_Reader_readNested 60) (3 + 4 * 60) (by decide) (mc_f_Reader_readNested 60) lq (6 + 3 * ix x1) x1 0 M2 rq Mq q3 hh) (Nat.le_of_ble_eq_true rfl) dX3_readSheet_71 (fun r4 M4 => ?_)
          refine V_ifeq C0 86 dX3_readSheet_74 (by decide) (fun _ => ?_) (fun _ => ?_)
          · refine V_iconst C0 dX3_readSheet_86 ic_0 ?_
            exact V_zret C0 dX3_readSheet_87
          · refine V_aload_n C0 0 rfl 0 rfl dX3_readSheet_77 ?_
            refine V_bipush C0 dX3_readSheet_78 bp_59 ?_
            refine k3_42 C0 (by decide) (fun lq rq Mq hh => mc_f_Reader_pass lq 59 M4 rq Mq  hh) (Nat.le_of_ble_eq_true rfl) dX3_readSheet_80 (fun r5 M5 => ?_)
            refine V_ifne C0 88 dX3_readSheet_83 (by decide) (fun _ => ?_) (fun _ => ?_)
            · refine V_iincB C0 1 1 (fun y6 => [(1, .int y6), (0, .ref (G.2 + 1))]) rfl ic_1 (by decide) (fun _ => rfl) dX3_readSheet_88 (fun y6 => ?_)
              refine V_goto C0 34 dX3_readSheet_91 (by decide) ?_
              exact V_sub [1, 0] rfl (ih y6 M5)
            · refine V_iconst C0 dX3_readSheet_86 ic_0 ?_
              exact V_zret C0 dX3_readSheet_87
set_option maxRecDepth 100000 in
set_option maxHeartbeats 4000000 in
theorem f_Reader_readSheet_b7_ok {X : XT} {G : GT} (C0 : Cx X G cX3_readSheet 2 RX3 (some .boolean)) : ∀ (n : Nat) (x1 : Int32) (M : Mem), V X G 303 vI 2 7 [(0, .ref (G.2 + 1)), (1, .int x1)] [] M (f_Reader_readSheet_b7 n x1 M) := by
  intro n
  induction n with
  | zero =>
    intros
    exact V_none
  | succ n ih =>
    intro x1 M
    rw [f_Reader_readSheet_b7]
    refine V_iload_n C0 1 rfl 1 rfl dX3_readSheet_7 ?_
    refine V_bipush C0 dX3_readSheet_8 bp_6 ?_
    refine V_icmpge C0 32 dX3_readSheet_10 (by decide) (fun _ => ?_) (fun _ => ?_)
    · refine V_iconst C0 dX3_readSheet_32 ic_0 ?_
      refine V_istore_n C0 1 [(1, .int 0), (0, .ref (G.2 + 1))] rfl (by decide) rfl dX3_readSheet_33 ?_
      exact V_sub [1, 0] rfl (f_Reader_readSheet_b34_ok C0 FU 0 M)
    · refine V_aload_n C0 0 rfl 0 rfl dX3_readSheet_13 ?_
      refine g3_18 C0 dX3_readSheet_14 ?_
      refine g3_33 C0 s3 dX3_readSheet_17 ?_
      refine V_iload_n C0 1 rfl 1 rfl dX3_readSheet_20 ?_
      refine V_aaldF C0 6 s4 rfl dX3_readSheet_21 (fun q1 => ?_)
      refine V_iconst C0 dX3_readSheet_22 ic_0 ?_
      refine p3_37 C0 q1 dX3_readSheet_23 (fun M2 => ?_)
      refine V_iincB C0 1 1 (fun y3 => [(1, .int y3), (0, .ref (G.2 + 1))]) rfl ic_1 (by decide) (fun _ => rfl) dX3_readSheet_26 (fun y3 => ?_)
      refine V_goto C0 7 dX3_readSheet_29 (by decide) ?_
      exact V_sub [1, 0] rfl (ih y3 M2)
set_option maxRecDepth 100000 in
set_option maxHeartbeats 4000000 in
theorem mc_f_Reader_readSheet {G : GT} (l : Launch) (M : Mem) (r : Int32) (M1 : Mem) (ho : f_Reader_readSheet  M = some (r, M1)) : MC l G yX3_readSheet cX3_readSheet 2 (some .boolean) 303 [.ref (G.2 + 1)] M (vI r) M1 :=
  MC.ofV (own := RX3) (lv := [(0, .ref (G.2 + 1))]) (by decide +kernel) rfl rfl (Nat.le_of_ble_eq_true rfl) ho (fun X hX C0 => by
    unfold f_Reader_readSheet
    refine V_aload_n C0 0 rfl 0 rfl dX3_readSheet_0 ?_
    refine V_iconst C0 dX3_readSheet_1 ic_0 ?_
    refine p3_26 C0 dX3_readSheet_2 (fun M1 => ?_)
    refine V_iconst C0 dX3_readSheet_5 ic_0 ?_
    refine V_istore_n C0 1 [(1, .int 0), (0, .ref (G.2 + 1))] rfl (by decide) rfl dX3_readSheet_6 ?_
    exact V_sub [1, 0] rfl (f_Reader_readSheet_b7_ok C0 FU 0 M1))
set_option maxRecDepth 100000 in
set_option maxHeartbeats 4000000 in
theorem mc_f_Reader_take {G : GT} (l : Launch) (x1 : Int32) (M : Mem) (r : Int32) (M1 : Mem) (ho : f_Reader_take x1 M = some (r, M1)) : MC l G yX3_take cX3_take 2 (some .boolean) 0 [.ref (G.2 + 1), .int x1] M (vI r) M1 :=
  MC.ofV (own := RX3) (lv := [(0, .ref (G.2 + 1)), (1, .int x1)]) (by decide +kernel) rfl rfl (Nat.le_of_ble_eq_true rfl) ho (fun X hX C0 => by
    unfold f_Reader_take
    refine V_aload_n C0 0 rfl 0 rfl dX3_take_0 ?_
    refine g3_22 C0 dX3_take_1 ?_
    refine V_iflt C0 19 dX3_take_4 (by decide) (fun _ => ?_) (fun _ => ?_)
    · refine V_iconst C0 dX3_take_19 ic_0 ?_
      exact V_zret C0 dX3_take_20
    · refine V_aload_n C0 0 rfl 0 rfl dX3_take_7 ?_
      refine g3_22 C0 dX3_take_8 ?_
      refine V_aload_n C0 0 rfl 0 rfl dX3_take_11 ?_
      refine g3_9 C0 dX3_take_12 ?_
      refine V_alenI C0 100 s2 m2 dX3_take_15 ?_
      refine V_icmplt C0 21 dX3_take_16 (by decide) (fun _ => ?_) (fun _ => ?_)
      · refine V_aload_n C0 0 rfl 0 rfl dX3_take_21 ?_
        refine g3_9 C0 dX3_take_22 ?_
        refine V_aload_n C0 0 rfl 0 rfl dX3_take_25 ?_
        refine g3_22 C0 dX3_take_26 ?_
        refine V_iload_n C0 1 rfl 1 rfl dX3_take_29 ?_
        refine V_iast C0 100 s2 n2 dX3_take_30 (fun M1 => ?_)
        refine V_aload_n C0 0 rfl 0 rfl dX3_take_31 ?_
        refine V_dup C0 rfl dX3_take_32 ?_
        refine g3_22 C0 dX3_take_33 ?_
        refine V_iconst C0 dX3_take_36 ic_1 ?_
        refine V_iadd C0 dX3_take_37 ?_
        refine p3_22 C0 dX3_take_38 (fun M2 => ?_)
        refine V_iconst C0 dX3_take_41 ic_1 ?_
        exact V_zret C0 dX3_take_42
      · refine V_iconst C0 dX3_take_19 ic_0 ?_
        exact V_zret C0 dX3_take_20)
set_option maxRecDepth 100000 in
set_option maxHeartbeats 4000000 in
theorem f_Sheet_copyFormulas_b10_ok {X : XT} {G : GT} (C0 : Cx X G cX4_copyFormulas 3 RX4 none) : ∀ (n : Nat) (a0 : Nat) (a1 : Nat) (x2 : Int32) (M : Mem), (sh a0).1 = 4 → (sh a1).1 = 4 → V X G 4 vU 3 10 [(0, .ref (G.2 + a0)), (1, .ref (G.2 + a1)), (2, .int x2)] [] M (f_Sheet_copyFormulas_b10 n a0 a1 x2 M) := by
  intro n
  induction n with
  | zero =>
    intros
    exact V_none
  | succ n ih =>
    intro a0 a1 x2 M h_a0 h_a1
    rw [f_Sheet_copyFormulas_b10]
    refine V_iload_n C0 2 rfl 2 rfl dX4_copyFormulas_10 ?_
    refine V_aload_n C0 0 rfl 0 rfl dX4_copyFormulas_11 ?_
    refine g4_17 C0 h_a0 dX4_copyFormulas_12 ?_
    refine V_icmpge C0 45 dX4_copyFormulas_15 (by decide) (fun _ => ?_) (fun _ => ?_)
    · exact V_vret C0 dX4_copyFormulas_45
    · refine V_iload_n C0 2 rfl 2 rfl dX4_copyFormulas_18 ?_
      refine V_bipush C0 dX4_copyFormulas_19 bp_6 ?_
      refine V_icmpge C0 45 dX4_copyFormulas_21 (by decide) (fun _ => ?_) (fun _ => ?_)
      · exact V_vret C0 dX4_copyFormulas_45
      · refine V_aload_n C0 0 rfl 0 rfl dX4_copyFormulas_24 ?_
        refine g4_11 C0 h_a0 dX4_copyFormulas_25 ?_
        refine V_iload_n C0 2 rfl 2 rfl dX4_copyFormulas_28 ?_
        refine V_aaldF C0 (a0 + 3) (tS0 h_a0) rfl dX4_copyFormulas_29 (fun q1 => ?_)
        refine V_aload_n C0 1 rfl 1 rfl dX4_copyFormulas_30 ?_
        refine g4_11 C0 h_a1 dX4_copyFormulas_31 ?_
        refine V_iload_n C0 2 rfl 2 rfl dX4_copyFormulas_34 ?_
        refine V_aaldF C0 (a1 + 3) (tS0 h_a1) rfl dX4_copyFormulas_35 (fun q2 => ?_)
        refine k4_31 C0 q1 (by decide) (fun lq rq Mq hh => mc_f_Form_copy lq ((a0 + 3) + 3 * ix x2) ((a1 + 3) + 3 * ix x2) M rq Mq q1 q2 hh) (Nat.le_of_ble_eq_true rfl) dX4_copyFormulas_36 (fun _ M3 => ?_)
        refine V_iincB C0 2 2 (fun y4 => [(2, .int y4), (0, .ref (G.2 + a0)), (1, .ref (G.2 + a1))]) rfl ic_1 (by decide) (fun _ => rfl) dX4_copyFormulas_39 (fun y4 => ?_)
        refine V_goto C0 10 dX4_copyFormulas_42 (by decide) ?_
        exact V_sub [1, 2, 0] rfl (ih a0 a1 y4 M3 h_a0 h_a1)
set_option maxRecDepth 100000 in
set_option maxHeartbeats 4000000 in
theorem mc_f_Sheet_copyFormulas {G : GT} (l : Launch) (a0 : Nat) (a1 : Nat) (M : Mem) (r : Unit) (M1 : Mem) (h_a0 : (sh a0).1 = 4) (h_a1 : (sh a1).1 = 4) (ho : f_Sheet_copyFormulas a0 a1 M = some (r, M1)) : MC l G yX4_copyFormulas cX4_copyFormulas 3 none 4 [.ref (G.2 + a0), .ref (G.2 + a1)] M (vU r) M1 :=
  MC.ofV (own := RX4) (lv := [(0, .ref (G.2 + a0)), (1, .ref (G.2 + a1))]) (by decide +kernel) rfl rfl (Nat.le_of_ble_eq_true rfl) ho (fun X hX C0 => by
    unfold f_Sheet_copyFormulas
    refine V_aload_n C0 0 rfl 0 rfl dX4_copyFormulas_0 ?_
    refine V_aload_n C0 1 rfl 1 rfl dX4_copyFormulas_1 ?_
    refine g4_17 C0 h_a1 dX4_copyFormulas_2 ?_
    refine p4_17 C0 h_a0 dX4_copyFormulas_5 (fun M1 => ?_)
    refine V_iconst C0 dX4_copyFormulas_8 ic_0 ?_
    refine V_istore_n C0 2 [(2, .int 0), (0, .ref (G.2 + a0)), (1, .ref (G.2 + a1))] rfl (by decide) rfl dX4_copyFormulas_9 ?_
    exact V_sub [1, 2, 0] rfl (f_Sheet_copyFormulas_b10_ok C0 FU a0 a1 0 M1 h_a0 h_a1))
set_option maxRecDepth 100000 in
set_option maxHeartbeats 4000000 in
theorem mc_f_Sheet_copyState {G : GT} (l : Launch) (a0 : Nat) (a1 : Nat) (M : Mem) (r : Unit) (M1 : Mem) (h_a0 : (sh a0).1 = 4) (h_a1 : (sh a1).1 = 4) (ho : f_Sheet_copyState a0 a1 M = some (r, M1)) : MC l G yX4_copyState cX4_copyState 2 none 5 [.ref (G.2 + a0), .ref (G.2 + a1)] M (vU r) M1 :=
  MC.ofV (own := RX4) (lv := [(0, .ref (G.2 + a0)), (1, .ref (G.2 + a1))]) (by decide +kernel) rfl rfl (Nat.le_of_ble_eq_true rfl) ho (fun X hX C0 => by
    unfold f_Sheet_copyState
    refine V_aload_n C0 0 rfl 0 rfl dX4_copyState_0 ?_
    refine V_aload_n C0 1 rfl 1 rfl dX4_copyState_1 ?_
    refine k4_35 C0 h_a0 (by decide) (fun lq rq Mq hh => mc_f_Sheet_copyFormulas lq a0 a1 M rq Mq h_a0 h_a1 hh) (Nat.le_of_ble_eq_true rfl) dX4_copyState_2 (fun _ M1 => ?_)
    refine V_aload_n C0 1 rfl 1 rfl dX4_copyState_5 ?_
    refine g4_21 C0 h_a1 dX4_copyState_6 ?_
    refine V_iconst C0 dX4_copyState_9 ic_0 ?_
    refine V_aload_n C0 0 rfl 0 rfl dX4_copyState_10 ?_
    refine g4_21 C0 h_a0 dX4_copyState_11 ?_
    refine V_iconst C0 dX4_copyState_14 ic_0 ?_
    refine V_bipush C0 dX4_copyState_15 bp_8 ?_
    refine V_copy C0 8 8 wm4_39 wnM_copy wsM_copy w0System (tS2 h_a1) (tS2 h_a0) (nS2 h_a1) (nS2 h_a0) (by decide) (Nat.le_of_ble_eq_true rfl) dX4_copyState_17 (fun M2 => ?_)
    refine V_aload_n C0 0 rfl 0 rfl dX4_copyState_20 ?_
    refine V_aload_n C0 1 rfl 1 rfl dX4_copyState_21 ?_
    refine g4_25 C0 h_a1 dX4_copyState_22 ?_
    refine p4_25 C0 h_a0 dX4_copyState_25 (fun M3 => ?_)
    exact V_vret C0 dX4_copyState_28)
set_option maxRecDepth 100000 in
set_option maxHeartbeats 4000000 in
theorem mc_f_Trial_waysFor {G : GT} (l : Launch) (a1 : Nat) (x2 : Int32) (M : Mem) (r : Int32) (M1 : Mem) (h_a1 : (sh a1).1 = 0) (ho : f_Trial_waysFor a1 x2 M = some (r, M1)) : MC l G yX5_waysFor cX5_waysFor 8 (some .int) 3 [.ref (G.2 + 52), .ref (G.2 + a1), .int x2] M (vI r) M1 :=
  MC.ofV (own := RX5) (lv := [(0, .ref (G.2 + 52)), (1, .ref (G.2 + a1)), (2, .int x2)]) (by decide +kernel) rfl rfl (Nat.le_of_ble_eq_true rfl) ho (fun X hX C0 => by
    unfold f_Trial_waysFor
    refine V_iload_n C0 2 rfl 2 rfl dX5_waysFor_0 ?_
    refine V_iconst C0 dX5_waysFor_1 ic_1 ?_
    refine V_iadd C0 dX5_waysFor_2 ?_
    refine V_bi (fun y1 => ?_)
    refine V_istore_n C0 3 [(3, .int y1), (0, .ref (G.2 + 52)), (1, .ref (G.2 + a1)), (2, .int x2)] rfl (by decide) rfl dX5_waysFor_3 ?_
    refine V_aload_n C0 1 rfl 2 rfl dX5_waysFor_4 ?_
    refine g5_28 C0 h_a1 dX5_waysFor_5 ?_
    refine V_iload_n C0 2 rfl 3 rfl dX5_waysFor_8 ?_
    refine k5_49 C0 (tE1 h_a1) (by decide) (fun lq rq Mq hh => mc_f_Form_kindOf lq (a1 + 1) x2 M rq Mq (tE1 h_a1) hh) (Nat.le_of_ble_eq_true rfl) dX5_waysFor_9 (fun r2 M2 => ?_)
    refine k5_53 C0 (by decide) (fun lq rq Mq hh => mc_f_LP_partsOf lq r2 M2 rq Mq  hh) (Nat.le_of_ble_eq_true rfl) dX5_waysFor_12 (fun r3 M3 => ?_)
    refine V_istore C0 4 [(4, .int r3), (3, .int y1), (0, .ref (G.2 + 52)), (1, .ref (G.2 + a1)), (2, .int x2)] (by decide) rfl dX5_waysFor_15 ?_
    refine V_iload C0 4 0 rfl dX5_waysFor_17 ?_
    refine V_ifne C0 24 dX5_waysFor_19 (by decide) (fun _ => ?_) (fun _ => ?_)
    · refine V_iload C0 4 0 rfl dX5_waysFor_24 ?_
      refine V_iconst C0 dX5_waysFor_26 ic_1 ?_
      refine V_icmpne C0 39 dX5_waysFor_27 (by decide) (fun _ => ?_) (fun _ => ?_)
      · refine V_aload_n C0 1 rfl 3 rfl dX5_waysFor_39 ?_
        refine V_iload_n C0 2 rfl 4 rfl dX5_waysFor_40 ?_
        refine k5_60 C0 h_a1 (by decide) (fun lq rq Mq hh => mc_f_Expanded_rightOf lq a1 x2 M3 rq Mq h_a1 hh) (Nat.le_of_ble_eq_true rfl) dX5_waysFor_41 (fun r4 M4 => ?_)
        refine V_istore C0 5 [(5, .int r4), (4, .int r3), (3, .int y1), (0, .ref (G.2 + 52)), (1, .ref (G.2 + a1)), (2, .int x2)] (by decide) rfl dX5_waysFor_44 ?_
        refine V_aload_n C0 0 rfl 3 rfl dX5_waysFor_46 ?_
        refine g5_9 C0 dX5_waysFor_47 ?_
        refine V_iload_n C0 3 rfl 2 rfl dX5_waysFor_50 ?_
        refine k5_56 C0 (by decide) (fun lq rq Mq hh => mc_f_Expanded_entry lq 53 y1 M4 rq Mq s53 hh) (Nat.le_of_ble_eq_true rfl) dX5_waysFor_51 (fun r5 M5 => ?_)
        refine V_aload_n C0 0 rfl 3 rfl dX5_waysFor_54 ?_
        refine g5_15 C0 dX5_waysFor_55 ?_
        refine V_iload C0 5 0 rfl dX5_waysFor_58 ?_
        refine k5_56 C0 (by decide) (fun lq rq Mq hh => mc_f_Expanded_entry lq 54 r4 M5 rq Mq s54 hh) (Nat.le_of_ble_eq_true rfl) dX5_waysFor_60 (fun r6 M6 => ?_)
        refine V_imul C0 dX5_waysFor_63 ?_
        refine V_bi (fun y7 => ?_)
        refine V_istore C0 6 [(6, .int y7), (5, .int r4), (4, .int r3), (3, .int y1), (0, .ref (G.2 + 52)), (1, .ref (G.2 + a1)), (2, .int x2)] (by decide) rfl dX5_waysFor_64 ?_
        refine V_aload_n C0 0 rfl 4 rfl dX5_waysFor_66 ?_
        refine g5_9 C0 dX5_waysFor_67 ?_
        refine V_iload C0 5 1 rfl dX5_waysFor_70 ?_
        refine k5_56 C0 (by decide) (fun lq rq Mq hh => mc_f_Expanded_entry lq 53 r4 M6 rq Mq s53 hh) (Nat.le_of_ble_eq_true rfl) dX5_waysFor_72 (fun r8 M8 => ?_)
        refine V_aload_n C0 0 rfl 4 rfl dX5_waysFor_75 ?_
        refine g5_15 C0 dX5_waysFor_76 ?_
        refine V_iload_n C0 3 rfl 3 rfl dX5_waysFor_79 ?_
        refine k5_56 C0 (by decide) (fun lq rq Mq hh => mc_f_Expanded_entry lq 54 y1 M8 rq Mq s54 hh) (Nat.le_of_ble_eq_true rfl) dX5_waysFor_80 (fun r9 M9 => ?_)
        refine V_imul C0 dX5_waysFor_83 ?_
        refine V_bi (fun y10 => ?_)
        refine V_istore C0 7 [(7, .int y10), (6, .int y7), (5, .int r4), (4, .int r3), (3, .int y1), (0, .ref (G.2 + 52)), (1, .ref (G.2 + a1)), (2, .int x2)] (by decide) rfl dX5_waysFor_84 ?_
        refine V_iload C0 6 1 rfl dX5_waysFor_86 ?_
        refine V_iload C0 7 0 rfl dX5_waysFor_88 ?_
        refine V_iadd C0 dX5_waysFor_90 ?_
        exact V_iret C0 dX5_waysFor_91
      · refine V_aload_n C0 0 rfl 2 rfl dX5_waysFor_30 ?_
        refine g5_9 C0 dX5_waysFor_31 ?_
        refine V_iload_n C0 3 rfl 1 rfl dX5_waysFor_34 ?_
        refine k5_56 C0 (by decide) (fun lq rq Mq hh => mc_f_Expanded_entry lq 53 y1 M3 rq Mq s53 hh) (Nat.le_of_ble_eq_true rfl) dX5_waysFor_35 (fun r11 M11 => ?_)
        exact V_iret C0 dX5_waysFor_38
    · refine V_iconst C0 dX5_waysFor_22 ic_1 ?_
      exact V_iret C0 dX5_waysFor_23)
set_option maxRecDepth 100000 in
set_option maxHeartbeats 4000000 in
theorem f_Trial_tryOrders_b84_ok {X : XT} {G : GT} (C0 : Cx X G cX5_tryOrders 3 RX5 none) (k26 : Nat → Mem → Option (Unit × Mem)) (hk26 : ∀ (a1 : Nat) (M : Mem), (sh a1).1 = 0 → V X G 4 vU 3 26 [(0, .ref (G.2 + 52)), (1, .ref (G.2 + a1))] [] M (k26 a1 M)) : ∀ (n : Nat) (a1 : Nat) (x2 : Int32) (M : Mem), (sh a1).1 = 0 → V X G 4 vU 3 84 [(0, .ref (G.2 + 52)), (1, .ref (G.2 + a1)), (2, .int x2)] [] M (f_Trial_tryOrders_b84 k26 n a1 x2 M) := by
  intro n
  induction n with
  | zero =>
    intros
    exact V_none
  | succ n ih =>
    intro a1 x2 M h_a1
    rw [f_Trial_tryOrders_b84]
    refine V_iload_n C0 2 rfl 2 rfl dX5_tryOrders_84 ?_
    refine V_iflt C0 106 dX5_tryOrders_85 (by decide) (fun _ => ?_) (fun _ => ?_)
    · refine V_goto C0 26 dX5_tryOrders_106 (by decide) ?_
      exact V_sub [0, 1] rfl (hk26 a1 M h_a1)
    · refine V_aload_n C0 0 rfl 0 rfl dX5_tryOrders_88 ?_
      refine g5_9 C0 dX5_tryOrders_89 ?_
      refine V_iload_n C0 2 rfl 2 rfl dX5_tryOrders_92 ?_
      refine V_aload_n C0 0 rfl 0 rfl dX5_tryOrders_93 ?_
      refine V_aload_n C0 1 rfl 1 rfl dX5_tryOrders_94 ?_
      refine V_iload_n C0 2 rfl 2 rfl dX5_tryOrders_95 ?_
      refine k5_45 C0 (by decide) (fun lq rq Mq hh => mc_f_Trial_waysFor lq a1 x2 M rq Mq h_a1 hh) (Nat.le_of_ble_eq_true rfl) dX5_tryOrders_96 (fun r1 M1 => ?_)
      refine V_iast C0 60 s53 n53 dX5_tryOrders_99 (fun M2 => ?_)
      refine V_iincB C0 2 2 (fun y3 => [(2, .int y3), (0, .ref (G.2 + 52)), (1, .ref (G.2 + a1))]) rfl ic_m1 (by decide) (fun _ => rfl) dX5_tryOrders_100 (fun y3 => ?_)
      refine V_goto C0 84 dX5_tryOrders_103 (by decide) ?_
      exact V_sub [1, 2, 0] rfl (ih a1 y3 M2 h_a1)
set_option maxRecDepth 100000 in
set_option maxHeartbeats 4000000 in
theorem f_Trial_tryOrders_b26_ok {X : XT} {G : GT} (C0 : Cx X G cX5_tryOrders 3 RX5 none) : ∀ (n : Nat) (a1 : Nat) (M : Mem), (sh a1).1 = 0 → V X G 4 vU 3 26 [(0, .ref (G.2 + 52)), (1, .ref (G.2 + a1))] [] M (f_Trial_tryOrders_b26 n a1 M) := by
  intro n
  induction n with
  | zero =>
    intros
    exact V_none
  | succ n ih =>
    intro a1 M h_a1
    rw [f_Trial_tryOrders_b26]
    refine V_aload_n C0 0 rfl 0 rfl dX5_tryOrders_26 ?_
    refine g5_18 C0 dX5_tryOrders_27 ?_
    refine V_bipush C0 dX5_tryOrders_30 bp_10 ?_
    refine V_icmpgt C0 109 dX5_tryOrders_32 (by decide) (fun _ => ?_) (fun _ => ?_)
    · exact V_vret C0 dX5_tryOrders_109
    · refine V_aload_n C0 0 rfl 0 rfl dX5_tryOrders_35 ?_
      refine g5_9 C0 dX5_tryOrders_36 ?_
      refine V_iconst C0 dX5_tryOrders_39 ic_0 ?_
      refine V_iald C0 60 s53 n53 dX5_tryOrders_40 ?_
      refine V_ifne C0 109 dX5_tryOrders_41 (by decide) (fun _ => ?_) (fun _ => ?_)
      · exact V_vret C0 dX5_tryOrders_109
      · refine V_aload_n C0 0 rfl 0 rfl dX5_tryOrders_44 ?_
        refine V_dup C0 rfl dX5_tryOrders_45 ?_
        refine g5_18 C0 dX5_tryOrders_46 ?_
        refine V_iconst C0 dX5_tryOrders_49 ic_1 ?_
        refine V_iadd C0 dX5_tryOrders_50 ?_
        refine p5_18 C0 dX5_tryOrders_51 (fun M1 => ?_)
        refine V_aload_n C0 0 rfl 0 rfl dX5_tryOrders_54 ?_
        refine g5_9 C0 dX5_tryOrders_55 ?_
        refine V_iconst C0 dX5_tryOrders_58 ic_0 ?_
        refine V_aload_n C0 0 rfl 0 rfl dX5_tryOrders_59 ?_
        refine g5_15 C0 dX5_tryOrders_60 ?_
        refine V_iconst C0 dX5_tryOrders_63 ic_0 ?_
        refine V_bipush C0 dX5_tryOrders_64 bp_60 ?_
        refine V_copy C0 60 60 wm5_22 wnM_copy wsM_copy w0System s53 s54 n53 n54 (by decide) (Nat.le_of_ble_eq_true rfl) dX5_tryOrders_66 (fun M2 => ?_)
        refine V_aload_n C0 1 rfl 1 rfl dX5_tryOrders_69 ?_
        refine g5_28 C0 h_a1 dX5_tryOrders_70 ?_
        refine g5_34 C0 (tE1 h_a1) dX5_tryOrders_73 ?_
        refine V_bipush C0 dX5_tryOrders_76 bp_60 ?_
        refine V_mmin C0 wm5_39 wsM_min w0Math wcM_min (by decide) (Nat.le_of_ble_eq_true rfl) dX5_tryOrders_78 ?_
        refine V_iconst C0 dX5_tryOrders_81 ic_1 ?_
        refine V_isub C0 dX5_tryOrders_82 ?_
        refine V_bi (fun y3 => ?_)
        refine V_istore_n C0 2 [(2, .int y3), (0, .ref (G.2 + 52)), (1, .ref (G.2 + a1))] rfl (by decide) rfl dX5_tryOrders_83 ?_
        exact V_sub [1, 2, 0] rfl (f_Trial_tryOrders_b84_ok C0 (f_Trial_tryOrders_b26 n) ih FU a1 y3 M2 h_a1)
set_option maxRecDepth 100000 in
set_option maxHeartbeats 4000000 in
theorem f_Trial_tryOrders_b7_ok {X : XT} {G : GT} (C0 : Cx X G cX5_tryOrders 3 RX5 none) : ∀ (n : Nat) (a1 : Nat) (x2 : Int32) (M : Mem), (sh a1).1 = 0 → V X G 4 vU 3 7 [(0, .ref (G.2 + 52)), (1, .ref (G.2 + a1)), (2, .int x2)] [] M (f_Trial_tryOrders_b7 n a1 x2 M) := by
  intro n
  induction n with
  | zero =>
    intros
    exact V_none
  | succ n ih =>
    intro a1 x2 M h_a1
    rw [f_Trial_tryOrders_b7]
    refine V_iload_n C0 2 rfl 2 rfl dX5_tryOrders_7 ?_
    refine V_bipush C0 dX5_tryOrders_8 bp_60 ?_
    refine V_icmpge C0 26 dX5_tryOrders_10 (by decide) (fun _ => ?_) (fun _ => ?_)
    · exact V_sub [0, 1] rfl (f_Trial_tryOrders_b26_ok C0 FU a1 M h_a1)
    · refine V_aload_n C0 0 rfl 0 rfl dX5_tryOrders_13 ?_
      refine g5_9 C0 dX5_tryOrders_14 ?_
      refine V_iload_n C0 2 rfl 2 rfl dX5_tryOrders_17 ?_
      refine V_iconst C0 dX5_tryOrders_18 ic_0 ?_
      refine V_iast C0 60 s53 n53 dX5_tryOrders_19 (fun M1 => ?_)
      refine V_iincB C0 2 2 (fun y2 => [(2, .int y2), (0, .ref (G.2 + 52)), (1, .ref (G.2 + a1))]) rfl ic_1 (by decide) (fun _ => rfl) dX5_tryOrders_20 (fun y2 => ?_)
      refine V_goto C0 7 dX5_tryOrders_23 (by decide) ?_
      exact V_sub [1, 2, 0] rfl (ih a1 y2 M1 h_a1)
set_option maxRecDepth 100000 in
set_option maxHeartbeats 4000000 in
theorem mc_f_Trial_tryOrders {G : GT} (l : Launch) (a1 : Nat) (M : Mem) (r : Unit) (M1 : Mem) (h_a1 : (sh a1).1 = 0) (ho : f_Trial_tryOrders a1 M = some (r, M1)) : MC l G yX5_tryOrders cX5_tryOrders 3 none 4 [.ref (G.2 + 52), .ref (G.2 + a1)] M (vU r) M1 :=
  MC.ofV (own := RX5) (lv := [(0, .ref (G.2 + 52)), (1, .ref (G.2 + a1))]) (by decide +kernel) rfl rfl (Nat.le_of_ble_eq_true rfl) ho (fun X hX C0 => by
    unfold f_Trial_tryOrders
    refine V_aload_n C0 0 rfl 0 rfl dX5_tryOrders_0 ?_
    refine V_iconst C0 dX5_tryOrders_1 ic_0 ?_
    refine p5_18 C0 dX5_tryOrders_2 (fun M1 => ?_)
    refine V_iconst C0 dX5_tryOrders_5 ic_0 ?_
    refine V_istore_n C0 2 [(2, .int 0), (0, .ref (G.2 + 52)), (1, .ref (G.2 + a1))] rfl (by decide) rfl dX5_tryOrders_6 ?_
    exact V_sub [1, 2, 0] rfl (f_Trial_tryOrders_b7_ok C0 FU a1 0 M1 h_a1))
