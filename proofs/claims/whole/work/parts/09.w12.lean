set_option maxRecDepth 100000 in
set_option maxHeartbeats 4000000 in
theorem f_Md_reads_b141_ok {X : XT} {G : GT} (C0 : Cx X G cX7_reads 2 RX7 (some .boolean)) (M : Mem) : V X G 5 vI 2 141 [(0, .ref (G.2 + 208))] [] M (f_Md_reads_b141  M) := by
  unfold f_Md_reads_b141
  refine V_aload_n C0 0 rfl 0 rfl dX7_reads_141 ?_
  refine k7_143 C0 (by decide) (fun lq rq Mq hh => mc_f_Md_formulaRead lq  M rq Mq  hh) (Nat.le_of_ble_eq_true rfl) dX7_reads_142 (fun r1 M1 => ?_)
  refine V_istore_n C0 1 [(1, .int r1), (0, .ref (G.2 + 208))] rfl (by decide) rfl dX7_reads_145 ?_
  refine V_aload_n C0 0 rfl 1 rfl dX7_reads_146 ?_
  refine g7_19 C0 dX7_reads_147 ?_
  refine V_iconst C0 dX7_reads_150 ic_0 ?_
  refine V_aload_n C0 0 rfl 1 rfl dX7_reads_151 ?_
  refine g7_88 C0 dX7_reads_152 ?_
  refine V_iconst C0 dX7_reads_155 ic_1 ?_
  refine V_iadd C0 dX7_reads_156 ?_
  refine V_iast C0 376 s212 n212 dX7_reads_157 (fun M2 => ?_)
  refine V_iload_n C0 1 rfl 0 rfl dX7_reads_158 ?_
  refine V_ifeq C0 177 dX7_reads_159 (by decide) (fun _ => ?_) (fun _ => ?_)
  · refine V_iconst C0 dX7_reads_177 ic_0 ?_
    exact V_zret C0 dX7_reads_178
  · refine V_aload_n C0 0 rfl 1 rfl dX7_reads_162 ?_
    refine g7_84 C0 dX7_reads_163 ?_
    refine V_aload_n C0 0 rfl 1 rfl dX7_reads_166 ?_
    refine g7_80 C0 dX7_reads_167 ?_
    refine V_icmpne C0 177 dX7_reads_170 (by decide) (fun _ => ?_) (fun _ => ?_)
    · refine V_iconst C0 dX7_reads_177 ic_0 ?_
      exact V_zret C0 dX7_reads_178
    · refine V_iconst C0 dX7_reads_173 ic_1 ?_
      refine V_goto C0 178 dX7_reads_174 (by decide) ?_
      exact V_zret C0 dX7_reads_178
set_option maxRecDepth 100000 in
set_option maxHeartbeats 4000000 in
theorem f_Md_reads_b47_ok {X : XT} {G : GT} (C0 : Cx X G cX7_reads 2 RX7 (some .boolean)) : ∀ (n : Nat) (M : Mem), V X G 5 vI 2 47 [(0, .ref (G.2 + 208))] [] M (f_Md_reads_b47 n  M) := by
  intro n
  induction n with
  | zero =>
    intros
    exact V_none
  | succ n ih =>
    intro M
    rw [f_Md_reads_b47]
    refine V_aload_n C0 0 rfl 0 rfl dX7_reads_47 ?_
    refine g7_88 C0 dX7_reads_48 ?_
    refine V_iconst C0 dX7_reads_51 ic_5 ?_
    refine V_icmpge C0 141 dX7_reads_52 (by decide) (fun _ => ?_) (fun _ => ?_)
    · exact V_sub [0] rfl (f_Md_reads_b141_ok C0 M)
    · refine V_aload_n C0 0 rfl 0 rfl dX7_reads_55 ?_
      refine k7_118 C0 (by decide) (fun lq rq Mq hh => mc_f_Md_here lq  M rq Mq  hh) (Nat.le_of_ble_eq_true rfl) dX7_reads_56 (fun r1 M1 => ?_)
      refine V_bipush C0 dX7_reads_59 bp_65 ?_
      refine V_aload_n C0 0 rfl 0 rfl dX7_reads_61 ?_
      refine g7_88 C0 dX7_reads_62 ?_
      refine V_iadd C0 dX7_reads_65 ?_
      refine V_icmpne C0 141 dX7_reads_66 (by decide) (fun _ => ?_) (fun _ => ?_)
      · exact V_sub [0] rfl (f_Md_reads_b141_ok C0 M1)
      · refine V_aload_n C0 0 rfl 0 rfl dX7_reads_69 ?_
        refine V_dup C0 rfl dX7_reads_70 ?_
        refine g7_84 C0 dX7_reads_71 ?_
        refine V_iconst C0 dX7_reads_74 ic_1 ?_
        refine V_iadd C0 dX7_reads_75 ?_
        refine p7_84 C0 dX7_reads_76 (fun M2 => ?_)
        refine V_aload_n C0 0 rfl 0 rfl dX7_reads_79 ?_
        refine k7_118 C0 (by decide) (fun lq rq Mq hh => mc_f_Md_here lq  M2 rq Mq  hh) (Nat.le_of_ble_eq_true rfl) dX7_reads_80 (fun r3 M3 => ?_)
        refine V_bipush C0 dX7_reads_83 bp_61 ?_
        refine V_icmpeq C0 90 dX7_reads_85 (by decide) (fun _ => ?_) (fun _ => ?_)
        · refine V_aload_n C0 0 rfl 0 rfl dX7_reads_90 ?_
          refine V_dup C0 rfl dX7_reads_91 ?_
          refine g7_84 C0 dX7_reads_92 ?_
          refine V_iconst C0 dX7_reads_95 ic_1 ?_
          refine V_iadd C0 dX7_reads_96 ?_
          refine p7_84 C0 dX7_reads_97 (fun M4 => ?_)
          refine V_aload_n C0 0 rfl 0 rfl dX7_reads_100 ?_
          refine k7_143 C0 (by decide) (fun lq rq Mq hh => mc_f_Md_formulaRead lq  M4 rq Mq  hh) (Nat.le_of_ble_eq_true rfl) dX7_reads_101 (fun r5 M5 => ?_)
          refine V_ifeq C0 116 dX7_reads_104 (by decide) (fun _ => ?_) (fun _ => ?_)
          · refine V_iconst C0 dX7_reads_116 ic_0 ?_
            exact V_zret C0 dX7_reads_117
          · refine V_aload_n C0 0 rfl 0 rfl dX7_reads_107 ?_
            refine k7_118 C0 (by decide) (fun lq rq Mq hh => mc_f_Md_here lq  M5 rq Mq  hh) (Nat.le_of_ble_eq_true rfl) dX7_reads_108 (fun r6 M6 => ?_)
            refine V_bipush C0 dX7_reads_111 bp_59 ?_
            refine V_icmpeq C0 118 dX7_reads_113 (by decide) (fun _ => ?_) (fun _ => ?_)
            · refine V_aload_n C0 0 rfl 0 rfl dX7_reads_118 ?_
              refine V_dup C0 rfl dX7_reads_119 ?_
              refine g7_84 C0 dX7_reads_120 ?_
              refine V_iconst C0 dX7_reads_123 ic_1 ?_
              refine V_iadd C0 dX7_reads_124 ?_
              refine p7_84 C0 dX7_reads_125 (fun M7 => ?_)
              refine V_aload_n C0 0 rfl 0 rfl dX7_reads_128 ?_
              refine V_dup C0 rfl dX7_reads_129 ?_
              refine g7_88 C0 dX7_reads_130 ?_
              refine V_iconst C0 dX7_reads_133 ic_1 ?_
              refine V_iadd C0 dX7_reads_134 ?_
              refine p7_88 C0 dX7_reads_135 (fun M8 => ?_)
              refine V_goto C0 47 dX7_reads_138 (by decide) ?_
              exact V_sub [0] rfl (ih M8)
            · refine V_iconst C0 dX7_reads_116 ic_0 ?_
              exact V_zret C0 dX7_reads_117
        · refine V_iconst C0 dX7_reads_88 ic_0 ?_
          exact V_zret C0 dX7_reads_89
set_option maxRecDepth 100000 in
set_option maxHeartbeats 4000000 in
theorem f_Md_reads_b12_ok {X : XT} {G : GT} (C0 : Cx X G cX7_reads 2 RX7 (some .boolean)) : ∀ (n : Nat) (x1 : Int32) (M : Mem), V X G 5 vI 2 12 [(0, .ref (G.2 + 208)), (1, .int x1)] [] M (f_Md_reads_b12 n x1 M) := by
  intro n
  induction n with
  | zero =>
    intros
    exact V_none
  | succ n ih =>
    intro x1 M
    rw [f_Md_reads_b12]
    refine V_iload_n C0 1 rfl 1 rfl dX7_reads_12 ?_
    refine V_sipush C0 dX7_reads_13 sp_376 ?_
    refine V_icmpge C0 47 dX7_reads_16 (by decide) (fun _ => ?_) (fun _ => ?_)
    · exact V_sub [0] rfl (f_Md_reads_b47_ok C0 FU M)
    · refine V_aload_n C0 0 rfl 0 rfl dX7_reads_19 ?_
      refine g7_19 C0 dX7_reads_20 ?_
      refine V_iload_n C0 1 rfl 1 rfl dX7_reads_23 ?_
      refine V_iload_n C0 1 rfl 1 rfl dX7_reads_24 ?_
      refine V_bipush C0 dX7_reads_25 bp_10 ?_
      refine V_icmplt C0 34 dX7_reads_27 (by decide) (fun _ => ?_) (fun _ => ?_)
      · refine V_aload_n C0 0 rfl 0 rfl dX7_reads_34 ?_
        refine g7_7 C0 dX7_reads_35 ?_
        refine V_iload_n C0 1 rfl 1 rfl dX7_reads_38 ?_
        refine V_iald C0 376 s209 n209 dX7_reads_39 ?_
        refine V_iast C0 376 s212 n212 dX7_reads_40 (fun M1 => ?_)
        refine V_iincB C0 1 1 (fun y2 => [(1, .int y2), (0, .ref (G.2 + 208))]) rfl ic_1 (by decide) (fun _ => rfl) dX7_reads_41 (fun y2 => ?_)
        refine V_goto C0 12 dX7_reads_44 (by decide) ?_
        exact V_sub [1, 0] rfl (ih y2 M1)
      · refine V_iconst C0 dX7_reads_30 ic_0 ?_
        refine V_goto C0 40 dX7_reads_31 (by decide) ?_
        refine V_iast C0 376 s212 n212 dX7_reads_40 (fun M3 => ?_)
        refine V_iincB C0 1 1 (fun y4 => [(1, .int y4), (0, .ref (G.2 + 208))]) rfl ic_1 (by decide) (fun _ => rfl) dX7_reads_41 (fun y4 => ?_)
        refine V_goto C0 12 dX7_reads_44 (by decide) ?_
        exact V_sub [1, 0] rfl (ih y4 M3)
set_option maxRecDepth 100000 in
set_option maxHeartbeats 4000000 in
theorem mc_f_Md_reads {G : GT} (l : Launch) (M : Mem) (r : Int32) (M1 : Mem) (ho : f_Md_reads  M = some (r, M1)) : MC l G yX7_reads cX7_reads 2 (some .boolean) 5 [.ref (G.2 + 208)] M (vI r) M1 :=
  MC.ofV (own := RX7) (lv := [(0, .ref (G.2 + 208))]) (by decide +kernel) rfl rfl (Nat.le_of_ble_eq_true rfl) ho (fun X hX C0 => by
    unfold f_Md_reads
    refine V_aload_n C0 0 rfl 0 rfl dX7_reads_0 ?_
    refine V_iconst C0 dX7_reads_1 ic_0 ?_
    refine p7_84 C0 dX7_reads_2 (fun M1 => ?_)
    refine V_aload_n C0 0 rfl 0 rfl dX7_reads_5 ?_
    refine V_iconst C0 dX7_reads_6 ic_0 ?_
    refine p7_88 C0 dX7_reads_7 (fun M2 => ?_)
    refine V_iconst C0 dX7_reads_10 ic_0 ?_
    refine V_istore_n C0 1 [(1, .int 0), (0, .ref (G.2 + 208))] rfl (by decide) rfl dX7_reads_11 ?_
    exact V_sub [1, 0] rfl (f_Md_reads_b12_ok C0 FU 0 M2))
set_option maxRecDepth 100000 in
set_option maxHeartbeats 4000000 in
theorem f_Md_read_b22_ok {X : XT} {G : GT} (C0 : Cx X G cX7_read 2 RX7 (some .int)) : ∀ (n : Nat) (x1 : Int32) (M : Mem), V X G 6 vI 2 22 [(0, .ref (G.2 + 208)), (1, .int x1)] [] M (f_Md_read_b22 n x1 M) := by
  intro n
  induction n with
  | zero =>
    intros
    exact V_none
  | succ n ih =>
    intro x1 M
    rw [f_Md_read_b22]
    refine V_iload_n C0 1 rfl 1 rfl dX7_read_22 ?_
    refine V_sipush C0 dX7_read_23 sp_376 ?_
    refine V_icmpge C0 47 dX7_read_26 (by decide) (fun _ => ?_) (fun _ => ?_)
    · refine V_aload_n C0 0 rfl 0 rfl dX7_read_47 ?_
      refine g7_7 C0 dX7_read_48 ?_
      refine V_iconst C0 dX7_read_51 ic_0 ?_
      refine V_iald C0 376 s209 n209 dX7_read_52 ?_
      exact V_iret C0 dX7_read_53
    · refine V_aload_n C0 0 rfl 0 rfl dX7_read_29 ?_
      refine g7_7 C0 dX7_read_30 ?_
      refine V_iload_n C0 1 rfl 1 rfl dX7_read_33 ?_
      refine V_aload_n C0 0 rfl 0 rfl dX7_read_34 ?_
      refine g7_19 C0 dX7_read_35 ?_
      refine V_iload_n C0 1 rfl 1 rfl dX7_read_38 ?_
      refine V_iald C0 376 s212 n212 dX7_read_39 ?_
      refine V_iast C0 376 s209 n209 dX7_read_40 (fun M1 => ?_)
      refine V_iincB C0 1 1 (fun y2 => [(1, .int y2), (0, .ref (G.2 + 208))]) rfl ic_1 (by decide) (fun _ => rfl) dX7_read_41 (fun y2 => ?_)
      refine V_goto C0 22 dX7_read_44 (by decide) ?_
      exact V_sub [1, 0] rfl (ih y2 M1)
set_option maxRecDepth 100000 in
set_option maxHeartbeats 4000000 in
theorem mc_f_Md_read {G : GT} (l : Launch) (M : Mem) (r : Int32) (M1 : Mem) (ho : f_Md_read  M = some (r, M1)) : MC l G yX7_read cX7_read 2 (some .int) 6 [.ref (G.2 + 208)] M (vI r) M1 :=
  MC.ofV (own := RX7) (lv := [(0, .ref (G.2 + 208))]) (by decide +kernel) rfl rfl (Nat.le_of_ble_eq_true rfl) ho (fun X hX C0 => by
    unfold f_Md_read
    refine V_aload_n C0 0 rfl 0 rfl dX7_read_0 ?_
    refine k7_146 C0 (by decide) (fun lq rq Mq hh => mc_f_Md_reads lq  M rq Mq  hh) (Nat.le_of_ble_eq_true rfl) dX7_read_1 (fun r1 M1 => ?_)
    refine V_ifne C0 16 dX7_read_4 (by decide) (fun _ => ?_) (fun _ => ?_)
    · refine V_aload_n C0 0 rfl 0 rfl dX7_read_16 ?_
      refine k7_149 C0 (by decide) (fun lq rq Mq hh => mc_f_Md_acts lq  M1 rq Mq  hh) (Nat.le_of_ble_eq_true rfl) dX7_read_17 (fun _ M2 => ?_)
      refine V_iconst C0 dX7_read_20 ic_0 ?_
      refine V_istore_n C0 1 [(1, .int 0), (0, .ref (G.2 + 208))] rfl (by decide) rfl dX7_read_21 ?_
      exact V_sub [1, 0] rfl (f_Md_read_b22_ok C0 FU 0 M2)
    · refine V_sipush C0 dX7_read_7 sp_m1000 ?_
      refine V_aload_n C0 0 rfl 0 rfl dX7_read_10 ?_
      refine g7_84 C0 dX7_read_11 ?_
      refine V_isub C0 dX7_read_14 ?_
      exact V_iret C0 dX7_read_15)
set_option maxRecDepth 100000 in
set_option maxHeartbeats 4000000 in
theorem mc_f_Md_setCell {G : GT} (l : Launch) (x1 : Int32) (x2 : Int32) (M : Mem) (r : Int32) (M1 : Mem) (ho : f_Md_setCell x1 x2 M = some (r, M1)) : MC l G yX7_setCell cX7_setCell 4 (some .int) 2 [.ref (G.2 + 208), .int x1, .int x2] M (vI r) M1 :=
  MC.ofV (own := RX7) (lv := [(0, .ref (G.2 + 208)), (1, .int x1), (2, .int x2)]) (by decide +kernel) rfl rfl (Nat.le_of_ble_eq_true rfl) ho (fun X hX C0 => by
    unfold f_Md_setCell
    refine V_iload_n C0 1 rfl 1 rfl dX7_setCell_0 ?_
    refine k7_167 C0 (by decide) (fun lq rq Mq hh => mc_f_Md_isCell lq x1 M rq Mq  hh) (Nat.le_of_ble_eq_true rfl) dX7_setCell_1 (fun r1 M1 => ?_)
    refine V_ifeq C0 20 dX7_setCell_4 (by decide) (fun _ => ?_) (fun _ => ?_)
    · refine V_ldc C0 wk7_79 dX7_setCell_20 ?_
      exact V_iret C0 dX7_setCell_22
    · refine V_iload_n C0 2 rfl 2 rfl dX7_setCell_7 ?_
      refine V_sipush C0 dX7_setCell_8 sp_m999 ?_
      refine V_sipush C0 dX7_setCell_11 sp_999 ?_
      refine k7_75 C0 (by decide) (fun lq rq Mq hh => mc_f_Md_in lq x2 (-999) 999 M1 rq Mq  hh) (Nat.le_of_ble_eq_true rfl) dX7_setCell_14 (fun r2 M2 => ?_)
      refine V_ifne C0 23 dX7_setCell_17 (by decide) (fun _ => ?_) (fun _ => ?_)
      · refine V_aload_n C0 0 rfl 0 rfl dX7_setCell_23 ?_
        refine k7_149 C0 (by decide) (fun lq rq Mq hh => mc_f_Md_acts lq  M2 rq Mq  hh) (Nat.le_of_ble_eq_true rfl) dX7_setCell_24 (fun _ M3 => ?_)
        refine V_aload_n C0 0 rfl 0 rfl dX7_setCell_27 ?_
        refine g7_7 C0 dX7_setCell_28 ?_
        refine V_iconst C0 dX7_setCell_31 ic_2 ?_
        refine V_iload_n C0 1 rfl 1 rfl dX7_setCell_32 ?_
        refine V_iadd C0 dX7_setCell_33 ?_
        refine V_iald C0 376 s209 n209 dX7_setCell_34 ?_
        refine V_bi (fun y4 => ?_)
        refine V_istore_n C0 3 [(3, .int y4), (0, .ref (G.2 + 208)), (1, .int x1), (2, .int x2)] rfl (by decide) rfl dX7_setCell_35 ?_
        refine V_aload_n C0 0 rfl 1 rfl dX7_setCell_36 ?_
        refine g7_7 C0 dX7_setCell_37 ?_
        refine V_iconst C0 dX7_setCell_40 ic_2 ?_
        refine V_iload_n C0 1 rfl 2 rfl dX7_setCell_41 ?_
        refine V_iadd C0 dX7_setCell_42 ?_
        refine V_iload_n C0 2 rfl 3 rfl dX7_setCell_43 ?_
        refine V_iast C0 376 s209 n209 dX7_setCell_44 (fun M5 => ?_)
        refine V_iload_n C0 3 rfl 0 rfl dX7_setCell_45 ?_
        exact V_iret C0 dX7_setCell_46
      · refine V_ldc C0 wk7_79 dX7_setCell_20 ?_
        exact V_iret C0 dX7_setCell_22)
set_option maxRecDepth 100000 in
set_option maxHeartbeats 4000000 in
theorem mc_f_Md_setPlaces {G : GT} (l : Launch) (x1 : Int32) (M : Mem) (r : Int32) (M1 : Mem) (ho : f_Md_setPlaces x1 M = some (r, M1)) : MC l G yX7_setPlaces cX7_setPlaces 3 (some .int) 1 [.ref (G.2 + 208), .int x1] M (vI r) M1 :=
  MC.ofV (own := RX7) (lv := [(0, .ref (G.2 + 208)), (1, .int x1)]) (by decide +kernel) rfl rfl (Nat.le_of_ble_eq_true rfl) ho (fun X hX C0 => by
    unfold f_Md_setPlaces
    refine V_iload_n C0 1 rfl 1 rfl dX7_setPlaces_0 ?_
    refine V_iconst C0 dX7_setPlaces_1 ic_2 ?_
    refine V_bipush C0 dX7_setPlaces_2 bp_8 ?_
    refine k7_75 C0 (by decide) (fun lq rq Mq hh => mc_f_Md_in lq x1 2 8 M rq Mq  hh) (Nat.le_of_ble_eq_true rfl) dX7_setPlaces_4 (fun r1 M1 => ?_)
    refine V_ifne C0 13 dX7_setPlaces_7 (by decide) (fun _ => ?_) (fun _ => ?_)
    · refine V_aload_n C0 0 rfl 0 rfl dX7_setPlaces_13 ?_
      refine k7_149 C0 (by decide) (fun lq rq Mq hh => mc_f_Md_acts lq  M1 rq Mq  hh) (Nat.le_of_ble_eq_true rfl) dX7_setPlaces_14 (fun _ M2 => ?_)
      refine V_aload_n C0 0 rfl 0 rfl dX7_setPlaces_17 ?_
      refine g7_7 C0 dX7_setPlaces_18 ?_
      refine V_iconst C0 dX7_setPlaces_21 ic_1 ?_
      refine V_iald C0 376 s209 n209 dX7_setPlaces_22 ?_
      refine V_bi (fun y3 => ?_)
      refine V_istore_n C0 2 [(2, .int y3), (0, .ref (G.2 + 208)), (1, .int x1)] rfl (by decide) rfl dX7_setPlaces_23 ?_
      refine V_aload_n C0 0 rfl 1 rfl dX7_setPlaces_24 ?_
      refine g7_7 C0 dX7_setPlaces_25 ?_
      refine V_iconst C0 dX7_setPlaces_28 ic_1 ?_
      refine V_iload_n C0 1 rfl 2 rfl dX7_setPlaces_29 ?_
      refine V_iast C0 376 s209 n209 dX7_setPlaces_30 (fun M4 => ?_)
      refine V_iload_n C0 2 rfl 0 rfl dX7_setPlaces_31 ?_
      exact V_iret C0 dX7_setPlaces_32
    · refine V_ldc C0 wk7_79 dX7_setPlaces_10 ?_
      exact V_iret C0 dX7_setPlaces_12)
set_option maxRecDepth 100000 in
set_option maxHeartbeats 4000000 in
theorem f_Md_sizeAt_b5_ok {X : XT} {G : GT} (C0 : Cx X G cX7_sizeAt 6 RX7 (some .int)) : ∀ (n : Nat) (x1 : Int32) (x2 : Int32) (x3 : Int32) (x4 : Int32) (M : Mem), V X G 1 vI 6 5 [(0, .ref (G.2 + 208)), (1, .int x1), (2, .int x2), (3, .int x3), (4, .int x4)] [] M (f_Md_sizeAt_b5 n x1 x2 x3 x4 M) := by
  intro n
  induction n with
  | zero =>
    intros
    exact V_none
  | succ n ih =>
    intro x1 x2 x3 x4 M
    rw [f_Md_sizeAt_b5]
    refine V_iload_n C0 3 rfl 3 rfl dX7_sizeAt_5 ?_
    refine V_ifle C0 48 dX7_sizeAt_6 (by decide) (fun _ => ?_) (fun _ => ?_)
    · refine V_iload C0 4 4 rfl dX7_sizeAt_48 ?_
      refine V_iload_n C0 2 rfl 2 rfl dX7_sizeAt_50 ?_
      refine V_isub C0 dX7_sizeAt_51 ?_
      exact V_iret C0 dX7_sizeAt_52
    · refine V_aload_n C0 0 rfl 0 rfl dX7_sizeAt_9 ?_
      refine V_iload_n C0 1 rfl 1 rfl dX7_sizeAt_10 ?_
      refine V_iload C0 4 4 rfl dX7_sizeAt_11 ?_
      refine k7_152 C0 (by decide) (fun lq rq Mq hh => mc_f_Md_kindAt lq x1 x4 M rq Mq  hh) (Nat.le_of_ble_eq_true rfl) dX7_sizeAt_13 (fun r1 M1 => ?_)
      refine V_istore C0 5 [(5, .int r1), (0, .ref (G.2 + 208)), (1, .int x1), (2, .int x2), (3, .int x3), (4, .int x4)] (by decide) rfl dX7_sizeAt_16 ?_
      refine V_iload_n C0 3 rfl 4 rfl dX7_sizeAt_18 ?_
      refine V_iload C0 5 0 rfl dX7_sizeAt_19 ?_
      refine V_iconst C0 dX7_sizeAt_21 ic_3 ?_
      refine V_icmpge C0 29 dX7_sizeAt_22 (by decide) (fun _ => ?_) (fun _ => ?_)
      · refine V_iload C0 5 0 rfl dX7_sizeAt_29 ?_
        refine V_iconst C0 dX7_sizeAt_31 ic_3 ?_
        refine V_icmpne C0 39 dX7_sizeAt_32 (by decide) (fun _ => ?_) (fun _ => ?_)
        · refine V_iconst C0 dX7_sizeAt_39 ic_1 ?_
          refine V_iadd C0 dX7_sizeAt_40 ?_
          refine V_bi (fun y2 => ?_)
          refine V_istore_n C0 3 [(3, .int y2), (5, .int r1), (0, .ref (G.2 + 208)), (1, .int x1), (2, .int x2), (4, .int x4)] rfl (by decide) rfl dX7_sizeAt_41 ?_
          refine V_iincB C0 4 5 (fun y3 => [(4, .int y3), (3, .int y2), (5, .int r1), (0, .ref (G.2 + 208)), (1, .int x1), (2, .int x2)]) rfl ic_1 (by decide) (fun _ => rfl) dX7_sizeAt_42 (fun y3 => ?_)
          refine V_goto C0 5 dX7_sizeAt_45 (by decide) ?_
          exact V_sub [3, 4, 5, 1, 0] rfl (ih x1 x2 y2 y3 M1)
        · refine V_iconst C0 dX7_sizeAt_35 ic_0 ?_
          refine V_goto C0 40 dX7_sizeAt_36 (by decide) ?_
          refine V_iadd C0 dX7_sizeAt_40 ?_
          refine V_bi (fun y4 => ?_)
          refine V_istore_n C0 3 [(3, .int y4), (5, .int r1), (0, .ref (G.2 + 208)), (1, .int x1), (2, .int x2), (4, .int x4)] rfl (by decide) rfl dX7_sizeAt_41 ?_
          refine V_iincB C0 4 5 (fun y5 => [(4, .int y5), (3, .int y4), (5, .int r1), (0, .ref (G.2 + 208)), (1, .int x1), (2, .int x2)]) rfl ic_1 (by decide) (fun _ => rfl) dX7_sizeAt_42 (fun y5 => ?_)
          refine V_goto C0 5 dX7_sizeAt_45 (by decide) ?_
          exact V_sub [3, 4, 5, 1, 0] rfl (ih x1 x2 y4 y5 M1)
      · refine V_iconst C0 dX7_sizeAt_25 ic_m1 ?_
        refine V_goto C0 40 dX7_sizeAt_26 (by decide) ?_
        refine V_iadd C0 dX7_sizeAt_40 ?_
        refine V_bi (fun y6 => ?_)
        refine V_istore_n C0 3 [(3, .int y6), (5, .int r1), (0, .ref (G.2 + 208)), (1, .int x1), (2, .int x2), (4, .int x4)] rfl (by decide) rfl dX7_sizeAt_41 ?_
        refine V_iincB C0 4 5 (fun y7 => [(4, .int y7), (3, .int y6), (5, .int r1), (0, .ref (G.2 + 208)), (1, .int x1), (2, .int x2)]) rfl ic_1 (by decide) (fun _ => rfl) dX7_sizeAt_42 (fun y7 => ?_)
        refine V_goto C0 5 dX7_sizeAt_45 (by decide) ?_
        exact V_sub [3, 4, 5, 1, 0] rfl (ih x1 x2 y6 y7 M1)
set_option maxRecDepth 100000 in
set_option maxHeartbeats 4000000 in
theorem mc_f_Md_sizeAt {G : GT} (l : Launch) (x1 : Int32) (x2 : Int32) (M : Mem) (r : Int32) (M1 : Mem) (ho : f_Md_sizeAt x1 x2 M = some (r, M1)) : MC l G yX7_sizeAt cX7_sizeAt 6 (some .int) 1 [.ref (G.2 + 208), .int x1, .int x2] M (vI r) M1 :=
  MC.ofV (own := RX7) (lv := [(0, .ref (G.2 + 208)), (1, .int x1), (2, .int x2)]) (by decide +kernel) rfl rfl (Nat.le_of_ble_eq_true rfl) ho (fun X hX C0 => by
    unfold f_Md_sizeAt
    refine V_iconst C0 dX7_sizeAt_0 ic_1 ?_
    refine V_istore_n C0 3 [(3, .int 1), (0, .ref (G.2 + 208)), (1, .int x1), (2, .int x2)] rfl (by decide) rfl dX7_sizeAt_1 ?_
    refine V_iload_n C0 2 rfl 3 rfl dX7_sizeAt_2 ?_
    refine V_istore C0 4 [(4, .int x2), (3, .int 1), (0, .ref (G.2 + 208)), (1, .int x1), (2, .int x2)] (by decide) rfl dX7_sizeAt_3 ?_
    exact V_sub [2, 3, 4, 1, 0] rfl (f_Md_sizeAt_b5_ok C0 FU x1 x2 1 x2 M))
set_option maxRecDepth 100000 in
set_option maxHeartbeats 4000000 in
theorem mc_f_Md_step {G : GT} (l : Launch) (x1 : Int32) (x2 : Int32) (M : Mem) (r : Int32) (M1 : Mem) (ho : f_Md_step x1 x2 M = some (r, M1)) : MC l G yX7_step cX7_step 3 (some .int) 5 [.ref (G.2 + 208), .int x1, .int x2] M (vI r) M1 :=
  MC.ofV (own := RX7) (lv := [(0, .ref (G.2 + 208)), (1, .int x1), (2, .int x2)]) (by decide +kernel) rfl rfl (Nat.le_of_ble_eq_true rfl) ho (fun X hX C0 => by
    unfold f_Md_step
    refine V_iload_n C0 1 rfl 1 rfl dX7_step_0 ?_
    refine V_iflt C0 13 dX7_step_1 (by decide) (fun _ => ?_) (fun _ => ?_)
    · refine V_ldc C0 wk7_79 dX7_step_13 ?_
      exact V_iret C0 dX7_step_15
    · refine V_iload_n C0 2 rfl 2 rfl dX7_step_4 ?_
      refine V_iconst C0 dX7_step_5 ic_0 ?_
      refine V_iconst C0 dX7_step_6 ic_3 ?_
      refine k7_75 C0 (by decide) (fun lq rq Mq hh => mc_f_Md_in lq x2 0 3 M rq Mq  hh) (Nat.le_of_ble_eq_true rfl) dX7_step_7 (fun r1 M1 => ?_)
      refine V_ifne C0 16 dX7_step_10 (by decide) (fun _ => ?_) (fun _ => ?_)
      · refine V_aload_n C0 0 rfl 0 rfl dX7_step_16 ?_
        refine V_aload_n C0 0 rfl 0 rfl dX7_step_17 ?_
        refine g7_7 C0 dX7_step_18 ?_
        refine V_iconst C0 dX7_step_21 ic_1 ?_
        refine V_iald C0 376 s209 n209 dX7_step_22 ?_
        refine V_iload_n C0 1 rfl 1 rfl dX7_step_23 ?_
        refine k7_237 C0 (by decide) (fun lq rq Mq hh => mc_f_Md_plans lq (M1.1 209 (ix 1)) x1 M1 rq Mq  hh) (Nat.le_of_ble_eq_true rfl) dX7_step_24 (fun _ M2 => ?_)
        refine V_iload_n C0 1 rfl 1 rfl dX7_step_27 ?_
        refine V_aload_n C0 0 rfl 0 rfl dX7_step_28 ?_
        refine g7_203 C0 dX7_step_29 ?_
        refine V_icmpge C0 44 dX7_step_32 (by decide) (fun _ => ?_) (fun _ => ?_)
        · refine V_ldc C0 wk7_87 dX7_step_44 ?_
          exact V_iret C0 dX7_step_46
        · refine V_aload_n C0 0 rfl 0 rfl dX7_step_35 ?_
          refine g7_56 C0 dX7_step_36 ?_
          refine V_iload_n C0 2 rfl 2 rfl dX7_step_39 ?_
          refine V_iald C0 4 s224 n224 dX7_step_40 ?_
          refine V_goto C0 46 dX7_step_41 (by decide) ?_
          exact V_iret C0 dX7_step_46
      · refine V_ldc C0 wk7_79 dX7_step_13 ?_
        exact V_iret C0 dX7_step_15)
set_option maxRecDepth 100000 in
set_option maxHeartbeats 4000000 in
theorem f_Md_turn_b158_ok {X : XT} {G : GT} (C0 : Cx X G cX7_turn 8 RX7 (some .int)) : ∀ (n : Nat) (x1 : Int32) (x2 : Int32) (x4 : Int32) (x5 : Int32) (x6 : Int32) (x7 : Int32) (M : Mem), V X G 4 vI 8 158 [(0, .ref (G.2 + 208)), (1, .int x1), (2, .int x2), (4, .int x4), (5, .int x5), (6, .int x6), (7, .int x7)] [] M (f_Md_turn_b158 n x1 x2 x4 x5 x6 x7 M) := by
  intro n
  induction n with
  | zero =>
    intros
    exact V_none
  | succ n ih =>
    intro x1 x2 x4 x5 x6 x7 M
    rw [f_Md_turn_b158]
    refine V_iload C0 7 6 rfl dX7_turn_158 ?_
    refine V_iconst C0 dX7_turn_160 ic_2 ?_
    refine V_iload C0 5 4 rfl dX7_turn_161 ?_
    refine V_iload C0 6 5 rfl dX7_turn_163 ?_
    refine V_iadd C0 dX7_turn_165 ?_
    refine V_imul C0 dX7_turn_166 ?_
    refine V_icmpge C0 199 dX7_turn_167 (by decide) (fun _ => ?_) (fun _ => ?_)
    · refine V_aload_n C0 0 rfl 0 rfl dX7_turn_199 ?_
      refine k7_164 C0 (by decide) (fun lq rq Mq hh => mc_f_Md_lays lq  M rq Mq  hh) (Nat.le_of_ble_eq_true rfl) dX7_turn_200 (fun _ M1 => ?_)
      refine V_aload_n C0 0 rfl 0 rfl dX7_turn_203 ?_
      refine g7_40 C0 dX7_turn_204 ?_
      refine V_bipush C0 dX7_turn_207 bp_90 ?_
      refine V_iload_n C0 1 rfl 1 rfl dX7_turn_209 ?_
      refine V_imul C0 dX7_turn_210 ?_
      refine V_iald C0 540 s219 n219 dX7_turn_211 ?_
      exact V_iret C0 dX7_turn_212
    · refine V_aload_n C0 0 rfl 0 rfl dX7_turn_170 ?_
      refine g7_7 C0 dX7_turn_171 ?_
      refine V_iload C0 4 3 rfl dX7_turn_174 ?_
      refine V_iconst C0 dX7_turn_176 ic_2 ?_
      refine V_iload_n C0 2 rfl 2 rfl dX7_turn_177 ?_
      refine V_imul C0 dX7_turn_178 ?_
      refine V_iadd C0 dX7_turn_179 ?_
      refine V_iconst C0 dX7_turn_180 ic_2 ?_
      refine V_iadd C0 dX7_turn_181 ?_
      refine V_iload C0 7 6 rfl dX7_turn_182 ?_
      refine V_iadd C0 dX7_turn_184 ?_
      refine V_aload_n C0 0 rfl 0 rfl dX7_turn_185 ?_
      refine g7_28 C0 dX7_turn_186 ?_
      refine V_iload C0 7 6 rfl dX7_turn_189 ?_
      refine V_iald C0 60 s215 n215 dX7_turn_191 ?_
      refine V_iast C0 376 s209 n209 dX7_turn_192 (fun M2 => ?_)
      refine V_iincB C0 7 6 (fun y3 => [(7, .int y3), (0, .ref (G.2 + 208)), (1, .int x1), (2, .int x2), (4, .int x4), (5, .int x5), (6, .int x6)]) rfl ic_1 (by decide) (fun _ => rfl) dX7_turn_193 (fun y3 => ?_)
      refine V_goto C0 158 dX7_turn_196 (by decide) ?_
      exact V_sub [1, 2, 3, 4, 5, 6, 0] rfl (ih x1 x2 x4 x5 x6 y3 M2)
set_option maxRecDepth 100000 in
set_option maxHeartbeats 4000000 in
theorem f_Md_turn_b90_ok {X : XT} {G : GT} (C0 : Cx X G cX7_turn 8 RX7 (some .int)) : ∀ (n : Nat) (x1 : Int32) (x2 : Int32) (x4 : Int32) (x5 : Int32) (x6 : Int32) (x7 : Int32) (M : Mem), V X G 4 vI 8 90 [(0, .ref (G.2 + 208)), (1, .int x1), (2, .int x2), (4, .int x4), (5, .int x5), (6, .int x6), (7, .int x7)] [] M (f_Md_turn_b90 n x1 x2 x4 x5 x6 x7 M) := by
  intro n
  induction n with
  | zero =>
    intros
    exact V_none
  | succ n ih =>
    intro x1 x2 x4 x5 x6 x7 M
    rw [f_Md_turn_b90]
    refine V_iload C0 7 6 rfl dX7_turn_90 ?_
    refine V_iconst C0 dX7_turn_92 ic_2 ?_
    refine V_iload C0 5 4 rfl dX7_turn_93 ?_
    refine V_iload C0 6 5 rfl dX7_turn_95 ?_
    refine V_iadd C0 dX7_turn_97 ?_
    refine V_imul C0 dX7_turn_98 ?_
    refine V_icmpge C0 155 dX7_turn_99 (by decide) (fun _ => ?_) (fun _ => ?_)
    · refine V_iconst C0 dX7_turn_155 ic_0 ?_
      refine V_istore C0 7 [(7, .int 0), (0, .ref (G.2 + 208)), (1, .int x1), (2, .int x2), (4, .int x4), (5, .int x5), (6, .int x6)] (by decide) rfl dX7_turn_156 ?_
      exact V_sub [1, 2, 3, 4, 5, 6, 0] rfl (f_Md_turn_b158_ok C0 FU x1 x2 x4 x5 x6 0 M)
    · refine V_aload_n C0 0 rfl 0 rfl dX7_turn_102 ?_
      refine g7_28 C0 dX7_turn_103 ?_
      refine V_iload C0 7 6 rfl dX7_turn_106 ?_
      refine V_aload_n C0 0 rfl 0 rfl dX7_turn_108 ?_
      refine g7_7 C0 dX7_turn_109 ?_
      refine V_iload C0 4 3 rfl dX7_turn_112 ?_
      refine V_iconst C0 dX7_turn_114 ic_2 ?_
      refine V_iload_n C0 2 rfl 2 rfl dX7_turn_115 ?_
      refine V_imul C0 dX7_turn_116 ?_
      refine V_iadd C0 dX7_turn_117 ?_
      refine V_iconst C0 dX7_turn_118 ic_2 ?_
      refine V_iadd C0 dX7_turn_119 ?_
      refine V_iload C0 7 6 rfl dX7_turn_120 ?_
      refine V_iconst C0 dX7_turn_122 ic_2 ?_
      refine V_iload C0 6 5 rfl dX7_turn_123 ?_
      refine V_imul C0 dX7_turn_125 ?_
      refine V_icmpge C0 139 dX7_turn_126 (by decide) (fun _ => ?_) (fun _ => ?_)
      · refine V_iload C0 7 6 rfl dX7_turn_139 ?_
        refine V_iconst C0 dX7_turn_141 ic_2 ?_
        refine V_iload C0 6 5 rfl dX7_turn_142 ?_
        refine V_imul C0 dX7_turn_144 ?_
        refine V_isub C0 dX7_turn_145 ?_
        refine V_iadd C0 dX7_turn_146 ?_
        refine V_iald C0 376 s209 n209 dX7_turn_147 ?_
        refine V_iast C0 60 s215 n215 dX7_turn_148 (fun M1 => ?_)
        refine V_iincB C0 7 6 (fun y2 => [(7, .int y2), (0, .ref (G.2 + 208)), (1, .int x1), (2, .int x2), (4, .int x4), (5, .int x5), (6, .int x6)]) rfl ic_1 (by decide) (fun _ => rfl) dX7_turn_149 (fun y2 => ?_)
        refine V_goto C0 90 dX7_turn_152 (by decide) ?_
        exact V_sub [1, 2, 3, 4, 5, 6, 0] rfl (ih x1 x2 x4 x5 x6 y2 M1)
      · refine V_iconst C0 dX7_turn_129 ic_2 ?_
        refine V_iload C0 5 4 rfl dX7_turn_130 ?_
        refine V_imul C0 dX7_turn_132 ?_
        refine V_iload C0 7 6 rfl dX7_turn_133 ?_
        refine V_iadd C0 dX7_turn_135 ?_
        refine V_goto C0 146 dX7_turn_136 (by decide) ?_
        refine V_iadd C0 dX7_turn_146 ?_
        refine V_iald C0 376 s209 n209 dX7_turn_147 ?_
        refine V_iast C0 60 s215 n215 dX7_turn_148 (fun M3 => ?_)
        refine V_iincB C0 7 6 (fun y4 => [(7, .int y4), (0, .ref (G.2 + 208)), (1, .int x1), (2, .int x2), (4, .int x4), (5, .int x5), (6, .int x6)]) rfl ic_1 (by decide) (fun _ => rfl) dX7_turn_149 (fun y4 => ?_)
        refine V_goto C0 90 dX7_turn_152 (by decide) ?_
        exact V_sub [1, 2, 3, 4, 5, 6, 0] rfl (ih x1 x2 x4 x5 x6 y4 M3)
set_option maxRecDepth 100000 in
set_option maxHeartbeats 4000000 in
theorem f_Md_turn_b51_ok {X : XT} {G : GT} (C0 : Cx X G cX7_turn 8 RX7 (some .int)) (x1 : Int32) (x2 : Int32) (M : Mem) : V X G 4 vI 8 51 [(0, .ref (G.2 + 208)), (1, .int x1), (2, .int x2)] [] M (f_Md_turn_b51 x1 x2 M) := by
  unfold f_Md_turn_b51
  refine V_aload_n C0 0 rfl 0 rfl dX7_turn_51 ?_
  refine k7_149 C0 (by decide) (fun lq rq Mq hh => mc_f_Md_acts lq  M rq Mq  hh) (Nat.le_of_ble_eq_true rfl) dX7_turn_52 (fun _ M1 => ?_)
  refine V_bipush C0 dX7_turn_55 bp_16 ?_
  refine V_bipush C0 dX7_turn_57 bp_60 ?_
  refine V_iload_n C0 1 rfl 1 rfl dX7_turn_59 ?_
  refine V_imul C0 dX7_turn_60 ?_
  refine V_iadd C0 dX7_turn_61 ?_
  refine V_bi (fun y2 => ?_)
  refine V_istore C0 4 [(4, .int y2), (0, .ref (G.2 + 208)), (1, .int x1), (2, .int x2)] (by decide) rfl dX7_turn_62 ?_
  refine V_aload_n C0 0 rfl 1 rfl dX7_turn_64 ?_
  refine V_iload_n C0 1 rfl 2 rfl dX7_turn_65 ?_
  refine V_iload_n C0 2 rfl 3 rfl dX7_turn_66 ?_
  refine V_iconst C0 dX7_turn_67 ic_1 ?_
  refine V_iadd C0 dX7_turn_68 ?_
  refine k7_161 C0 (by decide) (fun lq rq Mq hh => mc_f_Md_sizeAt lq x1 (x2 + 1) M1 rq Mq  hh) (Nat.le_of_ble_eq_true rfl) dX7_turn_69 (fun r3 M3 => ?_)
  refine V_istore C0 5 [(5, .int r3), (4, .int y2), (0, .ref (G.2 + 208)), (1, .int x1), (2, .int x2)] (by decide) rfl dX7_turn_72 ?_
  refine V_aload_n C0 0 rfl 2 rfl dX7_turn_74 ?_
  refine V_iload_n C0 1 rfl 3 rfl dX7_turn_75 ?_
  refine V_iload_n C0 2 rfl 4 rfl dX7_turn_76 ?_
  refine V_iconst C0 dX7_turn_77 ic_1 ?_
  refine V_iadd C0 dX7_turn_78 ?_
  refine V_iload C0 5 0 rfl dX7_turn_79 ?_
  refine V_iadd C0 dX7_turn_81 ?_
  refine k7_161 C0 (by decide) (fun lq rq Mq hh => mc_f_Md_sizeAt lq x1 ((x2 + 1) + r3) M3 rq Mq  hh) (Nat.le_of_ble_eq_true rfl) dX7_turn_82 (fun r4 M4 => ?_)
  refine V_istore C0 6 [(6, .int r4), (5, .int r3), (4, .int y2), (0, .ref (G.2 + 208)), (1, .int x1), (2, .int x2)] (by decide) rfl dX7_turn_85 ?_
  refine V_iconst C0 dX7_turn_87 ic_0 ?_
  refine V_istore C0 7 [(7, .int 0), (6, .int r4), (5, .int r3), (4, .int y2), (0, .ref (G.2 + 208)), (1, .int x1), (2, .int x2)] (by decide) rfl dX7_turn_88 ?_
  exact V_sub [4, 5, 6, 3, 2, 1, 0] rfl (f_Md_turn_b90_ok C0 FU x1 x2 y2 r3 r4 0 M4)
set_option maxRecDepth 100000 in
set_option maxHeartbeats 4000000 in
theorem mc_f_Md_turn {G : GT} (l : Launch) (x1 : Int32) (x2 : Int32) (M : Mem) (r : Int32) (M1 : Mem) (ho : f_Md_turn x1 x2 M = some (r, M1)) : MC l G yX7_turn cX7_turn 8 (some .int) 4 [.ref (G.2 + 208), .int x1, .int x2] M (vI r) M1 :=
  MC.ofV (own := RX7) (lv := [(0, .ref (G.2 + 208)), (1, .int x1), (2, .int x2)]) (by decide +kernel) rfl rfl (Nat.le_of_ble_eq_true rfl) ho (fun X hX C0 => by
    unfold f_Md_turn
    refine V_aload_n C0 0 rfl 0 rfl dX7_turn_0 ?_
    refine V_iload_n C0 1 rfl 1 rfl dX7_turn_1 ?_
    refine k7_156 C0 (by decide) (fun lq rq Mq hh => mc_f_Md_isFormula lq x1 M rq Mq  hh) (Nat.le_of_ble_eq_true rfl) dX7_turn_2 (fun r1 M1 => ?_)
    refine V_ifeq C0 27 dX7_turn_5 (by decide) (fun _ => ?_) (fun _ => ?_)
    · refine V_ldc C0 wk7_79 dX7_turn_27 ?_
      exact V_iret C0 dX7_turn_29
    · refine V_iload_n C0 2 rfl 2 rfl dX7_turn_8 ?_
      refine V_iconst C0 dX7_turn_9 ic_0 ?_
      refine V_aload_n C0 0 rfl 0 rfl dX7_turn_10 ?_
      refine g7_7 C0 dX7_turn_11 ?_
      refine V_bipush C0 dX7_turn_14 bp_10 ?_
      refine V_iload_n C0 1 rfl 1 rfl dX7_turn_16 ?_
      refine V_iadd C0 dX7_turn_17 ?_
      refine V_iald C0 376 s209 n209 dX7_turn_18 ?_
      refine V_iconst C0 dX7_turn_19 ic_1 ?_
      refine V_isub C0 dX7_turn_20 ?_
      refine k7_75 C0 (by decide) (fun lq rq Mq hh => mc_f_Md_in lq x2 0 ((M1.1 209 (ix (10 + x1))) - 1) M1 rq Mq  hh) (Nat.le_of_ble_eq_true rfl) dX7_turn_21 (fun r2 M2 => ?_)
      refine V_ifne C0 30 dX7_turn_24 (by decide) (fun _ => ?_) (fun _ => ?_)
      · refine V_aload_n C0 0 rfl 0 rfl dX7_turn_30 ?_
        refine V_iload_n C0 1 rfl 1 rfl dX7_turn_31 ?_
        refine V_iload_n C0 2 rfl 2 rfl dX7_turn_32 ?_
        refine k7_152 C0 (by decide) (fun lq rq Mq hh => mc_f_Md_kindAt lq x1 x2 M2 rq Mq  hh) (Nat.le_of_ble_eq_true rfl) dX7_turn_33 (fun r3 M3 => ?_)
        refine V_istore_n C0 3 [(3, .int r3), (0, .ref (G.2 + 208)), (1, .int x1), (2, .int x2)] rfl (by decide) rfl dX7_turn_36 ?_
        refine V_iload_n C0 3 rfl 0 rfl dX7_turn_37 ?_
        refine V_iconst C0 dX7_turn_38 ic_4 ?_
        refine V_icmpeq C0 51 dX7_turn_39 (by decide) (fun _ => ?_) (fun _ => ?_)
        · exact V_sub [1, 2, 3] rfl (f_Md_turn_b51_ok C0 x1 x2 M3)
        · refine V_iload_n C0 3 rfl 0 rfl dX7_turn_42 ?_
          refine V_bipush C0 dX7_turn_43 bp_6 ?_
          refine V_icmpeq C0 51 dX7_turn_45 (by decide) (fun _ => ?_) (fun _ => ?_)
          · exact V_sub [1, 2, 3] rfl (f_Md_turn_b51_ok C0 x1 x2 M3)
          · refine V_ldc C0 wk7_160 dX7_turn_48 ?_
            exact V_iret C0 dX7_turn_50
      · refine V_ldc C0 wk7_79 dX7_turn_27 ?_
        exact V_iret C0 dX7_turn_29)
set_option maxRecDepth 100000 in
set_option maxHeartbeats 4000000 in
theorem f_Md_undo_b22_ok {X : XT} {G : GT} (C0 : Cx X G cX7_undo 2 RX7 (some .int)) : ∀ (n : Nat) (x1 : Int32) (M : Mem), V X G 0 vI 2 22 [(0, .ref (G.2 + 208)), (1, .int x1)] [] M (f_Md_undo_b22 n x1 M) := by
  intro n
  induction n with
  | zero =>
    intros
    exact V_none
  | succ n ih =>
    intro x1 M
    rw [f_Md_undo_b22]
    refine V_iload_n C0 1 rfl 1 rfl dX7_undo_22 ?_
    refine V_sipush C0 dX7_undo_23 sp_376 ?_
    refine V_icmpge C0 56 dX7_undo_26 (by decide) (fun _ => ?_) (fun _ => ?_)
    · refine V_aload_n C0 0 rfl 0 rfl dX7_undo_56 ?_
      refine g7_71 C0 dX7_undo_57 ?_
      exact V_iret C0 dX7_undo_60
    · refine V_aload_n C0 0 rfl 0 rfl dX7_undo_29 ?_
      refine g7_7 C0 dX7_undo_30 ?_
      refine V_iload_n C0 1 rfl 1 rfl dX7_undo_33 ?_
      refine V_aload_n C0 0 rfl 0 rfl dX7_undo_34 ?_
      refine g7_13 C0 dX7_undo_35 ?_
      refine V_sipush C0 dX7_undo_38 sp_376 ?_
      refine V_aload_n C0 0 rfl 0 rfl dX7_undo_41 ?_
      refine g7_71 C0 dX7_undo_42 ?_
      refine V_imul C0 dX7_undo_45 ?_
      refine V_iload_n C0 1 rfl 1 rfl dX7_undo_46 ?_
      refine V_iadd C0 dX7_undo_47 ?_
      refine V_iald C0 1880 s210 n210 dX7_undo_48 ?_
      refine V_iast C0 376 s209 n209 dX7_undo_49 (fun M1 => ?_)
      refine V_iincB C0 1 1 (fun y2 => [(1, .int y2), (0, .ref (G.2 + 208))]) rfl ic_1 (by decide) (fun _ => rfl) dX7_undo_50 (fun y2 => ?_)
      refine V_goto C0 22 dX7_undo_53 (by decide) ?_
      exact V_sub [1, 0] rfl (ih y2 M1)
set_option maxRecDepth 100000 in
set_option maxHeartbeats 4000000 in
theorem mc_f_Md_undo {G : GT} (l : Launch) (M : Mem) (r : Int32) (M1 : Mem) (ho : f_Md_undo  M = some (r, M1)) : MC l G yX7_undo cX7_undo 2 (some .int) 0 [.ref (G.2 + 208)] M (vI r) M1 :=
  MC.ofV (own := RX7) (lv := [(0, .ref (G.2 + 208))]) (by decide +kernel) rfl rfl (Nat.le_of_ble_eq_true rfl) ho (fun X hX C0 => by
    unfold f_Md_undo
    refine V_aload_n C0 0 rfl 0 rfl dX7_undo_0 ?_
    refine g7_71 C0 dX7_undo_1 ?_
    refine V_ifne C0 10 dX7_undo_4 (by decide) (fun _ => ?_) (fun _ => ?_)
    · refine V_aload_n C0 0 rfl 0 rfl dX7_undo_10 ?_
      refine V_dup C0 rfl dX7_undo_11 ?_
      refine g7_71 C0 dX7_undo_12 ?_
      refine V_iconst C0 dX7_undo_15 ic_1 ?_
      refine V_isub C0 dX7_undo_16 ?_
      refine p7_71 C0 dX7_undo_17 (fun M1 => ?_)
      refine V_iconst C0 dX7_undo_20 ic_0 ?_
      refine V_istore_n C0 1 [(1, .int 0), (0, .ref (G.2 + 208))] rfl (by decide) rfl dX7_undo_21 ?_
      exact V_sub [1, 0] rfl (f_Md_undo_b22_ok C0 FU 0 M1)
    · refine V_ldc C0 wk7_160 dX7_undo_7 ?_
      exact V_iret C0 dX7_undo_9)
set_option maxRecDepth 100000 in
set_option maxHeartbeats 4000000 in
theorem mc_f_Md_ways {G : GT} (l : Launch) (x1 : Int32) (M : Mem) (r : Int32) (M1 : Mem) (ho : f_Md_ways x1 M = some (r, M1)) : MC l G yX7_ways cX7_ways 2 (some .int) 4 [.ref (G.2 + 208), .int x1] M (vI r) M1 :=
  MC.ofV (own := RX7) (lv := [(0, .ref (G.2 + 208)), (1, .int x1)]) (by decide +kernel) rfl rfl (Nat.le_of_ble_eq_true rfl) ho (fun X hX C0 => by
    unfold f_Md_ways
    refine V_aload_n C0 0 rfl 0 rfl dX7_ways_0 ?_
    refine V_iload_n C0 1 rfl 1 rfl dX7_ways_1 ?_
    refine k7_156 C0 (by decide) (fun lq rq Mq hh => mc_f_Md_isFormula lq x1 M rq Mq  hh) (Nat.le_of_ble_eq_true rfl) dX7_ways_2 (fun r1 M1 => ?_)
    refine V_ifne C0 11 dX7_ways_5 (by decide) (fun _ => ?_) (fun _ => ?_)
    · refine V_aload_n C0 0 rfl 0 rfl dX7_ways_11 ?_
      refine k7_164 C0 (by decide) (fun lq rq Mq hh => mc_f_Md_lays lq  M1 rq Mq  hh) (Nat.le_of_ble_eq_true rfl) dX7_ways_12 (fun _ M2 => ?_)
      refine V_aload_n C0 0 rfl 0 rfl dX7_ways_15 ?_
      refine V_iload_n C0 1 rfl 1 rfl dX7_ways_16 ?_
      refine k7_240 C0 (by decide) (fun lq rq Mq hh => mc_f_Md_tries lq x1 M2 rq Mq  hh) (Nat.le_of_ble_eq_true rfl) dX7_ways_17 (fun r3 M3 => ?_)
      refine V_bipush C0 dX7_ways_20 bp_10 ?_
      refine V_icmple C0 30 dX7_ways_22 (by decide) (fun _ => ?_) (fun _ => ?_)
      · refine V_aload_n C0 0 rfl 0 rfl dX7_ways_30 ?_
        refine g7_68 C0 dX7_ways_31 ?_
        refine V_aload_n C0 0 rfl 0 rfl dX7_ways_34 ?_
        refine k7_243 C0 (by decide) (fun lq rq Mq hh => mc_f_Md_fewest lq  M3 rq Mq  hh) (Nat.le_of_ble_eq_true rfl) dX7_ways_35 (fun r4 M4 => ?_)
        refine V_iald C0 1170 s228 n228 dX7_ways_38 ?_
        exact V_iret C0 dX7_ways_39
      · refine V_ldc C0 wk7_87 dX7_ways_25 ?_
        refine V_goto C0 39 dX7_ways_27 (by decide) ?_
        exact V_iret C0 dX7_ways_39
    · refine V_ldc C0 wk7_79 dX7_ways_8 ?_
      exact V_iret C0 dX7_ways_10)
