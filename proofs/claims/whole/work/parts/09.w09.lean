set_option maxRecDepth 100000 in
set_option maxHeartbeats 4000000 in
theorem f_Md_acts_b51_ok {X : XT} {G : GT} (C0 : Cx X G cX7_acts 2 RX7 none) : ∀ (n : Nat) (x1 : Int32) (M : Mem), V X G 0 vU 2 51 [(0, .ref (G.2 + 208)), (1, .int x1)] [] M (f_Md_acts_b51 n x1 M) := by
  intro n
  induction n with
  | zero =>
    intros
    exact V_none
  | succ n ih =>
    intro x1 M
    rw [f_Md_acts_b51]
    refine V_iload_n C0 1 rfl 1 rfl dX7_acts_51 ?_
    refine V_sipush C0 dX7_acts_52 sp_376 ?_
    refine V_icmpge C0 85 dX7_acts_55 (by decide) (fun _ => ?_) (fun _ => ?_)
    · refine V_aload_n C0 0 rfl 0 rfl dX7_acts_85 ?_
      refine V_dup C0 rfl dX7_acts_86 ?_
      refine g7_71 C0 dX7_acts_87 ?_
      refine V_iconst C0 dX7_acts_90 ic_1 ?_
      refine V_iadd C0 dX7_acts_91 ?_
      refine p7_71 C0 dX7_acts_92 (fun M1 => ?_)
      exact V_vret C0 dX7_acts_95
    · refine V_aload_n C0 0 rfl 0 rfl dX7_acts_58 ?_
      refine g7_13 C0 dX7_acts_59 ?_
      refine V_sipush C0 dX7_acts_62 sp_376 ?_
      refine V_aload_n C0 0 rfl 0 rfl dX7_acts_65 ?_
      refine g7_71 C0 dX7_acts_66 ?_
      refine V_imul C0 dX7_acts_69 ?_
      refine V_iload_n C0 1 rfl 1 rfl dX7_acts_70 ?_
      refine V_iadd C0 dX7_acts_71 ?_
      refine V_aload_n C0 0 rfl 0 rfl dX7_acts_72 ?_
      refine g7_7 C0 dX7_acts_73 ?_
      refine V_iload_n C0 1 rfl 1 rfl dX7_acts_76 ?_
      refine V_iald C0 376 s209 n209 dX7_acts_77 ?_
      refine V_iast C0 1880 s210 n210 dX7_acts_78 (fun M2 => ?_)
      refine V_iincB C0 1 1 (fun y3 => [(1, .int y3), (0, .ref (G.2 + 208))]) rfl ic_1 (by decide) (fun _ => rfl) dX7_acts_79 (fun y3 => ?_)
      refine V_goto C0 51 dX7_acts_82 (by decide) ?_
      exact V_sub [1, 0] rfl (ih y3 M2)
set_option maxRecDepth 100000 in
set_option maxHeartbeats 4000000 in
theorem f_Md_acts_b49_ok {X : XT} {G : GT} (C0 : Cx X G cX7_acts 2 RX7 none) (M : Mem) : V X G 0 vU 2 49 [(0, .ref (G.2 + 208))] [] M (f_Md_acts_b49  M) := by
  unfold f_Md_acts_b49
  refine V_iconst C0 dX7_acts_49 ic_0 ?_
  refine V_istore_n C0 1 [(1, .int 0), (0, .ref (G.2 + 208))] rfl (by decide) rfl dX7_acts_50 ?_
  exact V_sub [1, 0] rfl (f_Md_acts_b51_ok C0 FU 0 M)
set_option maxRecDepth 100000 in
set_option maxHeartbeats 4000000 in
theorem f_Md_acts_b10_ok {X : XT} {G : GT} (C0 : Cx X G cX7_acts 2 RX7 none) : ∀ (n : Nat) (x1 : Int32) (M : Mem), V X G 0 vU 2 10 [(0, .ref (G.2 + 208)), (1, .int x1)] [] M (f_Md_acts_b10 n x1 M) := by
  intro n
  induction n with
  | zero =>
    intros
    exact V_none
  | succ n ih =>
    intro x1 M
    rw [f_Md_acts_b10]
    refine V_iload_n C0 1 rfl 1 rfl dX7_acts_10 ?_
    refine V_sipush C0 dX7_acts_11 sp_1504 ?_
    refine V_icmpge C0 39 dX7_acts_14 (by decide) (fun _ => ?_) (fun _ => ?_)
    · refine V_aload_n C0 0 rfl 0 rfl dX7_acts_39 ?_
      refine V_dup C0 rfl dX7_acts_40 ?_
      refine g7_71 C0 dX7_acts_41 ?_
      refine V_iconst C0 dX7_acts_44 ic_1 ?_
      refine V_isub C0 dX7_acts_45 ?_
      refine p7_71 C0 dX7_acts_46 (fun M1 => ?_)
      exact V_sub [0] rfl (f_Md_acts_b49_ok C0 M1)
    · refine V_aload_n C0 0 rfl 0 rfl dX7_acts_17 ?_
      refine g7_13 C0 dX7_acts_18 ?_
      refine V_iload_n C0 1 rfl 1 rfl dX7_acts_21 ?_
      refine V_aload_n C0 0 rfl 0 rfl dX7_acts_22 ?_
      refine g7_13 C0 dX7_acts_23 ?_
      refine V_iload_n C0 1 rfl 1 rfl dX7_acts_26 ?_
      refine V_sipush C0 dX7_acts_27 sp_376 ?_
      refine V_iadd C0 dX7_acts_30 ?_
      refine V_iald C0 1880 s210 n210 dX7_acts_31 ?_
      refine V_iast C0 1880 s210 n210 dX7_acts_32 (fun M2 => ?_)
      refine V_iincB C0 1 1 (fun y3 => [(1, .int y3), (0, .ref (G.2 + 208))]) rfl ic_1 (by decide) (fun _ => rfl) dX7_acts_33 (fun y3 => ?_)
      refine V_goto C0 10 dX7_acts_36 (by decide) ?_
      exact V_sub [1, 0] rfl (ih y3 M2)
set_option maxRecDepth 100000 in
set_option maxHeartbeats 4000000 in
theorem mc_f_Md_acts {G : GT} (l : Launch) (M : Mem) (r : Unit) (M1 : Mem) (ho : f_Md_acts  M = some (r, M1)) : MC l G yX7_acts cX7_acts 2 none 0 [.ref (G.2 + 208)] M (vU r) M1 :=
  MC.ofV (own := RX7) (lv := [(0, .ref (G.2 + 208))]) (by decide +kernel) rfl rfl (Nat.le_of_ble_eq_true rfl) ho (fun X hX C0 => by
    unfold f_Md_acts
    refine V_aload_n C0 0 rfl 0 rfl dX7_acts_0 ?_
    refine g7_71 C0 dX7_acts_1 ?_
    refine V_iconst C0 dX7_acts_4 ic_5 ?_
    refine V_icmpne C0 49 dX7_acts_5 (by decide) (fun _ => ?_) (fun _ => ?_)
    · exact V_sub [0] rfl (f_Md_acts_b49_ok C0 M)
    · refine V_iconst C0 dX7_acts_8 ic_0 ?_
      refine V_istore_n C0 1 [(1, .int 0), (0, .ref (G.2 + 208))] rfl (by decide) rfl dX7_acts_9 ?_
      exact V_sub [1, 0] rfl (f_Md_acts_b10_ok C0 FU 0 M))
set_option maxRecDepth 100000 in
set_option maxHeartbeats 4000000 in
theorem mc_f_Md_in {G : GT} (l : Launch) (x0 : Int32) (x1 : Int32) (x2 : Int32) (M : Mem) (r : Int32) (M1 : Mem) (ho : f_Md_in x0 x1 x2 M = some (r, M1)) : MC l G yX7_in cX7_in 3 (some .boolean) 0 [.int x0, .int x1, .int x2] M (vI r) M1 :=
  MC.ofV (own := RX7) (lv := [(0, .int x0), (1, .int x1), (2, .int x2)]) (by decide +kernel) rfl rfl (Nat.le_of_ble_eq_true rfl) ho (fun X hX C0 => by
    unfold f_Md_in
    refine V_iload_n C0 0 rfl 0 rfl dX7_in_0 ?_
    refine V_iload_n C0 1 rfl 1 rfl dX7_in_1 ?_
    refine V_icmplt C0 14 dX7_in_2 (by decide) (fun _ => ?_) (fun _ => ?_)
    · refine V_iconst C0 dX7_in_14 ic_0 ?_
      exact V_zret C0 dX7_in_15
    · refine V_iload_n C0 0 rfl 0 rfl dX7_in_5 ?_
      refine V_iload_n C0 2 rfl 2 rfl dX7_in_6 ?_
      refine V_icmpgt C0 14 dX7_in_7 (by decide) (fun _ => ?_) (fun _ => ?_)
      · refine V_iconst C0 dX7_in_14 ic_0 ?_
        exact V_zret C0 dX7_in_15
      · refine V_iconst C0 dX7_in_10 ic_1 ?_
        refine V_goto C0 15 dX7_in_11 (by decide) ?_
        exact V_zret C0 dX7_in_15)
set_option maxRecDepth 100000 in
set_option maxHeartbeats 4000000 in
theorem mc_f_Md_append {G : GT} (l : Launch) (x1 : Int32) (M : Mem) (r : Int32) (M1 : Mem) (ho : f_Md_append x1 M = some (r, M1)) : MC l G yX7_append cX7_append 2 (some .int) 1 [.ref (G.2 + 208), .int x1] M (vI r) M1 :=
  MC.ofV (own := RX7) (lv := [(0, .ref (G.2 + 208)), (1, .int x1)]) (by decide +kernel) rfl rfl (Nat.le_of_ble_eq_true rfl) ho (fun X hX C0 => by
    unfold f_Md_append
    refine V_iload_n C0 1 rfl 1 rfl dX7_append_0 ?_
    refine V_iconst C0 dX7_append_1 ic_1 ?_
    refine V_sipush C0 dX7_append_2 sp_255 ?_
    refine k7_75 C0 (by decide) (fun lq rq Mq hh => mc_f_Md_in lq x1 1 255 M rq Mq  hh) (Nat.le_of_ble_eq_true rfl) dX7_append_5 (fun r1 M1 => ?_)
    refine V_ifne C0 14 dX7_append_8 (by decide) (fun _ => ?_) (fun _ => ?_)
    · refine V_aload_n C0 0 rfl 0 rfl dX7_append_14 ?_
      refine g7_80 C0 dX7_append_15 ?_
      refine V_bipush C0 dX7_append_18 bp_100 ?_
      refine V_icmpne C0 26 dX7_append_20 (by decide) (fun _ => ?_) (fun _ => ?_)
      · refine V_aload_n C0 0 rfl 0 rfl dX7_append_26 ?_
        refine g7_16 C0 dX7_append_27 ?_
        refine V_aload_n C0 0 rfl 0 rfl dX7_append_30 ?_
        refine g7_80 C0 dX7_append_31 ?_
        refine V_iload_n C0 1 rfl 1 rfl dX7_append_34 ?_
        refine V_iast C0 100 s211 n211 dX7_append_35 (fun M2 => ?_)
        refine V_aload_n C0 0 rfl 0 rfl dX7_append_36 ?_
        refine V_dup C0 rfl dX7_append_37 ?_
        refine g7_80 C0 dX7_append_38 ?_
        refine V_iconst C0 dX7_append_41 ic_1 ?_
        refine V_iadd C0 dX7_append_42 ?_
        refine p7_80 C0 dX7_append_43 (fun M3 => ?_)
        refine V_aload_n C0 0 rfl 0 rfl dX7_append_46 ?_
        refine g7_80 C0 dX7_append_47 ?_
        exact V_iret C0 dX7_append_50
      · refine V_ldc C0 wk7_83 dX7_append_23 ?_
        exact V_iret C0 dX7_append_25
    · refine V_ldc C0 wk7_79 dX7_append_11 ?_
      exact V_iret C0 dX7_append_13)
set_option maxRecDepth 100000 in
set_option maxHeartbeats 4000000 in
theorem mc_f_Md_isCell {G : GT} (l : Launch) (x0 : Int32) (M : Mem) (r : Int32) (M1 : Mem) (ho : f_Md_isCell x0 M = some (r, M1)) : MC l G yX7_isCell cX7_isCell 1 (some .boolean) 1 [.int x0] M (vI r) M1 :=
  MC.ofV (own := RX7) (lv := [(0, .int x0)]) (by decide +kernel) rfl rfl (Nat.le_of_ble_eq_true rfl) ho (fun X hX C0 => by
    unfold f_Md_isCell
    refine V_iload_n C0 0 rfl 0 rfl dX7_isCell_0 ?_
    refine V_iconst C0 dX7_isCell_1 ic_0 ?_
    refine V_bipush C0 dX7_isCell_2 bp_7 ?_
    refine k7_75 C0 (by decide) (fun lq rq Mq hh => mc_f_Md_in lq x0 0 7 M rq Mq  hh) (Nat.le_of_ble_eq_true rfl) dX7_isCell_4 (fun r1 M1 => ?_)
    exact V_zret C0 dX7_isCell_7)
set_option maxRecDepth 100000 in
set_option maxHeartbeats 4000000 in
theorem mc_f_Md_cell {G : GT} (l : Launch) (x1 : Int32) (M : Mem) (r : Int32) (M1 : Mem) (ho : f_Md_cell x1 M = some (r, M1)) : MC l G yX7_cell cX7_cell 2 (some .int) 2 [.ref (G.2 + 208), .int x1] M (vI r) M1 :=
  MC.ofV (own := RX7) (lv := [(0, .ref (G.2 + 208)), (1, .int x1)]) (by decide +kernel) rfl rfl (Nat.le_of_ble_eq_true rfl) ho (fun X hX C0 => by
    unfold f_Md_cell
    refine V_iload_n C0 1 rfl 1 rfl dX7_cell_0 ?_
    refine k7_167 C0 (by decide) (fun lq rq Mq hh => mc_f_Md_isCell lq x1 M rq Mq  hh) (Nat.le_of_ble_eq_true rfl) dX7_cell_1 (fun r1 M1 => ?_)
    refine V_ifeq C0 18 dX7_cell_4 (by decide) (fun _ => ?_) (fun _ => ?_)
    · refine V_ldc C0 wk7_79 dX7_cell_18 ?_
      exact V_iret C0 dX7_cell_20
    · refine V_aload_n C0 0 rfl 0 rfl dX7_cell_7 ?_
      refine g7_7 C0 dX7_cell_8 ?_
      refine V_iconst C0 dX7_cell_11 ic_2 ?_
      refine V_iload_n C0 1 rfl 1 rfl dX7_cell_12 ?_
      refine V_iadd C0 dX7_cell_13 ?_
      refine V_iald C0 376 s209 n209 dX7_cell_14 ?_
      refine V_goto C0 20 dX7_cell_15 (by decide) ?_
      exact V_iret C0 dX7_cell_20)
set_option maxRecDepth 100000 in
set_option maxHeartbeats 4000000 in
theorem f_Md_cheapOnes_b4_ok {X : XT} {G : GT} (C0 : Cx X G cX7_cheapOnes 3 RX7 (some .int)) : ∀ (n : Nat) (x1 : Int32) (x2 : Int32) (M : Mem), V X G 0 vI 3 4 [(0, .ref (G.2 + 208)), (1, .int x1), (2, .int x2)] [] M (f_Md_cheapOnes_b4 n x1 x2 M) := by
  intro n
  induction n with
  | zero =>
    intros
    exact V_none
  | succ n ih =>
    intro x1 x2 M
    rw [f_Md_cheapOnes_b4]
    refine V_iload_n C0 2 rfl 2 rfl dX7_cheapOnes_4 ?_
    refine V_aload_n C0 0 rfl 0 rfl dX7_cheapOnes_5 ?_
    refine g7_7 C0 dX7_cheapOnes_6 ?_
    refine V_iconst C0 dX7_cheapOnes_9 ic_0 ?_
    refine V_iald C0 376 s209 n209 dX7_cheapOnes_10 ?_
    refine V_icmpge C0 37 dX7_cheapOnes_11 (by decide) (fun _ => ?_) (fun _ => ?_)
    · refine V_iload_n C0 1 rfl 1 rfl dX7_cheapOnes_37 ?_
      exact V_iret C0 dX7_cheapOnes_38
    · refine V_iload_n C0 1 rfl 1 rfl dX7_cheapOnes_14 ?_
      refine V_aload_n C0 0 rfl 0 rfl dX7_cheapOnes_15 ?_
      refine g7_52 C0 dX7_cheapOnes_16 ?_
      refine V_iload_n C0 2 rfl 2 rfl dX7_cheapOnes_19 ?_
      refine V_zald C0 6 s223 n223 dX7_cheapOnes_20 ?_
      refine V_ifeq C0 28 dX7_cheapOnes_21 (by decide) (fun _ => ?_) (fun _ => ?_)
      · refine V_iconst C0 dX7_cheapOnes_28 ic_0 ?_
        refine V_iadd C0 dX7_cheapOnes_29 ?_
        refine V_bi (fun y1 => ?_)
        refine V_istore_n C0 1 [(1, .int y1), (0, .ref (G.2 + 208)), (2, .int x2)] rfl (by decide) rfl dX7_cheapOnes_30 ?_
        refine V_iincB C0 2 2 (fun y2 => [(2, .int y2), (1, .int y1), (0, .ref (G.2 + 208))]) rfl ic_1 (by decide) (fun _ => rfl) dX7_cheapOnes_31 (fun y2 => ?_)
        refine V_goto C0 4 dX7_cheapOnes_34 (by decide) ?_
        exact V_sub [2, 1, 0] rfl (ih y1 y2 M)
      · refine V_iconst C0 dX7_cheapOnes_24 ic_1 ?_
        refine V_goto C0 29 dX7_cheapOnes_25 (by decide) ?_
        refine V_iadd C0 dX7_cheapOnes_29 ?_
        refine V_bi (fun y3 => ?_)
        refine V_istore_n C0 1 [(1, .int y3), (0, .ref (G.2 + 208)), (2, .int x2)] rfl (by decide) rfl dX7_cheapOnes_30 ?_
        refine V_iincB C0 2 2 (fun y4 => [(2, .int y4), (1, .int y3), (0, .ref (G.2 + 208))]) rfl ic_1 (by decide) (fun _ => rfl) dX7_cheapOnes_31 (fun y4 => ?_)
        refine V_goto C0 4 dX7_cheapOnes_34 (by decide) ?_
        exact V_sub [2, 1, 0] rfl (ih y3 y4 M)
set_option maxRecDepth 100000 in
set_option maxHeartbeats 4000000 in
theorem mc_f_Md_cheapOnes {G : GT} (l : Launch) (M : Mem) (r : Int32) (M1 : Mem) (ho : f_Md_cheapOnes  M = some (r, M1)) : MC l G yX7_cheapOnes cX7_cheapOnes 3 (some .int) 0 [.ref (G.2 + 208)] M (vI r) M1 :=
  MC.ofV (own := RX7) (lv := [(0, .ref (G.2 + 208))]) (by decide +kernel) rfl rfl (Nat.le_of_ble_eq_true rfl) ho (fun X hX C0 => by
    unfold f_Md_cheapOnes
    refine V_iconst C0 dX7_cheapOnes_0 ic_0 ?_
    refine V_istore_n C0 1 [(1, .int 0), (0, .ref (G.2 + 208))] rfl (by decide) rfl dX7_cheapOnes_1 ?_
    refine V_iconst C0 dX7_cheapOnes_2 ic_0 ?_
    refine V_istore_n C0 2 [(2, .int 0), (1, .int 0), (0, .ref (G.2 + 208))] rfl (by decide) rfl dX7_cheapOnes_3 ?_
    exact V_sub [2, 1, 0] rfl (f_Md_cheapOnes_b4_ok C0 FU 0 0 M))
set_option maxRecDepth 100000 in
set_option maxHeartbeats 4000000 in
theorem mc_f_Md_clearText {G : GT} (l : Launch) (M : Mem) (r : Int32) (M1 : Mem) (ho : f_Md_clearText  M = some (r, M1)) : MC l G yX7_clearText cX7_clearText 2 (some .int) 0 [.ref (G.2 + 208)] M (vI r) M1 :=
  MC.ofV (own := RX7) (lv := [(0, .ref (G.2 + 208))]) (by decide +kernel) rfl rfl (Nat.le_of_ble_eq_true rfl) ho (fun X hX C0 => by
    unfold f_Md_clearText
    refine V_aload_n C0 0 rfl 0 rfl dX7_clearText_0 ?_
    refine g7_80 C0 dX7_clearText_1 ?_
    refine V_bi (fun y1 => ?_)
    refine V_istore_n C0 1 [(1, .int y1), (0, .ref (G.2 + 208))] rfl (by decide) rfl dX7_clearText_4 ?_
    refine V_aload_n C0 0 rfl 1 rfl dX7_clearText_5 ?_
    refine V_iconst C0 dX7_clearText_6 ic_0 ?_
    refine p7_80 C0 dX7_clearText_7 (fun M2 => ?_)
    refine V_iload_n C0 1 rfl 0 rfl dX7_clearText_10 ?_
    exact V_iret C0 dX7_clearText_11)
set_option maxRecDepth 100000 in
set_option maxHeartbeats 4000000 in
theorem mc_f_Md_copies {G : GT} (l : Launch) (x1 : Int32) (x2 : Int32) (x3 : Int32) (M : Mem) (r : Unit) (M1 : Mem) (ho : f_Md_copies x1 x2 x3 M = some (r, M1)) : MC l G yX7_copies cX7_copies 4 none 0 [.ref (G.2 + 208), .int x1, .int x2, .int x3] M (vU r) M1 :=
  MC.ofV (own := RX7) (lv := [(0, .ref (G.2 + 208)), (1, .int x1), (2, .int x2), (3, .int x3)]) (by decide +kernel) rfl rfl (Nat.le_of_ble_eq_true rfl) ho (fun X hX C0 => by
    unfold f_Md_copies
    refine V_aload_n C0 0 rfl 0 rfl dX7_copies_0 ?_
    refine g7_31 C0 dX7_copies_1 ?_
    refine V_bipush C0 dX7_copies_4 bp_90 ?_
    refine V_iload_n C0 1 rfl 1 rfl dX7_copies_6 ?_
    refine V_imul C0 dX7_copies_7 ?_
    refine V_aload_n C0 0 rfl 0 rfl dX7_copies_8 ?_
    refine g7_49 C0 dX7_copies_9 ?_
    refine V_iload_n C0 1 rfl 1 rfl dX7_copies_12 ?_
    refine V_iald C0 6 s222 n222 dX7_copies_13 ?_
    refine V_iadd C0 dX7_copies_14 ?_
    refine V_iload_n C0 2 rfl 2 rfl dX7_copies_15 ?_
    refine V_iast C0 540 s216 n216 dX7_copies_16 (fun M1 => ?_)
    refine V_aload_n C0 0 rfl 0 rfl dX7_copies_17 ?_
    refine g7_34 C0 dX7_copies_18 ?_
    refine V_bipush C0 dX7_copies_21 bp_90 ?_
    refine V_iload_n C0 1 rfl 1 rfl dX7_copies_23 ?_
    refine V_imul C0 dX7_copies_24 ?_
    refine V_aload_n C0 0 rfl 0 rfl dX7_copies_25 ?_
    refine g7_49 C0 dX7_copies_26 ?_
    refine V_iload_n C0 1 rfl 1 rfl dX7_copies_29 ?_
    refine V_iald C0 6 s222 n222 dX7_copies_30 ?_
    refine V_iadd C0 dX7_copies_31 ?_
    refine V_iload_n C0 3 rfl 3 rfl dX7_copies_32 ?_
    refine V_iast C0 540 s217 n217 dX7_copies_33 (fun M2 => ?_)
    refine V_aload_n C0 0 rfl 0 rfl dX7_copies_34 ?_
    refine g7_49 C0 dX7_copies_35 ?_
    refine V_iload_n C0 1 rfl 1 rfl dX7_copies_38 ?_
    refine V_dup2 C0 rfl rfl dX7_copies_39 ?_
    refine V_iald C0 6 s222 n222 dX7_copies_40 ?_
    refine V_iconst C0 dX7_copies_41 ic_1 ?_
    refine V_iadd C0 dX7_copies_42 ?_
    refine V_iast C0 6 s222 n222 dX7_copies_43 (fun M3 => ?_)
    exact V_vret C0 dX7_copies_44)
set_option maxRecDepth 100000 in
set_option maxHeartbeats 4000000 in
theorem mc_f_Md_kindAt {G : GT} (l : Launch) (x1 : Int32) (x2 : Int32) (M : Mem) (r : Int32) (M1 : Mem) (ho : f_Md_kindAt x1 x2 M = some (r, M1)) : MC l G yX7_kindAt cX7_kindAt 3 (some .int) 0 [.ref (G.2 + 208), .int x1, .int x2] M (vI r) M1 :=
  MC.ofV (own := RX7) (lv := [(0, .ref (G.2 + 208)), (1, .int x1), (2, .int x2)]) (by decide +kernel) rfl rfl (Nat.le_of_ble_eq_true rfl) ho (fun X hX C0 => by
    unfold f_Md_kindAt
    refine V_aload_n C0 0 rfl 0 rfl dX7_kindAt_0 ?_
    refine g7_7 C0 dX7_kindAt_1 ?_
    refine V_bipush C0 dX7_kindAt_4 bp_16 ?_
    refine V_bipush C0 dX7_kindAt_6 bp_60 ?_
    refine V_iload_n C0 1 rfl 1 rfl dX7_kindAt_8 ?_
    refine V_imul C0 dX7_kindAt_9 ?_
    refine V_iadd C0 dX7_kindAt_10 ?_
    refine V_iconst C0 dX7_kindAt_11 ic_2 ?_
    refine V_iload_n C0 2 rfl 2 rfl dX7_kindAt_12 ?_
    refine V_imul C0 dX7_kindAt_13 ?_
    refine V_iadd C0 dX7_kindAt_14 ?_
    refine V_iald C0 376 s209 n209 dX7_kindAt_15 ?_
    exact V_iret C0 dX7_kindAt_16)
set_option maxRecDepth 100000 in
set_option maxHeartbeats 4000000 in
theorem f_Md_expands_b134_ok {X : XT} {G : GT} (C0 : Cx X G cX7_expands 5 RX7 none) : ∀ (n : Nat) (x1 : Int32) (x2 : Int32) (x3 : Int32) (M : Mem), V X G 1 vU 5 134 [(0, .ref (G.2 + 208)), (1, .int x1), (2, .int x2), (3, .int x3)] [] M (f_Md_expands_b134 n x1 x2 x3 M) := by
  intro n
  induction n with
  | zero =>
    intros
    exact V_none
  | succ n ih =>
    intro x1 x2 x3 M
    rw [f_Md_expands_b134]
    refine V_iload_n C0 3 rfl 3 rfl dX7_expands_134 ?_
    refine V_aload_n C0 0 rfl 0 rfl dX7_expands_135 ?_
    refine g7_49 C0 dX7_expands_136 ?_
    refine V_iload_n C0 1 rfl 1 rfl dX7_expands_139 ?_
    refine V_iald C0 6 s222 n222 dX7_expands_140 ?_
    refine V_icmpge C0 191 dX7_expands_141 (by decide) (fun _ => ?_) (fun _ => ?_)
    · refine V_aload_n C0 0 rfl 0 rfl dX7_expands_191 ?_
      refine g7_52 C0 dX7_expands_192 ?_
      refine V_iload_n C0 1 rfl 1 rfl dX7_expands_195 ?_
      refine V_iload_n C0 1 rfl 1 rfl dX7_expands_196 ?_
      refine V_aload_n C0 0 rfl 0 rfl dX7_expands_197 ?_
      refine g7_7 C0 dX7_expands_198 ?_
      refine V_iconst C0 dX7_expands_201 ic_0 ?_
      refine V_iald C0 376 s209 n209 dX7_expands_202 ?_
      refine V_iconst C0 dX7_expands_203 ic_1 ?_
      refine V_isub C0 dX7_expands_204 ?_
      refine V_icmpge C0 226 dX7_expands_205 (by decide) (fun _ => ?_) (fun _ => ?_)
      · refine V_iconst C0 dX7_expands_226 ic_0 ?_
        refine V_zast C0 6 s223 n223 dX7_expands_227 (fun M1 => ?_)
        exact V_vret C0 dX7_expands_228
      · refine V_aload_n C0 0 rfl 0 rfl dX7_expands_208 ?_
        refine g7_49 C0 dX7_expands_209 ?_
        refine V_iload_n C0 1 rfl 1 rfl dX7_expands_212 ?_
        refine V_iald C0 6 s222 n222 dX7_expands_213 ?_
        refine V_iconst C0 dX7_expands_214 ic_4 ?_
        refine V_icmpge C0 226 dX7_expands_215 (by decide) (fun _ => ?_) (fun _ => ?_)
        · refine V_iconst C0 dX7_expands_226 ic_0 ?_
          refine V_zast C0 6 s223 n223 dX7_expands_227 (fun M2 => ?_)
          exact V_vret C0 dX7_expands_228
        · refine V_iload_n C0 2 rfl 2 rfl dX7_expands_218 ?_
          refine V_ifeq C0 226 dX7_expands_219 (by decide) (fun _ => ?_) (fun _ => ?_)
          · refine V_iconst C0 dX7_expands_226 ic_0 ?_
            refine V_zast C0 6 s223 n223 dX7_expands_227 (fun M3 => ?_)
            exact V_vret C0 dX7_expands_228
          · refine V_iconst C0 dX7_expands_222 ic_1 ?_
            refine V_goto C0 227 dX7_expands_223 (by decide) ?_
            refine V_zast C0 6 s223 n223 dX7_expands_227 (fun M4 => ?_)
            exact V_vret C0 dX7_expands_228
    · refine V_iload_n C0 2 rfl 2 rfl dX7_expands_144 ?_
      refine V_ifeq C0 183 dX7_expands_145 (by decide) (fun _ => ?_) (fun _ => ?_)
      · refine V_iconst C0 dX7_expands_183 ic_0 ?_
        refine V_istore_n C0 2 [(2, .int 0), (0, .ref (G.2 + 208)), (1, .int x1), (3, .int x3)] rfl (by decide) rfl dX7_expands_184 ?_
        refine V_iincB C0 3 3 (fun y5 => [(3, .int y5), (2, .int 0), (0, .ref (G.2 + 208)), (1, .int x1)]) rfl ic_1 (by decide) (fun _ => rfl) dX7_expands_185 (fun y5 => ?_)
        refine V_goto C0 134 dX7_expands_188 (by decide) ?_
        exact V_sub [2, 3, 1, 0] rfl (ih x1 0 y5 M)
      · refine V_aload_n C0 0 rfl 0 rfl dX7_expands_148 ?_
        refine g7_31 C0 dX7_expands_149 ?_
        refine V_bipush C0 dX7_expands_152 bp_90 ?_
        refine V_iload_n C0 1 rfl 1 rfl dX7_expands_154 ?_
        refine V_imul C0 dX7_expands_155 ?_
        refine V_iload_n C0 3 rfl 3 rfl dX7_expands_156 ?_
        refine V_iadd C0 dX7_expands_157 ?_
        refine V_iald C0 540 s216 n216 dX7_expands_158 ?_
        refine V_bipush C0 dX7_expands_159 bp_6 ?_
        refine V_icmpeq C0 183 dX7_expands_161 (by decide) (fun _ => ?_) (fun _ => ?_)
        · refine V_iconst C0 dX7_expands_183 ic_0 ?_
          refine V_istore_n C0 2 [(2, .int 0), (0, .ref (G.2 + 208)), (1, .int x1), (3, .int x3)] rfl (by decide) rfl dX7_expands_184 ?_
          refine V_iincB C0 3 3 (fun y6 => [(3, .int y6), (2, .int 0), (0, .ref (G.2 + 208)), (1, .int x1)]) rfl ic_1 (by decide) (fun _ => rfl) dX7_expands_185 (fun y6 => ?_)
          refine V_goto C0 134 dX7_expands_188 (by decide) ?_
          exact V_sub [2, 3, 1, 0] rfl (ih x1 0 y6 M)
        · refine V_aload_n C0 0 rfl 0 rfl dX7_expands_164 ?_
          refine g7_31 C0 dX7_expands_165 ?_
          refine V_bipush C0 dX7_expands_168 bp_90 ?_
          refine V_iload_n C0 1 rfl 1 rfl dX7_expands_170 ?_
          refine V_imul C0 dX7_expands_171 ?_
          refine V_iload_n C0 3 rfl 3 rfl dX7_expands_172 ?_
          refine V_iadd C0 dX7_expands_173 ?_
          refine V_iald C0 540 s216 n216 dX7_expands_174 ?_
          refine V_iconst C0 dX7_expands_175 ic_2 ?_
          refine V_icmpeq C0 183 dX7_expands_176 (by decide) (fun _ => ?_) (fun _ => ?_)
          · refine V_iconst C0 dX7_expands_183 ic_0 ?_
            refine V_istore_n C0 2 [(2, .int 0), (0, .ref (G.2 + 208)), (1, .int x1), (3, .int x3)] rfl (by decide) rfl dX7_expands_184 ?_
            refine V_iincB C0 3 3 (fun y7 => [(3, .int y7), (2, .int 0), (0, .ref (G.2 + 208)), (1, .int x1)]) rfl ic_1 (by decide) (fun _ => rfl) dX7_expands_185 (fun y7 => ?_)
            refine V_goto C0 134 dX7_expands_188 (by decide) ?_
            exact V_sub [2, 3, 1, 0] rfl (ih x1 0 y7 M)
          · refine V_iconst C0 dX7_expands_179 ic_1 ?_
            refine V_goto C0 184 dX7_expands_180 (by decide) ?_
            refine V_istore_n C0 2 [(2, .int 1), (0, .ref (G.2 + 208)), (1, .int x1), (3, .int x3)] rfl (by decide) rfl dX7_expands_184 ?_
            refine V_iincB C0 3 3 (fun y8 => [(3, .int y8), (2, .int 1), (0, .ref (G.2 + 208)), (1, .int x1)]) rfl ic_1 (by decide) (fun _ => rfl) dX7_expands_185 (fun y8 => ?_)
            refine V_goto C0 134 dX7_expands_188 (by decide) ?_
            exact V_sub [2, 3, 1, 0] rfl (ih x1 1 y8 M)
set_option maxRecDepth 100000 in
set_option maxHeartbeats 4000000 in
theorem f_Md_expands_b112_ok {X : XT} {G : GT} (C0 : Cx X G cX7_expands 5 RX7 none) (k9 : Int32 → Int32 → Mem → Option (Unit × Mem)) (hk9 : ∀ (x1 : Int32) (x2 : Int32) (M : Mem), V X G 1 vU 5 9 [(0, .ref (G.2 + 208)), (1, .int x1), (2, .int x2)] [] M (k9 x1 x2 M)) (x1 : Int32) (x2 : Int32) (x3 : Int32) (M : Mem) : V X G 1 vU 5 112 [(0, .ref (G.2 + 208)), (1, .int x1), (2, .int x2), (3, .int x3)] [] M (f_Md_expands_b112 k9 x1 x2 x3 M) := by
  unfold f_Md_expands_b112
  refine V_aload_n C0 0 rfl 0 rfl dX7_expands_112 ?_
  refine V_iload_n C0 1 rfl 1 rfl dX7_expands_113 ?_
  refine V_aload_n C0 0 rfl 0 rfl dX7_expands_114 ?_
  refine V_iload_n C0 1 rfl 1 rfl dX7_expands_115 ?_
  refine V_iload_n C0 2 rfl 2 rfl dX7_expands_116 ?_
  refine k7_152 C0 (by decide) (fun lq rq Mq hh => mc_f_Md_kindAt lq x1 x2 M rq Mq  hh) (Nat.le_of_ble_eq_true rfl) dX7_expands_117 (fun r1 M1 => ?_)
  refine V_iload_n C0 3 rfl 3 rfl dX7_expands_120 ?_
  refine k7_174 C0 (by decide) (fun lq rq Mq hh => mc_f_Md_copies lq x1 r1 x3 M1 rq Mq  hh) (Nat.le_of_ble_eq_true rfl) dX7_expands_121 (fun _ M2 => ?_)
  refine V_iincB C0 2 2 (fun y3 => [(2, .int y3), (0, .ref (G.2 + 208)), (1, .int x1), (3, .int x3)]) rfl ic_1 (by decide) (fun _ => rfl) dX7_expands_124 (fun y3 => ?_)
  refine V_goto C0 9 dX7_expands_127 (by decide) ?_
  exact V_sub [1, 2, 0] rfl (hk9 x1 y3 M2)
set_option maxRecDepth 100000 in
set_option maxHeartbeats 4000000 in
theorem f_Md_expands_b63_ok {X : XT} {G : GT} (C0 : Cx X G cX7_expands 5 RX7 none) (k9 : Int32 → Int32 → Mem → Option (Unit × Mem)) (hk9 : ∀ (x1 : Int32) (x2 : Int32) (M : Mem), V X G 1 vU 5 9 [(0, .ref (G.2 + 208)), (1, .int x1), (2, .int x2)] [] M (k9 x1 x2 M)) : ∀ (n : Nat) (x1 : Int32) (x2 : Int32) (x3 : Int32) (x4 : Int32) (M : Mem), V X G 1 vU 5 63 [(0, .ref (G.2 + 208)), (1, .int x1), (2, .int x2), (3, .int x3), (4, .int x4)] [] M (f_Md_expands_b63 k9 n x1 x2 x3 x4 M) := by
  intro n
  induction n with
  | zero =>
    intros
    exact V_none
  | succ n ih =>
    intro x1 x2 x3 x4 M
    rw [f_Md_expands_b63]
    refine V_iload C0 4 4 rfl dX7_expands_63 ?_
    refine V_aload_n C0 0 rfl 0 rfl dX7_expands_65 ?_
    refine g7_49 C0 dX7_expands_66 ?_
    refine V_iload_n C0 3 rfl 3 rfl dX7_expands_69 ?_
    refine V_iald C0 6 s222 n222 dX7_expands_70 ?_
    refine V_icmpge C0 109 dX7_expands_71 (by decide) (fun _ => ?_) (fun _ => ?_)
    · refine V_goto C0 124 dX7_expands_109 (by decide) ?_
      refine V_iincB C0 2 2 (fun y1 => [(2, .int y1), (0, .ref (G.2 + 208)), (1, .int x1), (3, .int x3), (4, .int x4)]) rfl ic_1 (by decide) (fun _ => rfl) dX7_expands_124 (fun y1 => ?_)
      refine V_goto C0 9 dX7_expands_127 (by decide) ?_
      exact V_sub [1, 2, 0] rfl (hk9 x1 y1 M)
    · refine V_aload_n C0 0 rfl 0 rfl dX7_expands_74 ?_
      refine V_iload_n C0 1 rfl 1 rfl dX7_expands_75 ?_
      refine V_aload_n C0 0 rfl 0 rfl dX7_expands_76 ?_
      refine g7_31 C0 dX7_expands_77 ?_
      refine V_bipush C0 dX7_expands_80 bp_90 ?_
      refine V_iload_n C0 3 rfl 3 rfl dX7_expands_82 ?_
      refine V_imul C0 dX7_expands_83 ?_
      refine V_iload C0 4 4 rfl dX7_expands_84 ?_
      refine V_iadd C0 dX7_expands_86 ?_
      refine V_iald C0 540 s216 n216 dX7_expands_87 ?_
      refine V_aload_n C0 0 rfl 0 rfl dX7_expands_88 ?_
      refine g7_34 C0 dX7_expands_89 ?_
      refine V_bipush C0 dX7_expands_92 bp_90 ?_
      refine V_iload_n C0 3 rfl 3 rfl dX7_expands_94 ?_
      refine V_imul C0 dX7_expands_95 ?_
      refine V_iload C0 4 4 rfl dX7_expands_96 ?_
      refine V_iadd C0 dX7_expands_98 ?_
      refine V_iald C0 540 s217 n217 dX7_expands_99 ?_
      refine k7_174 C0 (by decide) (fun lq rq Mq hh => mc_f_Md_copies lq x1 (M.1 216 (ix ((90 * x3) + x4))) (M.1 217 (ix ((90 * x3) + x4))) M rq Mq  hh) (Nat.le_of_ble_eq_true rfl) dX7_expands_100 (fun _ M2 => ?_)
      refine V_iincB C0 4 4 (fun y3 => [(4, .int y3), (0, .ref (G.2 + 208)), (1, .int x1), (2, .int x2), (3, .int x3)]) rfl ic_1 (by decide) (fun _ => rfl) dX7_expands_103 (fun y3 => ?_)
      refine V_goto C0 63 dX7_expands_106 (by decide) ?_
      exact V_sub [1, 2, 3, 4, 0] rfl (ih x1 x2 x3 y3 M2)
set_option maxRecDepth 100000 in
set_option maxHeartbeats 4000000 in
theorem f_Md_expands_b9_ok {X : XT} {G : GT} (C0 : Cx X G cX7_expands 5 RX7 none) : ∀ (n : Nat) (x1 : Int32) (x2 : Int32) (M : Mem), V X G 1 vU 5 9 [(0, .ref (G.2 + 208)), (1, .int x1), (2, .int x2)] [] M (f_Md_expands_b9 n x1 x2 M) := by
  intro n
  induction n with
  | zero =>
    intros
    exact V_none
  | succ n ih =>
    intro x1 x2 M
    rw [f_Md_expands_b9]
    refine V_iload_n C0 2 rfl 2 rfl dX7_expands_9 ?_
    refine V_aload_n C0 0 rfl 0 rfl dX7_expands_10 ?_
    refine g7_7 C0 dX7_expands_11 ?_
    refine V_bipush C0 dX7_expands_14 bp_10 ?_
    refine V_iload_n C0 1 rfl 1 rfl dX7_expands_16 ?_
    refine V_iadd C0 dX7_expands_17 ?_
    refine V_iald C0 376 s209 n209 dX7_expands_18 ?_
    refine V_icmpge C0 130 dX7_expands_19 (by decide) (fun _ => ?_) (fun _ => ?_)
    · refine V_iconst C0 dX7_expands_130 ic_1 ?_
      refine V_istore_n C0 2 [(2, .int 1), (0, .ref (G.2 + 208)), (1, .int x1)] rfl (by decide) rfl dX7_expands_131 ?_
      refine V_iconst C0 dX7_expands_132 ic_0 ?_
      refine V_istore_n C0 3 [(3, .int 0), (2, .int 1), (0, .ref (G.2 + 208)), (1, .int x1)] rfl (by decide) rfl dX7_expands_133 ?_
      exact V_sub [2, 3, 1, 0] rfl (f_Md_expands_b134_ok C0 FU x1 1 0 M)
    · refine V_aload_n C0 0 rfl 0 rfl dX7_expands_22 ?_
      refine g7_7 C0 dX7_expands_23 ?_
      refine V_bipush C0 dX7_expands_26 bp_16 ?_
      refine V_bipush C0 dX7_expands_28 bp_60 ?_
      refine V_iload_n C0 1 rfl 1 rfl dX7_expands_30 ?_
      refine V_imul C0 dX7_expands_31 ?_
      refine V_iadd C0 dX7_expands_32 ?_
      refine V_iconst C0 dX7_expands_33 ic_2 ?_
      refine V_iload_n C0 2 rfl 2 rfl dX7_expands_34 ?_
      refine V_imul C0 dX7_expands_35 ?_
      refine V_iadd C0 dX7_expands_36 ?_
      refine V_iconst C0 dX7_expands_37 ic_1 ?_
      refine V_iadd C0 dX7_expands_38 ?_
      refine V_iald C0 376 s209 n209 dX7_expands_39 ?_
      refine V_bi (fun y1 => ?_)
      refine V_istore_n C0 3 [(3, .int y1), (0, .ref (G.2 + 208)), (1, .int x1), (2, .int x2)] rfl (by decide) rfl dX7_expands_40 ?_
      refine V_aload_n C0 0 rfl 1 rfl dX7_expands_41 ?_
      refine V_iload_n C0 1 rfl 2 rfl dX7_expands_42 ?_
      refine V_iload_n C0 2 rfl 3 rfl dX7_expands_43 ?_
      refine k7_152 C0 (by decide) (fun lq rq Mq hh => mc_f_Md_kindAt lq x1 x2 M rq Mq  hh) (Nat.le_of_ble_eq_true rfl) dX7_expands_44 (fun r2 M2 => ?_)
      refine V_iconst C0 dX7_expands_47 ic_2 ?_
      refine V_icmpne C0 112 dX7_expands_48 (by decide) (fun _ => ?_) (fun _ => ?_)
      · exact V_sub [1, 2, 3, 0] rfl (f_Md_expands_b112_ok C0 (f_Md_expands_b9 n) ih x1 x2 y1 M2)
      · refine V_aload_n C0 0 rfl 1 rfl dX7_expands_51 ?_
        refine g7_52 C0 dX7_expands_52 ?_
        refine V_iload_n C0 3 rfl 0 rfl dX7_expands_55 ?_
        refine V_zald C0 6 s223 n223 dX7_expands_56 ?_
        refine V_ifeq C0 112 dX7_expands_57 (by decide) (fun _ => ?_) (fun _ => ?_)
        · exact V_sub [1, 2, 3, 0] rfl (f_Md_expands_b112_ok C0 (f_Md_expands_b9 n) ih x1 x2 y1 M2)
        · refine V_iconst C0 dX7_expands_60 ic_0 ?_
          refine V_istore C0 4 [(4, .int 0), (3, .int y1), (0, .ref (G.2 + 208)), (1, .int x1), (2, .int x2)] (by decide) rfl dX7_expands_61 ?_
          exact V_sub [2, 3, 4, 1, 0] rfl (f_Md_expands_b63_ok C0 (f_Md_expands_b9 n) ih FU x1 x2 y1 0 M2)
set_option maxRecDepth 100000 in
set_option maxHeartbeats 4000000 in
theorem mc_f_Md_expands {G : GT} (l : Launch) (x1 : Int32) (M : Mem) (r : Unit) (M1 : Mem) (ho : f_Md_expands x1 M = some (r, M1)) : MC l G yX7_expands cX7_expands 5 none 1 [.ref (G.2 + 208), .int x1] M (vU r) M1 :=
  MC.ofV (own := RX7) (lv := [(0, .ref (G.2 + 208)), (1, .int x1)]) (by decide +kernel) rfl rfl (Nat.le_of_ble_eq_true rfl) ho (fun X hX C0 => by
    unfold f_Md_expands
    refine V_aload_n C0 0 rfl 0 rfl dX7_expands_0 ?_
    refine g7_49 C0 dX7_expands_1 ?_
    refine V_iload_n C0 1 rfl 1 rfl dX7_expands_4 ?_
    refine V_iconst C0 dX7_expands_5 ic_0 ?_
    refine V_iast C0 6 s222 n222 dX7_expands_6 (fun M1 => ?_)
    refine V_iconst C0 dX7_expands_7 ic_0 ?_
    refine V_istore_n C0 2 [(2, .int 0), (0, .ref (G.2 + 208)), (1, .int x1)] rfl (by decide) rfl dX7_expands_8 ?_
    exact V_sub [1, 2, 0] rfl (f_Md_expands_b9_ok C0 FU x1 0 M1))
set_option maxRecDepth 100000 in
set_option maxHeartbeats 4000000 in
theorem mc_f_Md_cut {G : GT} (l : Launch) (x0 : Int64) (M : Mem) (r : Int32) (M1 : Mem) (ho : f_Md_cut x0 M = some (r, M1)) : MC l G yX7_cut cX7_cut 2 (some .int) 0 [.long x0] M (vI r) M1 :=
  MC.ofV (own := RX7) (lv := [(0, .long x0)]) (by decide +kernel) rfl rfl (Nat.le_of_ble_eq_true rfl) ho (fun X hX C0 => by
    unfold f_Md_cut
    refine V_lload_n C0 0 rfl 0 rfl dX7_cut_0 ?_
    refine V_ldc2 C0 wk7_170 dX7_cut_1 ?_
    refine V_lcmp C0 dX7_cut_4 ?_
    refine V_ifle C0 14 dX7_cut_5 (by decide) (fun _ => ?_) (fun _ => ?_)
    · refine V_lload_n C0 0 rfl 0 rfl dX7_cut_14 ?_
      refine V_ldc2 C0 wk7_172 dX7_cut_15 ?_
      refine V_lcmp C0 dX7_cut_18 ?_
      refine V_ifge C0 28 dX7_cut_19 (by decide) (fun _ => ?_) (fun _ => ?_)
      · refine V_lload_n C0 0 rfl 0 rfl dX7_cut_28 ?_
        refine V_l2i C0 dX7_cut_29 ?_
        exact V_iret C0 dX7_cut_30
      · refine V_ldc2 C0 wk7_172 dX7_cut_22 ?_
        refine V_goto C0 29 dX7_cut_25 (by decide) ?_
        refine V_l2i C0 dX7_cut_29 ?_
        exact V_iret C0 dX7_cut_30
    · refine V_ldc2 C0 wk7_170 dX7_cut_8 ?_
      refine V_goto C0 29 dX7_cut_11 (by decide) ?_
      refine V_l2i C0 dX7_cut_29 ?_
      exact V_iret C0 dX7_cut_30)
set_option maxRecDepth 100000 in
set_option maxHeartbeats 4000000 in
theorem f_Md_joins_b185_ok {X : XT} {G : GT} (C0 : Cx X G cX7_joins 8 RX7 none) (t0 : Int64) (t1 : Int32) (M : Mem) : V X G 1 vU 8 185 [] [.long t0, .int t1, .ref (G.2 + 221)] M (f_Md_joins_b185 t0 t1 M) := by
  unfold f_Md_joins_b185
  refine k7_180 C0 (by decide) (fun lq rq Mq hh => mc_f_Md_cut lq t0 M rq Mq  hh) (Nat.le_of_ble_eq_true rfl) dX7_joins_185 (fun r1 M1 => ?_)
  refine V_iast C0 540 s221 n221 dX7_joins_188 (fun M2 => ?_)
  exact V_vret C0 dX7_joins_189
set_option maxRecDepth 100000 in
set_option maxHeartbeats 4000000 in
theorem f_Md_joins_b119_ok {X : XT} {G : GT} (C0 : Cx X G cX7_joins 8 RX7 none) (x1 : Int32) (x2 : Int32) (x3 : Int32) (t0 : Int32) (t1 : Int32) (t2 : Int32) (M : Mem) : V X G 1 vU 8 119 [(0, .ref (G.2 + 208)), (1, .int x1), (2, .int x2), (3, .int x3)] [.int t0, .int t1, .int t2, .ref (G.2 + 220)] M (f_Md_joins_b119 x1 x2 x3 t0 t1 t2 M) := by
  unfold f_Md_joins_b119
  refine V_iadd C0 dX7_joins_119 ?_
  refine V_iast C0 540 s220 n220 dX7_joins_120 (fun M1 => ?_)
  refine V_aload_n C0 0 rfl 0 rfl dX7_joins_121 ?_
  refine g7_46 C0 dX7_joins_122 ?_
  refine V_iload_n C0 2 rfl 2 rfl dX7_joins_125 ?_
  refine V_iald C0 540 s221 n221 dX7_joins_126 ?_
  refine V_i2l C0 dX7_joins_127 ?_
  refine V_bl (fun y2 => ?_)
  refine V_lstore C0 4 [(4, .long y2), (0, .ref (G.2 + 208)), (1, .int x1), (2, .int x2), (3, .int x3)] (by decide) rfl dX7_joins_128 ?_
  refine V_aload_n C0 0 rfl 1 rfl dX7_joins_130 ?_
  refine g7_46 C0 dX7_joins_131 ?_
  refine V_iload_n C0 3 rfl 4 rfl dX7_joins_134 ?_
  refine V_iald C0 540 s221 n221 dX7_joins_135 ?_
  refine V_i2l C0 dX7_joins_136 ?_
  refine V_bl (fun y3 => ?_)
  refine V_lstore C0 6 [(6, .long y3), (4, .long y2), (0, .ref (G.2 + 208)), (1, .int x1), (2, .int x2), (3, .int x3)] (by decide) rfl dX7_joins_137 ?_
  refine V_aload_n C0 0 rfl 2 rfl dX7_joins_139 ?_
  refine g7_46 C0 dX7_joins_140 ?_
  refine V_iload_n C0 1 rfl 3 rfl dX7_joins_143 ?_
  refine V_aload_n C0 0 rfl 2 rfl dX7_joins_144 ?_
  refine g7_31 C0 dX7_joins_145 ?_
  refine V_iload_n C0 1 rfl 3 rfl dX7_joins_148 ?_
  refine V_iald C0 540 s216 n216 dX7_joins_149 ?_
  refine V_iconst C0 dX7_joins_150 ic_4 ?_
  refine V_icmpne C0 162 dX7_joins_151 (by decide) (fun _ => ?_) (fun _ => ?_)
  · refine V_aload_n C0 0 rfl 2 rfl dX7_joins_162 ?_
    refine g7_31 C0 dX7_joins_163 ?_
    refine V_iload_n C0 1 rfl 3 rfl dX7_joins_166 ?_
    refine V_iald C0 540 s216 n216 dX7_joins_167 ?_
    refine V_iconst C0 dX7_joins_168 ic_5 ?_
    refine V_icmpne C0 180 dX7_joins_169 (by decide) (fun _ => ?_) (fun _ => ?_)
    · refine V_lload C0 4 1 rfl dX7_joins_180 ?_
      refine V_lload C0 6 0 rfl dX7_joins_182 ?_
      refine V_lmul C0 dX7_joins_184 ?_
      exact V_sub [] rfl (f_Md_joins_b185_ok C0 (y2 * y3) x1 M1)
    · refine V_lload C0 4 1 rfl dX7_joins_172 ?_
      refine V_lload C0 6 0 rfl dX7_joins_174 ?_
      refine V_lsub C0 dX7_joins_176 ?_
      refine V_goto C0 185 dX7_joins_177 (by decide) ?_
      exact V_sub [] rfl (f_Md_joins_b185_ok C0 (y2 - y3) x1 M1)
  · refine V_lload C0 4 1 rfl dX7_joins_154 ?_
    refine V_lload C0 6 0 rfl dX7_joins_156 ?_
    refine V_ladd C0 dX7_joins_158 ?_
    refine V_goto C0 185 dX7_joins_159 (by decide) ?_
    exact V_sub [] rfl (f_Md_joins_b185_ok C0 (y2 + y3) x1 M1)
set_option maxRecDepth 100000 in
set_option maxHeartbeats 4000000 in
theorem f_Md_joins_b82_ok {X : XT} {G : GT} (C0 : Cx X G cX7_joins 8 RX7 none) (x1 : Int32) (x2 : Int32) (x3 : Int32) (t0 : Int32) (t1 : Int32) (M : Mem) : V X G 1 vU 8 82 [(0, .ref (G.2 + 208)), (1, .int x1), (2, .int x2), (3, .int x3)] [.int t0, .int t1, .ref (G.2 + 219)] M (f_Md_joins_b82 x1 x2 x3 t0 t1 M) := by
  unfold f_Md_joins_b82
  refine V_iast C0 540 s219 n219 dX7_joins_82 (fun M1 => ?_)
  refine V_aload_n C0 0 rfl 0 rfl dX7_joins_83 ?_
  refine g7_43 C0 dX7_joins_84 ?_
  refine V_iload_n C0 1 rfl 1 rfl dX7_joins_87 ?_
  refine V_iconst C0 dX7_joins_88 ic_1 ?_
  refine V_aload_n C0 0 rfl 0 rfl dX7_joins_89 ?_
  refine g7_43 C0 dX7_joins_90 ?_
  refine V_iload_n C0 2 rfl 2 rfl dX7_joins_93 ?_
  refine V_iald C0 540 s220 n220 dX7_joins_94 ?_
  refine V_aload_n C0 0 rfl 0 rfl dX7_joins_95 ?_
  refine g7_43 C0 dX7_joins_96 ?_
  refine V_iload_n C0 3 rfl 3 rfl dX7_joins_99 ?_
  refine V_iald C0 540 s220 n220 dX7_joins_100 ?_
  refine V_icmple C0 113 dX7_joins_101 (by decide) (fun _ => ?_) (fun _ => ?_)
  · refine V_aload_n C0 0 rfl 0 rfl dX7_joins_113 ?_
    refine g7_43 C0 dX7_joins_114 ?_
    refine V_iload_n C0 3 rfl 3 rfl dX7_joins_117 ?_
    refine V_iald C0 540 s220 n220 dX7_joins_118 ?_
    exact V_sub [0, 1, 2, 3] rfl (f_Md_joins_b119_ok C0 x1 x2 x3 (M1.1 220 (ix x3)) 1 x1 M1)
  · refine V_aload_n C0 0 rfl 0 rfl dX7_joins_104 ?_
    refine g7_43 C0 dX7_joins_105 ?_
    refine V_iload_n C0 2 rfl 2 rfl dX7_joins_108 ?_
    refine V_iald C0 540 s220 n220 dX7_joins_109 ?_
    refine V_goto C0 119 dX7_joins_110 (by decide) ?_
    exact V_sub [0, 1, 2, 3] rfl (f_Md_joins_b119_ok C0 x1 x2 x3 (M1.1 220 (ix x2)) 1 x1 M1)
set_option maxRecDepth 100000 in
set_option maxHeartbeats 4000000 in
theorem mc_f_Md_joins {G : GT} (l : Launch) (x1 : Int32) (x2 : Int32) (x3 : Int32) (M : Mem) (r : Unit) (M1 : Mem) (ho : f_Md_joins x1 x2 x3 M = some (r, M1)) : MC l G yX7_joins cX7_joins 8 none 1 [.ref (G.2 + 208), .int x1, .int x2, .int x3] M (vU r) M1 :=
  MC.ofV (own := RX7) (lv := [(0, .ref (G.2 + 208)), (1, .int x1), (2, .int x2), (3, .int x3)]) (by decide +kernel) rfl rfl (Nat.le_of_ble_eq_true rfl) ho (fun X hX C0 => by
    unfold f_Md_joins
    refine V_aload_n C0 0 rfl 0 rfl dX7_joins_0 ?_
    refine g7_37 C0 dX7_joins_1 ?_
    refine V_iload_n C0 1 rfl 1 rfl dX7_joins_4 ?_
    refine V_aload_n C0 0 rfl 0 rfl dX7_joins_5 ?_
    refine g7_37 C0 dX7_joins_6 ?_
    refine V_iload_n C0 2 rfl 2 rfl dX7_joins_9 ?_
    refine V_iald C0 540 s218 n218 dX7_joins_10 ?_
    refine V_aload_n C0 0 rfl 0 rfl dX7_joins_11 ?_
    refine g7_37 C0 dX7_joins_12 ?_
    refine V_iload_n C0 3 rfl 3 rfl dX7_joins_15 ?_
    refine V_iald C0 540 s218 n218 dX7_joins_16 ?_
    refine V_iadd C0 dX7_joins_17 ?_
    refine V_iconst C0 dX7_joins_18 ic_1 ?_
    refine V_iadd C0 dX7_joins_19 ?_
    refine V_iast C0 540 s218 n218 dX7_joins_20 (fun M1 => ?_)
    refine V_aload_n C0 0 rfl 0 rfl dX7_joins_21 ?_
    refine g7_40 C0 dX7_joins_22 ?_
    refine V_iload_n C0 1 rfl 1 rfl dX7_joins_25 ?_
    refine V_aload_n C0 0 rfl 0 rfl dX7_joins_26 ?_
    refine g7_40 C0 dX7_joins_27 ?_
    refine V_iload_n C0 2 rfl 2 rfl dX7_joins_30 ?_
    refine V_iald C0 540 s219 n219 dX7_joins_31 ?_
    refine V_aload_n C0 0 rfl 0 rfl dX7_joins_32 ?_
    refine g7_40 C0 dX7_joins_33 ?_
    refine V_iload_n C0 3 rfl 3 rfl dX7_joins_36 ?_
    refine V_iald C0 540 s219 n219 dX7_joins_37 ?_
    refine V_icmpne C0 52 dX7_joins_38 (by decide) (fun _ => ?_) (fun _ => ?_)
    · refine V_aload_n C0 0 rfl 0 rfl dX7_joins_52 ?_
      refine g7_40 C0 dX7_joins_53 ?_
      refine V_iload_n C0 2 rfl 2 rfl dX7_joins_56 ?_
      refine V_iald C0 540 s219 n219 dX7_joins_57 ?_
      refine V_aload_n C0 0 rfl 0 rfl dX7_joins_58 ?_
      refine g7_40 C0 dX7_joins_59 ?_
      refine V_iload_n C0 3 rfl 3 rfl dX7_joins_62 ?_
      refine V_iald C0 540 s219 n219 dX7_joins_63 ?_
      refine V_icmple C0 76 dX7_joins_64 (by decide) (fun _ => ?_) (fun _ => ?_)
      · refine V_aload_n C0 0 rfl 0 rfl dX7_joins_76 ?_
        refine g7_40 C0 dX7_joins_77 ?_
        refine V_iload_n C0 3 rfl 3 rfl dX7_joins_80 ?_
        refine V_iald C0 540 s219 n219 dX7_joins_81 ?_
        exact V_sub [0, 1, 2, 3] rfl (f_Md_joins_b82_ok C0 x1 x2 x3 (M1.1 219 (ix x3)) x1 M1)
      · refine V_aload_n C0 0 rfl 0 rfl dX7_joins_67 ?_
        refine g7_40 C0 dX7_joins_68 ?_
        refine V_iload_n C0 2 rfl 2 rfl dX7_joins_71 ?_
        refine V_iald C0 540 s219 n219 dX7_joins_72 ?_
        refine V_goto C0 82 dX7_joins_73 (by decide) ?_
        exact V_sub [0, 1, 2, 3] rfl (f_Md_joins_b82_ok C0 x1 x2 x3 (M1.1 219 (ix x2)) x1 M1)
    · refine V_aload_n C0 0 rfl 0 rfl dX7_joins_41 ?_
      refine g7_40 C0 dX7_joins_42 ?_
      refine V_iload_n C0 2 rfl 2 rfl dX7_joins_45 ?_
      refine V_iald C0 540 s219 n219 dX7_joins_46 ?_
      refine V_iconst C0 dX7_joins_47 ic_1 ?_
      refine V_iadd C0 dX7_joins_48 ?_
      refine V_goto C0 82 dX7_joins_49 (by decide) ?_
      exact V_sub [0, 1, 2, 3] rfl (f_Md_joins_b82_ok C0 x1 x2 x3 ((M1.1 219 (ix x2)) + 1) x1 M1))
set_option maxRecDepth 100000 in
set_option maxHeartbeats 4000000 in
theorem mc_f_Md_tells {G : GT} (l : Launch) (x1 : Int32) (x2 : Int32) (M : Mem) (r : Unit) (M1 : Mem) (ho : f_Md_tells x1 x2 M = some (r, M1)) : MC l G yX7_tells cX7_tells 4 none 2 [.ref (G.2 + 208), .int x1, .int x2] M (vU r) M1 :=
  MC.ofV (own := RX7) (lv := [(0, .ref (G.2 + 208)), (1, .int x1), (2, .int x2)]) (by decide +kernel) rfl rfl (Nat.le_of_ble_eq_true rfl) ho (fun X hX C0 => by
    unfold f_Md_tells
    refine V_aload_n C0 0 rfl 0 rfl dX7_tells_0 ?_
    refine g7_34 C0 dX7_tells_1 ?_
    refine V_iload_n C0 2 rfl 2 rfl dX7_tells_4 ?_
    refine V_iald C0 540 s217 n217 dX7_tells_5 ?_
    refine V_bi (fun y1 => ?_)
    refine V_istore_n C0 3 [(3, .int y1), (0, .ref (G.2 + 208)), (1, .int x1), (2, .int x2)] rfl (by decide) rfl dX7_tells_6 ?_
    refine V_aload_n C0 0 rfl 1 rfl dX7_tells_7 ?_
    refine g7_31 C0 dX7_tells_8 ?_
    refine V_iload_n C0 2 rfl 3 rfl dX7_tells_11 ?_
    refine V_iald C0 540 s216 n216 dX7_tells_12 ?_
    refine V_ts C0 0 44 dX7_tells_13 (by decide) (by decide) rfl (by decide) (fun _ => ?_) (fun hs0 => ?_)
    · refine V_aload_n C0 0 rfl 1 rfl dX7_tells_44 ?_
      refine g7_37 C0 dX7_tells_45 ?_
      refine V_iload_n C0 2 rfl 3 rfl dX7_tells_48 ?_
      refine V_iconst C0 dX7_tells_49 ic_1 ?_
      refine V_iast C0 540 s218 n218 dX7_tells_50 (fun M2 => ?_)
      refine V_aload_n C0 0 rfl 1 rfl dX7_tells_51 ?_
      refine g7_40 C0 dX7_tells_52 ?_
      refine V_iload_n C0 2 rfl 3 rfl dX7_tells_55 ?_
      refine V_iconst C0 dX7_tells_56 ic_1 ?_
      refine V_iast C0 540 s219 n219 dX7_tells_57 (fun M3 => ?_)
      refine V_aload_n C0 0 rfl 1 rfl dX7_tells_58 ?_
      refine g7_43 C0 dX7_tells_59 ?_
      refine V_iload_n C0 2 rfl 3 rfl dX7_tells_62 ?_
      refine V_iconst C0 dX7_tells_63 ic_1 ?_
      refine V_iast C0 540 s220 n220 dX7_tells_64 (fun M4 => ?_)
      refine V_aload_n C0 0 rfl 1 rfl dX7_tells_65 ?_
      refine g7_46 C0 dX7_tells_66 ?_
      refine V_iload_n C0 2 rfl 3 rfl dX7_tells_69 ?_
      refine V_aload_n C0 0 rfl 1 rfl dX7_tells_70 ?_
      refine g7_31 C0 dX7_tells_71 ?_
      refine V_iload_n C0 2 rfl 3 rfl dX7_tells_74 ?_
      refine V_iald C0 540 s216 n216 dX7_tells_75 ?_
      refine V_ifne C0 83 dX7_tells_76 (by decide) (fun _ => ?_) (fun _ => ?_)
      · refine V_aload_n C0 0 rfl 1 rfl dX7_tells_83 ?_
        refine g7_31 C0 dX7_tells_84 ?_
        refine V_iload_n C0 2 rfl 3 rfl dX7_tells_87 ?_
        refine V_iald C0 540 s216 n216 dX7_tells_88 ?_
        refine V_iconst C0 dX7_tells_89 ic_1 ?_
        refine V_icmpne C0 104 dX7_tells_90 (by decide) (fun _ => ?_) (fun _ => ?_)
        · refine V_aload_n C0 0 rfl 1 rfl dX7_tells_104 ?_
          refine g7_46 C0 dX7_tells_105 ?_
          refine V_bipush C0 dX7_tells_108 bp_90 ?_
          refine V_iload_n C0 3 rfl 0 rfl dX7_tells_110 ?_
          refine V_imul C0 dX7_tells_111 ?_
          refine V_iald C0 540 s221 n221 dX7_tells_112 ?_
          refine V_iast C0 540 s221 n221 dX7_tells_113 (fun M5 => ?_)
          refine V_goto C0 201 dX7_tells_114 (by decide) ?_
          exact V_vret C0 dX7_tells_201
        · refine V_aload_n C0 0 rfl 1 rfl dX7_tells_93 ?_
          refine g7_7 C0 dX7_tells_94 ?_
          refine V_iconst C0 dX7_tells_97 ic_2 ?_
          refine V_iload_n C0 3 rfl 0 rfl dX7_tells_98 ?_
          refine V_iadd C0 dX7_tells_99 ?_
          refine V_iald C0 376 s209 n209 dX7_tells_100 ?_
          refine V_goto C0 113 dX7_tells_101 (by decide) ?_
          refine V_iast C0 540 s221 n221 dX7_tells_113 (fun M6 => ?_)
          refine V_goto C0 201 dX7_tells_114 (by decide) ?_
          exact V_vret C0 dX7_tells_201
      · refine V_iload_n C0 3 rfl 0 rfl dX7_tells_79 ?_
        refine V_goto C0 113 dX7_tells_80 (by decide) ?_
        refine V_iast C0 540 s221 n221 dX7_tells_113 (fun M7 => ?_)
        refine V_goto C0 201 dX7_tells_114 (by decide) ?_
        exact V_vret C0 dX7_tells_201
    refine V_ts C0 1 44 dX7_tells_13 (by decide) (by decide) rfl (by decide) (fun _ => ?_) (fun hs1 => ?_)
    · refine V_aload_n C0 0 rfl 1 rfl dX7_tells_44 ?_
      refine g7_37 C0 dX7_tells_45 ?_
      refine V_iload_n C0 2 rfl 3 rfl dX7_tells_48 ?_
      refine V_iconst C0 dX7_tells_49 ic_1 ?_
      refine V_iast C0 540 s218 n218 dX7_tells_50 (fun M8 => ?_)
      refine V_aload_n C0 0 rfl 1 rfl dX7_tells_51 ?_
      refine g7_40 C0 dX7_tells_52 ?_
      refine V_iload_n C0 2 rfl 3 rfl dX7_tells_55 ?_
      refine V_iconst C0 dX7_tells_56 ic_1 ?_
      refine V_iast C0 540 s219 n219 dX7_tells_57 (fun M9 => ?_)
      refine V_aload_n C0 0 rfl 1 rfl dX7_tells_58 ?_
      refine g7_43 C0 dX7_tells_59 ?_
      refine V_iload_n C0 2 rfl 3 rfl dX7_tells_62 ?_
      refine V_iconst C0 dX7_tells_63 ic_1 ?_
      refine V_iast C0 540 s220 n220 dX7_tells_64 (fun M10 => ?_)
      refine V_aload_n C0 0 rfl 1 rfl dX7_tells_65 ?_
      refine g7_46 C0 dX7_tells_66 ?_
      refine V_iload_n C0 2 rfl 3 rfl dX7_tells_69 ?_
      refine V_aload_n C0 0 rfl 1 rfl dX7_tells_70 ?_
      refine g7_31 C0 dX7_tells_71 ?_
      refine V_iload_n C0 2 rfl 3 rfl dX7_tells_74 ?_
      refine V_iald C0 540 s216 n216 dX7_tells_75 ?_
      refine V_ifne C0 83 dX7_tells_76 (by decide) (fun _ => ?_) (fun _ => ?_)
      · refine V_aload_n C0 0 rfl 1 rfl dX7_tells_83 ?_
        refine g7_31 C0 dX7_tells_84 ?_
        refine V_iload_n C0 2 rfl 3 rfl dX7_tells_87 ?_
        refine V_iald C0 540 s216 n216 dX7_tells_88 ?_
        refine V_iconst C0 dX7_tells_89 ic_1 ?_
        refine V_icmpne C0 104 dX7_tells_90 (by decide) (fun _ => ?_) (fun _ => ?_)
        · refine V_aload_n C0 0 rfl 1 rfl dX7_tells_104 ?_
          refine g7_46 C0 dX7_tells_105 ?_
          refine V_bipush C0 dX7_tells_108 bp_90 ?_
          refine V_iload_n C0 3 rfl 0 rfl dX7_tells_110 ?_
          refine V_imul C0 dX7_tells_111 ?_
          refine V_iald C0 540 s221 n221 dX7_tells_112 ?_
          refine V_iast C0 540 s221 n221 dX7_tells_113 (fun M11 => ?_)
          refine V_goto C0 201 dX7_tells_114 (by decide) ?_
          exact V_vret C0 dX7_tells_201
        · refine V_aload_n C0 0 rfl 1 rfl dX7_tells_93 ?_
          refine g7_7 C0 dX7_tells_94 ?_
          refine V_iconst C0 dX7_tells_97 ic_2 ?_
          refine V_iload_n C0 3 rfl 0 rfl dX7_tells_98 ?_
          refine V_iadd C0 dX7_tells_99 ?_
          refine V_iald C0 376 s209 n209 dX7_tells_100 ?_
          refine V_goto C0 113 dX7_tells_101 (by decide) ?_
          refine V_iast C0 540 s221 n221 dX7_tells_113 (fun M12 => ?_)
          refine V_goto C0 201 dX7_tells_114 (by decide) ?_
          exact V_vret C0 dX7_tells_201
      · refine V_iload_n C0 3 rfl 0 rfl dX7_tells_79 ?_
        refine V_goto C0 113 dX7_tells_80 (by decide) ?_
        refine V_iast C0 540 s221 n221 dX7_tells_113 (fun M13 => ?_)
        refine V_goto C0 201 dX7_tells_114 (by decide) ?_
        exact V_vret C0 dX7_tells_201
    refine V_ts C0 2 44 dX7_tells_13 (by decide) (by decide) rfl (by decide) (fun _ => ?_) (fun hs2 => ?_)
    · refine V_aload_n C0 0 rfl 1 rfl dX7_tells_44 ?_
      refine g7_37 C0 dX7_tells_45 ?_
      refine V_iload_n C0 2 rfl 3 rfl dX7_tells_48 ?_
      refine V_iconst C0 dX7_tells_49 ic_1 ?_
      refine V_iast C0 540 s218 n218 dX7_tells_50 (fun M14 => ?_)
      refine V_aload_n C0 0 rfl 1 rfl dX7_tells_51 ?_
      refine g7_40 C0 dX7_tells_52 ?_
      refine V_iload_n C0 2 rfl 3 rfl dX7_tells_55 ?_
      refine V_iconst C0 dX7_tells_56 ic_1 ?_
      refine V_iast C0 540 s219 n219 dX7_tells_57 (fun M15 => ?_)
      refine V_aload_n C0 0 rfl 1 rfl dX7_tells_58 ?_
      refine g7_43 C0 dX7_tells_59 ?_
      refine V_iload_n C0 2 rfl 3 rfl dX7_tells_62 ?_
      refine V_iconst C0 dX7_tells_63 ic_1 ?_
      refine V_iast C0 540 s220 n220 dX7_tells_64 (fun M16 => ?_)
      refine V_aload_n C0 0 rfl 1 rfl dX7_tells_65 ?_
      refine g7_46 C0 dX7_tells_66 ?_
      refine V_iload_n C0 2 rfl 3 rfl dX7_tells_69 ?_
      refine V_aload_n C0 0 rfl 1 rfl dX7_tells_70 ?_
      refine g7_31 C0 dX7_tells_71 ?_
      refine V_iload_n C0 2 rfl 3 rfl dX7_tells_74 ?_
      refine V_iald C0 540 s216 n216 dX7_tells_75 ?_
      refine V_ifne C0 83 dX7_tells_76 (by decide) (fun _ => ?_) (fun _ => ?_)
      · refine V_aload_n C0 0 rfl 1 rfl dX7_tells_83 ?_
        refine g7_31 C0 dX7_tells_84 ?_
        refine V_iload_n C0 2 rfl 3 rfl dX7_tells_87 ?_
        refine V_iald C0 540 s216 n216 dX7_tells_88 ?_
        refine V_iconst C0 dX7_tells_89 ic_1 ?_
        refine V_icmpne C0 104 dX7_tells_90 (by decide) (fun _ => ?_) (fun _ => ?_)
        · refine V_aload_n C0 0 rfl 1 rfl dX7_tells_104 ?_
          refine g7_46 C0 dX7_tells_105 ?_
          refine V_bipush C0 dX7_tells_108 bp_90 ?_
          refine V_iload_n C0 3 rfl 0 rfl dX7_tells_110 ?_
          refine V_imul C0 dX7_tells_111 ?_
          refine V_iald C0 540 s221 n221 dX7_tells_112 ?_
          refine V_iast C0 540 s221 n221 dX7_tells_113 (fun M17 => ?_)
          refine V_goto C0 201 dX7_tells_114 (by decide) ?_
          exact V_vret C0 dX7_tells_201
        · refine V_aload_n C0 0 rfl 1 rfl dX7_tells_93 ?_
          refine g7_7 C0 dX7_tells_94 ?_
          refine V_iconst C0 dX7_tells_97 ic_2 ?_
          refine V_iload_n C0 3 rfl 0 rfl dX7_tells_98 ?_
          refine V_iadd C0 dX7_tells_99 ?_
          refine V_iald C0 376 s209 n209 dX7_tells_100 ?_
          refine V_goto C0 113 dX7_tells_101 (by decide) ?_
          refine V_iast C0 540 s221 n221 dX7_tells_113 (fun M18 => ?_)
          refine V_goto C0 201 dX7_tells_114 (by decide) ?_
          exact V_vret C0 dX7_tells_201
      · refine V_iload_n C0 3 rfl 0 rfl dX7_tells_79 ?_
        refine V_goto C0 113 dX7_tells_80 (by decide) ?_
        refine V_iast C0 540 s221 n221 dX7_tells_113 (fun M19 => ?_)
        refine V_goto C0 201 dX7_tells_114 (by decide) ?_
        exact V_vret C0 dX7_tells_201
    refine V_ts C0 3 117 dX7_tells_13 (by decide) (by decide) rfl (by decide) (fun _ => ?_) (fun hs3 => ?_)
    · refine V_aload_n C0 0 rfl 1 rfl dX7_tells_117 ?_
      refine g7_37 C0 dX7_tells_118 ?_
      refine V_iload_n C0 2 rfl 3 rfl dX7_tells_121 ?_
      refine V_aload_n C0 0 rfl 1 rfl dX7_tells_122 ?_
      refine g7_37 C0 dX7_tells_123 ?_
      refine V_iload_n C0 2 rfl 3 rfl dX7_tells_126 ?_
      refine V_iconst C0 dX7_tells_127 ic_1 ?_
      refine V_iadd C0 dX7_tells_128 ?_
      refine V_iald C0 540 s218 n218 dX7_tells_129 ?_
      refine V_iconst C0 dX7_tells_130 ic_1 ?_
      refine V_iadd C0 dX7_tells_131 ?_
      refine V_iast C0 540 s218 n218 dX7_tells_132 (fun M20 => ?_)
      refine V_aload_n C0 0 rfl 1 rfl dX7_tells_133 ?_
      refine g7_40 C0 dX7_tells_134 ?_
      refine V_iload_n C0 2 rfl 3 rfl dX7_tells_137 ?_
      refine V_aload_n C0 0 rfl 1 rfl dX7_tells_138 ?_
      refine g7_40 C0 dX7_tells_139 ?_
      refine V_iload_n C0 2 rfl 3 rfl dX7_tells_142 ?_
      refine V_iconst C0 dX7_tells_143 ic_1 ?_
      refine V_iadd C0 dX7_tells_144 ?_
      refine V_iald C0 540 s219 n219 dX7_tells_145 ?_
      refine V_iast C0 540 s219 n219 dX7_tells_146 (fun M21 => ?_)
      refine V_aload_n C0 0 rfl 1 rfl dX7_tells_147 ?_
      refine g7_43 C0 dX7_tells_148 ?_
      refine V_iload_n C0 2 rfl 3 rfl dX7_tells_151 ?_
      refine V_aload_n C0 0 rfl 1 rfl dX7_tells_152 ?_
      refine g7_43 C0 dX7_tells_153 ?_
      refine V_iload_n C0 2 rfl 3 rfl dX7_tells_156 ?_
      refine V_iconst C0 dX7_tells_157 ic_1 ?_
      refine V_iadd C0 dX7_tells_158 ?_
      refine V_iald C0 540 s220 n220 dX7_tells_159 ?_
      refine V_iconst C0 dX7_tells_160 ic_1 ?_
      refine V_iadd C0 dX7_tells_161 ?_
      refine V_iast C0 540 s220 n220 dX7_tells_162 (fun M22 => ?_)
      refine V_aload_n C0 0 rfl 1 rfl dX7_tells_163 ?_
      refine g7_46 C0 dX7_tells_164 ?_
      refine V_iload_n C0 2 rfl 3 rfl dX7_tells_167 ?_
      refine V_aload_n C0 0 rfl 1 rfl dX7_tells_168 ?_
      refine g7_46 C0 dX7_tells_169 ?_
      refine V_iload_n C0 2 rfl 3 rfl dX7_tells_172 ?_
      refine V_iconst C0 dX7_tells_173 ic_1 ?_
      refine V_iadd C0 dX7_tells_174 ?_
      refine V_iald C0 540 s221 n221 dX7_tells_175 ?_
      refine V_ineg C0 dX7_tells_176 ?_
      refine V_iast C0 540 s221 n221 dX7_tells_177 (fun M23 => ?_)
      refine V_goto C0 201 dX7_tells_178 (by decide) ?_
      exact V_vret C0 dX7_tells_201
    refine V_tsO C0 181 dX7_tells_13 (by have hz0 := lv_neT hs0 (a := 0) rfl; have hz1 := lv_neT hs1 (a := 1) rfl; have hz2 := lv_neT hs2 (a := 2) rfl; have hz3 := lv_neT hs3 (a := 3) rfl; omega) (by decide) ?_
    refine V_aload_n C0 0 rfl 1 rfl dX7_tells_181 ?_
    refine V_iload_n C0 2 rfl 3 rfl dX7_tells_182 ?_
    refine V_iload_n C0 2 rfl 3 rfl dX7_tells_183 ?_
    refine V_iconst C0 dX7_tells_184 ic_1 ?_
    refine V_iadd C0 dX7_tells_185 ?_
    refine V_iload_n C0 2 rfl 3 rfl dX7_tells_186 ?_
    refine V_iconst C0 dX7_tells_187 ic_1 ?_
    refine V_iadd C0 dX7_tells_188 ?_
    refine V_aload_n C0 0 rfl 1 rfl dX7_tells_189 ?_
    refine g7_37 C0 dX7_tells_190 ?_
    refine V_iload_n C0 2 rfl 3 rfl dX7_tells_193 ?_
    refine V_iconst C0 dX7_tells_194 ic_1 ?_
    refine V_iadd C0 dX7_tells_195 ?_
    refine V_iald C0 540 s218 n218 dX7_tells_196 ?_
    refine V_iadd C0 dX7_tells_197 ?_
    refine k7_177 C0 (by decide) (fun lq rq Mq hh => mc_f_Md_joins lq x2 (x2 + 1) ((x2 + 1) + (M.1 218 (ix (x2 + 1)))) M rq Mq  hh) (Nat.le_of_ble_eq_true rfl) dX7_tells_198 (fun _ M24 => ?_)
    exact V_vret C0 dX7_tells_201)
set_option maxRecDepth 100000 in
set_option maxHeartbeats 4000000 in
theorem f_Md_lays_b26_ok {X : XT} {G : GT} (C0 : Cx X G cX7_lays 3 RX7 none) (k2 : Int32 → Mem → Option (Unit × Mem)) (hk2 : ∀ (x1 : Int32) (M : Mem), V X G 3 vU 3 2 [(0, .ref (G.2 + 208)), (1, .int x1)] [] M (k2 x1 M)) : ∀ (n : Nat) (x1 : Int32) (x2 : Int32) (M : Mem), V X G 3 vU 3 26 [(0, .ref (G.2 + 208)), (1, .int x1), (2, .int x2)] [] M (f_Md_lays_b26 k2 n x1 x2 M) := by
  intro n
  induction n with
  | zero =>
    intros
    exact V_none
  | succ n ih =>
    intro x1 x2 M
    rw [f_Md_lays_b26]
    refine V_iload_n C0 2 rfl 2 rfl dX7_lays_26 ?_
    refine V_iflt C0 47 dX7_lays_27 (by decide) (fun _ => ?_) (fun _ => ?_)
    · refine V_iincB C0 1 1 (fun y1 => [(1, .int y1), (0, .ref (G.2 + 208)), (2, .int x2)]) rfl ic_1 (by decide) (fun _ => rfl) dX7_lays_47 (fun y1 => ?_)
      refine V_goto C0 2 dX7_lays_50 (by decide) ?_
      exact V_sub [1, 0] rfl (hk2 y1 M)
    · refine V_aload_n C0 0 rfl 0 rfl dX7_lays_30 ?_
      refine V_iload_n C0 1 rfl 1 rfl dX7_lays_31 ?_
      refine V_bipush C0 dX7_lays_32 bp_90 ?_
      refine V_iload_n C0 1 rfl 1 rfl dX7_lays_34 ?_
      refine V_imul C0 dX7_lays_35 ?_
      refine V_iload_n C0 2 rfl 2 rfl dX7_lays_36 ?_
      refine V_iadd C0 dX7_lays_37 ?_
      refine k7_187 C0 (by decide) (fun lq rq Mq hh => mc_f_Md_tells lq x1 ((90 * x1) + x2) M rq Mq  hh) (Nat.le_of_ble_eq_true rfl) dX7_lays_38 (fun _ M2 => ?_)
      refine V_iincB C0 2 2 (fun y3 => [(2, .int y3), (0, .ref (G.2 + 208)), (1, .int x1)]) rfl ic_m1 (by decide) (fun _ => rfl) dX7_lays_41 (fun y3 => ?_)
      refine V_goto C0 26 dX7_lays_44 (by decide) ?_
      exact V_sub [1, 2, 0] rfl (ih x1 y3 M2)
set_option maxRecDepth 100000 in
set_option maxHeartbeats 4000000 in
theorem f_Md_lays_b2_ok {X : XT} {G : GT} (C0 : Cx X G cX7_lays 3 RX7 none) : ∀ (n : Nat) (x1 : Int32) (M : Mem), V X G 3 vU 3 2 [(0, .ref (G.2 + 208)), (1, .int x1)] [] M (f_Md_lays_b2 n x1 M) := by
  intro n
  induction n with
  | zero =>
    intros
    exact V_none
  | succ n ih =>
    intro x1 M
    rw [f_Md_lays_b2]
    refine V_iload_n C0 1 rfl 1 rfl dX7_lays_2 ?_
    refine V_aload_n C0 0 rfl 0 rfl dX7_lays_3 ?_
    refine g7_7 C0 dX7_lays_4 ?_
    refine V_iconst C0 dX7_lays_7 ic_0 ?_
    refine V_iald C0 376 s209 n209 dX7_lays_8 ?_
    refine V_icmpge C0 53 dX7_lays_9 (by decide) (fun _ => ?_) (fun _ => ?_)
    · exact V_vret C0 dX7_lays_53
    · refine V_aload_n C0 0 rfl 0 rfl dX7_lays_12 ?_
      refine V_iload_n C0 1 rfl 1 rfl dX7_lays_13 ?_
      refine k7_184 C0 (by decide) (fun lq rq Mq hh => mc_f_Md_expands lq x1 M rq Mq  hh) (Nat.le_of_ble_eq_true rfl) dX7_lays_14 (fun _ M1 => ?_)
      refine V_aload_n C0 0 rfl 0 rfl dX7_lays_17 ?_
      refine g7_49 C0 dX7_lays_18 ?_
      refine V_iload_n C0 1 rfl 1 rfl dX7_lays_21 ?_
      refine V_iald C0 6 s222 n222 dX7_lays_22 ?_
      refine V_iconst C0 dX7_lays_23 ic_1 ?_
      refine V_isub C0 dX7_lays_24 ?_
      refine V_bi (fun y2 => ?_)
      refine V_istore_n C0 2 [(2, .int y2), (0, .ref (G.2 + 208)), (1, .int x1)] rfl (by decide) rfl dX7_lays_25 ?_
      exact V_sub [1, 2, 0] rfl (f_Md_lays_b26_ok C0 (f_Md_lays_b2 n) ih FU x1 y2 M1)
set_option maxRecDepth 100000 in
set_option maxHeartbeats 4000000 in
theorem mc_f_Md_lays {G : GT} (l : Launch) (M : Mem) (r : Unit) (M1 : Mem) (ho : f_Md_lays  M = some (r, M1)) : MC l G yX7_lays cX7_lays 3 none 3 [.ref (G.2 + 208)] M (vU r) M1 :=
  MC.ofV (own := RX7) (lv := [(0, .ref (G.2 + 208))]) (by decide +kernel) rfl rfl (Nat.le_of_ble_eq_true rfl) ho (fun X hX C0 => by
    unfold f_Md_lays
    refine V_iconst C0 dX7_lays_0 ic_0 ?_
    refine V_istore_n C0 1 [(1, .int 0), (0, .ref (G.2 + 208))] rfl (by decide) rfl dX7_lays_1 ?_
    exact V_sub [1, 0] rfl (f_Md_lays_b2_ok C0 FU 0 M))
set_option maxRecDepth 100000 in
set_option maxHeartbeats 4000000 in
theorem mc_f_Md_pushes {G : GT} (l : Launch) (x1 : Int32) (x2 : Int32) (M : Mem) (r : Unit) (M1 : Mem) (ho : f_Md_pushes x1 x2 M = some (r, M1)) : MC l G yX7_pushes cX7_pushes 3 none 0 [.ref (G.2 + 208), .int x1, .int x2] M (vU r) M1 :=
  MC.ofV (own := RX7) (lv := [(0, .ref (G.2 + 208)), (1, .int x1), (2, .int x2)]) (by decide +kernel) rfl rfl (Nat.le_of_ble_eq_true rfl) ho (fun X hX C0 => by
    unfold f_Md_pushes
    refine V_aload_n C0 0 rfl 0 rfl dX7_pushes_0 ?_
    refine g7_59 C0 dX7_pushes_1 ?_
    refine V_aload_n C0 0 rfl 0 rfl dX7_pushes_4 ?_
    refine g7_224 C0 dX7_pushes_5 ?_
    refine V_iload_n C0 1 rfl 1 rfl dX7_pushes_8 ?_
    refine V_iast C0 100 s225 n225 dX7_pushes_9 (fun M1 => ?_)
    refine V_aload_n C0 0 rfl 0 rfl dX7_pushes_10 ?_
    refine g7_62 C0 dX7_pushes_11 ?_
    refine V_aload_n C0 0 rfl 0 rfl dX7_pushes_14 ?_
    refine g7_224 C0 dX7_pushes_15 ?_
    refine V_iload_n C0 2 rfl 2 rfl dX7_pushes_18 ?_
    refine V_iast C0 100 s226 n226 dX7_pushes_19 (fun M2 => ?_)
    refine V_aload_n C0 0 rfl 0 rfl dX7_pushes_20 ?_
    refine g7_65 C0 dX7_pushes_21 ?_
    refine V_aload_n C0 0 rfl 0 rfl dX7_pushes_24 ?_
    refine g7_224 C0 dX7_pushes_25 ?_
    refine V_iconst C0 dX7_pushes_28 ic_0 ?_
    refine V_iast C0 100 s227 n227 dX7_pushes_29 (fun M3 => ?_)
    refine V_aload_n C0 0 rfl 0 rfl dX7_pushes_30 ?_
    refine V_dup C0 rfl dX7_pushes_31 ?_
    refine g7_224 C0 dX7_pushes_32 ?_
    refine V_iconst C0 dX7_pushes_35 ic_1 ?_
    refine V_iadd C0 dX7_pushes_36 ?_
    refine p7_224 C0 dX7_pushes_37 (fun M4 => ?_)
    exact V_vret C0 dX7_pushes_40)
