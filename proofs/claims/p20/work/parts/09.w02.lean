set_option maxRecDepth 100000 in
set_option maxHeartbeats 4000000 in
theorem f_Reader_readLeaf_b69_ok {X : XT} {G : GT} (C0 : Cx X G cX3_readLeaf 4 RX3 (some .boolean)) (a1 : Nat) (x2 : Int32) (x3 : Int32) (M : Mem) (h_a1 : (sh a1).1 = 1) : V X G 2 vI 4 69 [(0, .ref (G.2 + 1)), (1, .ref (G.2 + a1)), (2, .int x2), (3, .int x3)] [] M (f_Reader_readLeaf_b69 a1 x2 x3 M) := by
  unfold f_Reader_readLeaf_b69
  refine V_iload_n C0 3 rfl 3 rfl dX3_readLeaf_69 ?_
  refine V_bipush C0 dX3_readLeaf_70 bp_65 ?_
  refine V_icmplt C0 107 dX3_readLeaf_72 (by decide) (fun _ => ?_) (fun _ => ?_)
  · refine V_iconst C0 dX3_readLeaf_107 ic_0 ?_
    exact V_zret C0 dX3_readLeaf_108
  · refine V_iload_n C0 3 rfl 3 rfl dX3_readLeaf_75 ?_
    refine V_bipush C0 dX3_readLeaf_76 bp_65 ?_
    refine V_iload_n C0 2 rfl 2 rfl dX3_readLeaf_78 ?_
    refine V_iadd C0 dX3_readLeaf_79 ?_
    refine V_icmpge C0 107 dX3_readLeaf_80 (by decide) (fun _ => ?_) (fun _ => ?_)
    · refine V_iconst C0 dX3_readLeaf_107 ic_0 ?_
      exact V_zret C0 dX3_readLeaf_108
    · refine V_aload_n C0 0 rfl 0 rfl dX3_readLeaf_83 ?_
      refine V_iload_n C0 3 rfl 3 rfl dX3_readLeaf_84 ?_
      refine k3_42 C0 (by decide) (fun lq rq Mq hh => mc_f_Reader_pass lq x3 M rq Mq  hh) (Nat.le_of_ble_eq_true rfl) dX3_readLeaf_85 (fun r1 M1 => ?_)
      refine V_ifeq C0 107 dX3_readLeaf_88 (by decide) (fun _ => ?_) (fun _ => ?_)
      · refine V_iconst C0 dX3_readLeaf_107 ic_0 ?_
        exact V_zret C0 dX3_readLeaf_108
      · refine V_aload_n C0 1 rfl 1 rfl dX3_readLeaf_91 ?_
        refine V_iconst C0 dX3_readLeaf_92 ic_2 ?_
        refine V_iload_n C0 3 rfl 3 rfl dX3_readLeaf_93 ?_
        refine V_bipush C0 dX3_readLeaf_94 bp_65 ?_
        refine V_isub C0 dX3_readLeaf_96 ?_
        refine k3_77 C0 h_a1 (by decide) (fun lq rq Mq hh => mc_f_Form_add lq a1 2 (x3 - 65) M1 rq Mq h_a1 hh) (Nat.le_of_ble_eq_true rfl) dX3_readLeaf_97 (fun r2 M2 => ?_)
        refine V_ifeq C0 107 dX3_readLeaf_100 (by decide) (fun _ => ?_) (fun _ => ?_)
        · refine V_iconst C0 dX3_readLeaf_107 ic_0 ?_
          exact V_zret C0 dX3_readLeaf_108
        · refine V_iconst C0 dX3_readLeaf_103 ic_1 ?_
          refine V_goto C0 108 dX3_readLeaf_104 (by decide) ?_
          exact V_zret C0 dX3_readLeaf_108
set_option maxRecDepth 100000 in
set_option maxHeartbeats 4000000 in
theorem mc_f_Reader_readLeaf {G : GT} (l : Launch) (a1 : Nat) (x2 : Int32) (M : Mem) (r : Int32) (M1 : Mem) (h_a1 : (sh a1).1 = 1) (ho : f_Reader_readLeaf a1 x2 M = some (r, M1)) : MC l G yX3_readLeaf cX3_readLeaf 4 (some .boolean) 2 [.ref (G.2 + 1), .ref (G.2 + a1), .int x2] M (vI r) M1 :=
  MC.ofV (own := RX3) (lv := [(0, .ref (G.2 + 1)), (1, .ref (G.2 + a1)), (2, .int x2)]) (by decide +kernel) rfl rfl (Nat.le_of_ble_eq_true rfl) ho (fun X hX C0 => by
    unfold f_Reader_readLeaf
    refine V_aload_n C0 0 rfl 0 rfl dX3_readLeaf_0 ?_
    refine k3_29 C0 (by decide) (fun lq rq Mq hh => mc_f_Reader_sign lq  M rq Mq  hh) (Nat.le_of_ble_eq_true rfl) dX3_readLeaf_1 (fun r1 M1 => ?_)
    refine V_istore_n C0 3 [(3, .int r1), (0, .ref (G.2 + 1)), (1, .ref (G.2 + a1)), (2, .int x2)] rfl (by decide) rfl dX3_readLeaf_4 ?_
    refine V_aload_n C0 1 rfl 2 rfl dX3_readLeaf_5 ?_
    refine k3_73 C0 h_a1 (by decide) (fun lq rq Mq hh => mc_f_Form_isFull lq a1 M1 rq Mq h_a1 hh) (Nat.le_of_ble_eq_true rfl) dX3_readLeaf_6 (fun r2 M2 => ?_)
    refine V_ifeq C0 14 dX3_readLeaf_9 (by decide) (fun _ => ?_) (fun _ => ?_)
    · refine V_iload_n C0 3 rfl 0 rfl dX3_readLeaf_14 ?_
      refine k3_81 C0 (by decide) (fun lq rq Mq hh => mc_f_Reader_isDigit lq r1 M2 rq Mq  hh) (Nat.le_of_ble_eq_true rfl) dX3_readLeaf_15 (fun r3 M3 => ?_)
      refine V_ifeq C0 31 dX3_readLeaf_18 (by decide) (fun _ => ?_) (fun _ => ?_)
      · refine V_iload_n C0 3 rfl 0 rfl dX3_readLeaf_31 ?_
        refine V_bipush C0 dX3_readLeaf_32 bp_97 ?_
        refine V_icmplt C0 69 dX3_readLeaf_34 (by decide) (fun _ => ?_) (fun _ => ?_)
        · exact V_sub [1, 2, 3, 0] rfl (f_Reader_readLeaf_b69_ok C0 a1 x2 r1 M3 h_a1)
        · refine V_iload_n C0 3 rfl 0 rfl dX3_readLeaf_37 ?_
          refine V_bipush C0 dX3_readLeaf_38 bp_105 ?_
          refine V_icmpge C0 69 dX3_readLeaf_40 (by decide) (fun _ => ?_) (fun _ => ?_)
          · exact V_sub [1, 2, 3, 0] rfl (f_Reader_readLeaf_b69_ok C0 a1 x2 r1 M3 h_a1)
          · refine V_aload_n C0 0 rfl 1 rfl dX3_readLeaf_43 ?_
            refine V_iload_n C0 3 rfl 0 rfl dX3_readLeaf_44 ?_
            refine k3_42 C0 (by decide) (fun lq rq Mq hh => mc_f_Reader_pass lq r1 M3 rq Mq  hh) (Nat.le_of_ble_eq_true rfl) dX3_readLeaf_45 (fun r4 M4 => ?_)
            refine V_ifeq C0 67 dX3_readLeaf_48 (by decide) (fun _ => ?_) (fun _ => ?_)
            · refine V_iconst C0 dX3_readLeaf_67 ic_0 ?_
              exact V_zret C0 dX3_readLeaf_68
            · refine V_aload_n C0 1 rfl 2 rfl dX3_readLeaf_51 ?_
              refine V_iconst C0 dX3_readLeaf_52 ic_1 ?_
              refine V_iload_n C0 3 rfl 0 rfl dX3_readLeaf_53 ?_
              refine V_bipush C0 dX3_readLeaf_54 bp_97 ?_
              refine V_isub C0 dX3_readLeaf_56 ?_
              refine k3_77 C0 h_a1 (by decide) (fun lq rq Mq hh => mc_f_Form_add lq a1 1 (r1 - 97) M4 rq Mq h_a1 hh) (Nat.le_of_ble_eq_true rfl) dX3_readLeaf_57 (fun r5 M5 => ?_)
              refine V_ifeq C0 67 dX3_readLeaf_60 (by decide) (fun _ => ?_) (fun _ => ?_)
              · refine V_iconst C0 dX3_readLeaf_67 ic_0 ?_
                exact V_zret C0 dX3_readLeaf_68
              · refine V_iconst C0 dX3_readLeaf_63 ic_1 ?_
                refine V_goto C0 68 dX3_readLeaf_64 (by decide) ?_
                exact V_zret C0 dX3_readLeaf_68
      · refine V_aload_n C0 1 rfl 2 rfl dX3_readLeaf_21 ?_
        refine V_iconst C0 dX3_readLeaf_22 ic_0 ?_
        refine V_aload_n C0 0 rfl 1 rfl dX3_readLeaf_23 ?_
        refine k3_84 C0 (by decide) (fun lq rq Mq hh => mc_f_Reader_readNumber lq  M3 rq Mq  hh) (Nat.le_of_ble_eq_true rfl) dX3_readLeaf_24 (fun r6 M6 => ?_)
        refine k3_77 C0 h_a1 (by decide) (fun lq rq Mq hh => mc_f_Form_add lq a1 0 r6 M6 rq Mq h_a1 hh) (Nat.le_of_ble_eq_true rfl) dX3_readLeaf_27 (fun r7 M7 => ?_)
        exact V_zret C0 dX3_readLeaf_30
    · refine V_iconst C0 dX3_readLeaf_12 ic_0 ?_
      exact V_zret C0 dX3_readLeaf_13)
set_option maxRecDepth 100000 in
set_option maxHeartbeats 4000000 in
theorem f_Reader_readFactor_b18_ok {X : XT} {G : GT} (rc : Nat → Int32 → Int32 → Mem → Option (Int32 × Mem)) (hr : Nat) (hB : 3 ≤ hr) (hrc : ∀ (l : Launch) (a1 : Nat) (x2 : Int32) (x3 : Int32) (M : Mem) (r : Int32) (M1 : Mem), (sh a1).1 = 1 → rc a1 x2 x3 M = some (r, M1) → MC l G yX3_readNested cX3_readNested 4 (some .boolean) hr [.ref (G.2 + 1), .ref (G.2 + a1), .int x2, .int x3] M (vI r) M1) (C0 : Cx X G cX3_readFactor 4 RX3 (some .boolean)) (a1 : Nat) (x2 : Int32) (x3 : Int32) (M : Mem) (h_a1 : (sh a1).1 = 1) : V X G (hr + 1) vI 4 18 [(0, .ref (G.2 + 1)), (1, .ref (G.2 + a1)), (2, .int x2), (3, .int x3)] [] M (f_Reader_readFactor_b18 rc a1 x2 x3 M) := by
  unfold f_Reader_readFactor_b18
  refine V_iload_n C0 3 rfl 3 rfl dX3_readFactor_18 ?_
  refine V_bipush C0 dX3_readFactor_19 bp_8 ?_
  refine V_icmpge C0 40 dX3_readFactor_21 (by decide) (fun _ => ?_) (fun _ => ?_)
  · refine V_iconst C0 dX3_readFactor_40 ic_0 ?_
    exact V_zret C0 dX3_readFactor_41
  · refine V_aload_n C0 0 rfl 0 rfl dX3_readFactor_24 ?_
    refine V_aload_n C0 1 rfl 1 rfl dX3_readFactor_25 ?_
    refine V_iload_n C0 2 rfl 2 rfl dX3_readFactor_26 ?_
    refine V_iload_n C0 3 rfl 3 rfl dX3_readFactor_27 ?_
    refine V_iconst C0 dX3_readFactor_28 ic_1 ?_
    refine V_iadd C0 dX3_readFactor_29 ?_
    refine k3_66 C0 (by omega) (fun lq rq Mq hh => hrc lq a1 x2 (x3 + 1) M rq Mq h_a1 hh) (Nat.le_of_ble_eq_true rfl) dX3_readFactor_30 (fun r1 M1 => ?_)
    refine V_ifeq C0 40 dX3_readFactor_33 (by decide) (fun _ => ?_) (fun _ => ?_)
    · refine V_iconst C0 dX3_readFactor_40 ic_0 ?_
      exact V_zret C0 dX3_readFactor_41
    · refine V_iconst C0 dX3_readFactor_36 ic_1 ?_
      refine V_goto C0 41 dX3_readFactor_37 (by decide) ?_
      exact V_zret C0 dX3_readFactor_41
set_option maxRecDepth 100000 in
set_option maxHeartbeats 4000000 in
theorem mc_f_Reader_readFactor {G : GT} (rc : Nat → Int32 → Int32 → Mem → Option (Int32 × Mem)) (hr : Nat) (hB : 3 ≤ hr) (hrc : ∀ (l : Launch) (a1 : Nat) (x2 : Int32) (x3 : Int32) (M : Mem) (r : Int32) (M1 : Mem), (sh a1).1 = 1 → rc a1 x2 x3 M = some (r, M1) → MC l G yX3_readNested cX3_readNested 4 (some .boolean) hr [.ref (G.2 + 1), .ref (G.2 + a1), .int x2, .int x3] M (vI r) M1) (l : Launch) (a1 : Nat) (x2 : Int32) (x3 : Int32) (M : Mem) (r : Int32) (M1 : Mem) (h_a1 : (sh a1).1 = 1) (ho : f_Reader_readFactor rc a1 x2 x3 M = some (r, M1)) : MC l G yX3_readFactor cX3_readFactor 4 (some .boolean) (hr + 1) [.ref (G.2 + 1), .ref (G.2 + a1), .int x2, .int x3] M (vI r) M1 :=
  MC.ofV (own := RX3) (lv := [(0, .ref (G.2 + 1)), (1, .ref (G.2 + a1)), (2, .int x2), (3, .int x3)]) (by decide +kernel) rfl rfl (Nat.le_of_ble_eq_true rfl) ho (fun X hX C0 => by
    unfold f_Reader_readFactor
    refine V_aload_n C0 0 rfl 0 rfl dX3_readFactor_0 ?_
    refine k3_29 C0 (by omega) (fun lq rq Mq hh => mc_f_Reader_sign lq  M rq Mq  hh) (Nat.le_of_ble_eq_true rfl) dX3_readFactor_1 (fun r1 M1 => ?_)
    refine V_bipush C0 dX3_readFactor_4 bp_40 ?_
    refine V_icmpeq C0 18 dX3_readFactor_6 (by decide) (fun _ => ?_) (fun _ => ?_)
    · exact V_sub [0, 1, 2, 3] rfl (f_Reader_readFactor_b18_ok rc hr hB hrc C0 a1 x2 x3 M1 h_a1)
    · refine V_aload_n C0 0 rfl 0 rfl dX3_readFactor_9 ?_
      refine k3_29 C0 (by omega) (fun lq rq Mq hh => mc_f_Reader_sign lq  M1 rq Mq  hh) (Nat.le_of_ble_eq_true rfl) dX3_readFactor_10 (fun r2 M2 => ?_)
      refine V_bipush C0 dX3_readFactor_13 bp_33 ?_
      refine V_icmpne C0 42 dX3_readFactor_15 (by decide) (fun _ => ?_) (fun _ => ?_)
      · refine V_aload_n C0 0 rfl 0 rfl dX3_readFactor_42 ?_
        refine V_aload_n C0 1 rfl 1 rfl dX3_readFactor_43 ?_
        refine V_iload_n C0 2 rfl 2 rfl dX3_readFactor_44 ?_
        refine k3_69 C0 (by omega) (fun lq rq Mq hh => mc_f_Reader_readLeaf lq a1 x2 M2 rq Mq h_a1 hh) (Nat.le_of_ble_eq_true rfl) dX3_readFactor_45 (fun r3 M3 => ?_)
        exact V_zret C0 dX3_readFactor_48
      · exact V_sub [0, 1, 2, 3] rfl (f_Reader_readFactor_b18_ok rc hr hB hrc C0 a1 x2 x3 M2 h_a1))
set_option maxRecDepth 100000 in
set_option maxHeartbeats 4000000 in
theorem f_Reader_readProduct_b18_ok {X : XT} {G : GT} (rc : Nat → Int32 → Int32 → Mem → Option (Int32 × Mem)) (hr : Nat) (hB : 3 ≤ hr) (hrc : ∀ (l : Launch) (a1 : Nat) (x2 : Int32) (x3 : Int32) (M : Mem) (r : Int32) (M1 : Mem), (sh a1).1 = 1 → rc a1 x2 x3 M = some (r, M1) → MC l G yX3_readNested cX3_readNested 4 (some .boolean) hr [.ref (G.2 + 1), .ref (G.2 + a1), .int x2, .int x3] M (vI r) M1) (C0 : Cx X G cX3_readProduct 7 RX3 (some .boolean)) : ∀ (n : Nat) (a1 : Nat) (x2 : Int32) (x3 : Int32) (x4 : Int32) (x5 : Int32) (x6 : Int32) (M : Mem), (sh a1).1 = 1 → V X G (hr + 2) vI 7 18 [(0, .ref (G.2 + 1)), (1, .ref (G.2 + a1)), (2, .int x2), (3, .int x3), (4, .int x4), (5, .int x5), (6, .int x6)] [] M (f_Reader_readProduct_b18 rc n a1 x2 x3 x4 x5 x6 M) := by
  intro n
  induction n with
  | zero =>
    intros
    exact V_none
  | succ n ih =>
    intro a1 x2 x3 x4 x5 x6 M h_a1
    rw [f_Reader_readProduct_b18]
    refine V_iload C0 6 6 rfl dX3_readProduct_18 ?_
    refine V_bipush C0 dX3_readProduct_20 bp_30 ?_
    refine V_icmpge C0 74 dX3_readProduct_22 (by decide) (fun _ => ?_) (fun _ => ?_)
    · refine V_iload C0 5 5 rfl dX3_readProduct_74 ?_
      exact V_zret C0 dX3_readProduct_76
    · refine V_iload C0 5 5 rfl dX3_readProduct_25 ?_
      refine V_ifeq C0 74 dX3_readProduct_27 (by decide) (fun _ => ?_) (fun _ => ?_)
      · refine V_iload C0 5 5 rfl dX3_readProduct_74 ?_
        exact V_zret C0 dX3_readProduct_76
      · refine V_aload_n C0 0 rfl 0 rfl dX3_readProduct_30 ?_
        refine k3_29 C0 (by omega) (fun lq rq Mq hh => mc_f_Reader_sign lq  M rq Mq  hh) (Nat.le_of_ble_eq_true rfl) dX3_readProduct_31 (fun r1 M1 => ?_)
        refine V_bipush C0 dX3_readProduct_34 bp_42 ?_
        refine V_icmpne C0 74 dX3_readProduct_36 (by decide) (fun _ => ?_) (fun _ => ?_)
        · refine V_iload C0 5 5 rfl dX3_readProduct_74 ?_
          exact V_zret C0 dX3_readProduct_76
        · refine V_aload_n C0 0 rfl 0 rfl dX3_readProduct_39 ?_
          refine V_aload_n C0 1 rfl 1 rfl dX3_readProduct_40 ?_
          refine V_iload C0 4 4 rfl dX3_readProduct_41 ?_
          refine V_bipush C0 dX3_readProduct_43 bp_6 ?_
          refine k3_56 C0 (by omega) (fun lq rq Mq hh => mc_f_Reader_readOperation lq a1 x4 6 M1 rq Mq h_a1 hh) (Nat.le_of_ble_eq_true rfl) dX3_readProduct_45 (fun r2 M2 => ?_)
          refine V_ifeq C0 65 dX3_readProduct_48 (by decide) (fun _ => ?_) (fun _ => ?_)
          · refine V_iconst C0 dX3_readProduct_65 ic_0 ?_
            refine V_istore C0 5 [(5, .int 0), (0, .ref (G.2 + 1)), (1, .ref (G.2 + a1)), (2, .int x2), (3, .int x3), (4, .int x4), (6, .int x6)] (by decide) rfl dX3_readProduct_66 ?_
            refine V_iincB C0 6 6 (fun y3 => [(6, .int y3), (5, .int 0), (0, .ref (G.2 + 1)), (1, .ref (G.2 + a1)), (2, .int x2), (3, .int x3), (4, .int x4)]) rfl ic_1 (by decide) (fun _ => rfl) dX3_readProduct_68 (fun y3 => ?_)
            refine V_goto C0 18 dX3_readProduct_71 (by decide) ?_
            exact V_sub [2, 3, 4, 5, 6, 1, 0] rfl (ih a1 x2 x3 x4 0 y3 M2 h_a1)
          · refine V_aload_n C0 0 rfl 0 rfl dX3_readProduct_51 ?_
            refine V_aload_n C0 1 rfl 1 rfl dX3_readProduct_52 ?_
            refine V_iload_n C0 2 rfl 2 rfl dX3_readProduct_53 ?_
            refine V_iload_n C0 3 rfl 3 rfl dX3_readProduct_54 ?_
            refine k3_59 C0 (by omega) (fun lq rq Mq hh => mc_f_Reader_readFactor rc hr hB hrc lq a1 x2 x3 M2 rq Mq h_a1 hh) (Nat.le_of_ble_eq_true rfl) dX3_readProduct_55 (fun r4 M4 => ?_)
            refine V_ifeq C0 65 dX3_readProduct_58 (by decide) (fun _ => ?_) (fun _ => ?_)
            · refine V_iconst C0 dX3_readProduct_65 ic_0 ?_
              refine V_istore C0 5 [(5, .int 0), (0, .ref (G.2 + 1)), (1, .ref (G.2 + a1)), (2, .int x2), (3, .int x3), (4, .int x4), (6, .int x6)] (by decide) rfl dX3_readProduct_66 ?_
              refine V_iincB C0 6 6 (fun y5 => [(6, .int y5), (5, .int 0), (0, .ref (G.2 + 1)), (1, .ref (G.2 + a1)), (2, .int x2), (3, .int x3), (4, .int x4)]) rfl ic_1 (by decide) (fun _ => rfl) dX3_readProduct_68 (fun y5 => ?_)
              refine V_goto C0 18 dX3_readProduct_71 (by decide) ?_
              exact V_sub [2, 3, 4, 5, 6, 1, 0] rfl (ih a1 x2 x3 x4 0 y5 M4 h_a1)
            · refine V_iconst C0 dX3_readProduct_61 ic_1 ?_
              refine V_goto C0 66 dX3_readProduct_62 (by decide) ?_
              refine V_istore C0 5 [(5, .int 1), (0, .ref (G.2 + 1)), (1, .ref (G.2 + a1)), (2, .int x2), (3, .int x3), (4, .int x4), (6, .int x6)] (by decide) rfl dX3_readProduct_66 ?_
              refine V_iincB C0 6 6 (fun y6 => [(6, .int y6), (5, .int 1), (0, .ref (G.2 + 1)), (1, .ref (G.2 + a1)), (2, .int x2), (3, .int x3), (4, .int x4)]) rfl ic_1 (by decide) (fun _ => rfl) dX3_readProduct_68 (fun y6 => ?_)
              refine V_goto C0 18 dX3_readProduct_71 (by decide) ?_
              exact V_sub [2, 3, 4, 5, 6, 1, 0] rfl (ih a1 x2 x3 x4 1 y6 M4 h_a1)
set_option maxRecDepth 100000 in
set_option maxHeartbeats 4000000 in
theorem mc_f_Reader_readProduct {G : GT} (rc : Nat → Int32 → Int32 → Mem → Option (Int32 × Mem)) (hr : Nat) (hB : 3 ≤ hr) (hrc : ∀ (l : Launch) (a1 : Nat) (x2 : Int32) (x3 : Int32) (M : Mem) (r : Int32) (M1 : Mem), (sh a1).1 = 1 → rc a1 x2 x3 M = some (r, M1) → MC l G yX3_readNested cX3_readNested 4 (some .boolean) hr [.ref (G.2 + 1), .ref (G.2 + a1), .int x2, .int x3] M (vI r) M1) (l : Launch) (a1 : Nat) (x2 : Int32) (x3 : Int32) (M : Mem) (r : Int32) (M1 : Mem) (h_a1 : (sh a1).1 = 1) (ho : f_Reader_readProduct rc a1 x2 x3 M = some (r, M1)) : MC l G yX3_readProduct cX3_readProduct 7 (some .boolean) (hr + 2) [.ref (G.2 + 1), .ref (G.2 + a1), .int x2, .int x3] M (vI r) M1 :=
  MC.ofV (own := RX3) (lv := [(0, .ref (G.2 + 1)), (1, .ref (G.2 + a1)), (2, .int x2), (3, .int x3)]) (by decide +kernel) rfl rfl (Nat.le_of_ble_eq_true rfl) ho (fun X hX C0 => by
    unfold f_Reader_readProduct
    refine V_aload_n C0 1 rfl 1 rfl dX3_readProduct_0 ?_
    refine g3_37 C0 h_a1 dX3_readProduct_1 ?_
    refine V_bi (fun y1 => ?_)
    refine V_istore C0 4 [(4, .int y1), (0, .ref (G.2 + 1)), (1, .ref (G.2 + a1)), (2, .int x2), (3, .int x3)] (by decide) rfl dX3_readProduct_4 ?_
    refine V_aload_n C0 0 rfl 1 rfl dX3_readProduct_6 ?_
    refine V_aload_n C0 1 rfl 2 rfl dX3_readProduct_7 ?_
    refine V_iload_n C0 2 rfl 3 rfl dX3_readProduct_8 ?_
    refine V_iload_n C0 3 rfl 4 rfl dX3_readProduct_9 ?_
    refine k3_59 C0 (by omega) (fun lq rq Mq hh => mc_f_Reader_readFactor rc hr hB hrc lq a1 x2 x3 M rq Mq h_a1 hh) (Nat.le_of_ble_eq_true rfl) dX3_readProduct_10 (fun r2 M2 => ?_)
    refine V_istore C0 5 [(5, .int r2), (4, .int y1), (0, .ref (G.2 + 1)), (1, .ref (G.2 + a1)), (2, .int x2), (3, .int x3)] (by decide) rfl dX3_readProduct_13 ?_
    refine V_iconst C0 dX3_readProduct_15 ic_0 ?_
    refine V_istore C0 6 [(6, .int 0), (5, .int r2), (4, .int y1), (0, .ref (G.2 + 1)), (1, .ref (G.2 + a1)), (2, .int x2), (3, .int x3)] (by decide) rfl dX3_readProduct_16 ?_
    exact V_sub [3, 4, 5, 6, 2, 1, 0] rfl (f_Reader_readProduct_b18_ok rc hr hB hrc C0 FU a1 x2 x3 y1 r2 0 M2 h_a1))
set_option maxRecDepth 100000 in
set_option maxHeartbeats 4000000 in
theorem f_Reader_readSum_b62_ok {X : XT} {G : GT} (rc : Nat → Int32 → Int32 → Mem → Option (Int32 × Mem)) (hr : Nat) (hB : 3 ≤ hr) (hrc : ∀ (l : Launch) (a1 : Nat) (x2 : Int32) (x3 : Int32) (M : Mem) (r : Int32) (M1 : Mem), (sh a1).1 = 1 → rc a1 x2 x3 M = some (r, M1) → MC l G yX3_readNested cX3_readNested 4 (some .boolean) hr [.ref (G.2 + 1), .ref (G.2 + a1), .int x2, .int x3] M (vI r) M1) (C0 : Cx X G cX3_readSum 8 RX3 (some .boolean)) (k18 : Nat → Int32 → Int32 → Int32 → Int32 → Int32 → Mem → Option (Int32 × Mem)) (hk18 : ∀ (a1 : Nat) (x2 : Int32) (x3 : Int32) (x4 : Int32) (x5 : Int32) (x6 : Int32) (M : Mem), (sh a1).1 = 1 → V X G (hr + 3) vI 8 18 [(0, .ref (G.2 + 1)), (1, .ref (G.2 + a1)), (2, .int x2), (3, .int x3), (4, .int x4), (5, .int x5), (6, .int x6)] [] M (k18 a1 x2 x3 x4 x5 x6 M)) (a1 : Nat) (x2 : Int32) (x3 : Int32) (x4 : Int32) (x6 : Int32) (t0 : Int32) (M : Mem) (h_a1 : (sh a1).1 = 1) : V X G (hr + 3) vI 8 62 [(0, .ref (G.2 + 1)), (1, .ref (G.2 + a1)), (2, .int x2), (3, .int x3), (4, .int x4), (6, .int x6)] [.int t0] M (f_Reader_readSum_b62 rc k18 a1 x2 x3 x4 x6 t0 M) := by
  unfold f_Reader_readSum_b62
  refine V_istore C0 7 [(7, .int t0), (0, .ref (G.2 + 1)), (1, .ref (G.2 + a1)), (2, .int x2), (3, .int x3), (4, .int x4), (6, .int x6)] (by decide) rfl dX3_readSum_62 ?_
  refine V_aload_n C0 0 rfl 1 rfl dX3_readSum_64 ?_
  refine V_aload_n C0 1 rfl 2 rfl dX3_readSum_65 ?_
  refine V_iload C0 4 5 rfl dX3_readSum_66 ?_
  refine V_iload C0 7 0 rfl dX3_readSum_68 ?_
  refine k3_56 C0 (by omega) (fun lq rq Mq hh => mc_f_Reader_readOperation lq a1 x4 t0 M rq Mq h_a1 hh) (Nat.le_of_ble_eq_true rfl) dX3_readSum_70 (fun r1 M1 => ?_)
  refine V_ifeq C0 90 dX3_readSum_73 (by decide) (fun _ => ?_) (fun _ => ?_)
  · refine V_iconst C0 dX3_readSum_90 ic_0 ?_
    refine V_istore C0 5 [(5, .int 0), (7, .int t0), (0, .ref (G.2 + 1)), (1, .ref (G.2 + a1)), (2, .int x2), (3, .int x3), (4, .int x4), (6, .int x6)] (by decide) rfl dX3_readSum_91 ?_
    refine V_iincB C0 6 7 (fun y2 => [(6, .int y2), (5, .int 0), (7, .int t0), (0, .ref (G.2 + 1)), (1, .ref (G.2 + a1)), (2, .int x2), (3, .int x3), (4, .int x4)]) rfl ic_1 (by decide) (fun _ => rfl) dX3_readSum_93 (fun y2 => ?_)
    refine V_goto C0 18 dX3_readSum_96 (by decide) ?_
    exact V_sub [3, 4, 5, 6, 7, 1, 0] rfl (hk18 a1 x2 x3 x4 0 y2 M1 h_a1)
  · refine V_aload_n C0 0 rfl 1 rfl dX3_readSum_76 ?_
    refine V_aload_n C0 1 rfl 2 rfl dX3_readSum_77 ?_
    refine V_iload_n C0 2 rfl 3 rfl dX3_readSum_78 ?_
    refine V_iload_n C0 3 rfl 4 rfl dX3_readSum_79 ?_
    refine k3_53 C0 (by omega) (fun lq rq Mq hh => mc_f_Reader_readProduct rc hr hB hrc lq a1 x2 x3 M1 rq Mq h_a1 hh) (Nat.le_of_ble_eq_true rfl) dX3_readSum_80 (fun r3 M3 => ?_)
    refine V_ifeq C0 90 dX3_readSum_83 (by decide) (fun _ => ?_) (fun _ => ?_)
    · refine V_iconst C0 dX3_readSum_90 ic_0 ?_
      refine V_istore C0 5 [(5, .int 0), (7, .int t0), (0, .ref (G.2 + 1)), (1, .ref (G.2 + a1)), (2, .int x2), (3, .int x3), (4, .int x4), (6, .int x6)] (by decide) rfl dX3_readSum_91 ?_
      refine V_iincB C0 6 7 (fun y4 => [(6, .int y4), (5, .int 0), (7, .int t0), (0, .ref (G.2 + 1)), (1, .ref (G.2 + a1)), (2, .int x2), (3, .int x3), (4, .int x4)]) rfl ic_1 (by decide) (fun _ => rfl) dX3_readSum_93 (fun y4 => ?_)
      refine V_goto C0 18 dX3_readSum_96 (by decide) ?_
      exact V_sub [3, 4, 5, 6, 7, 1, 0] rfl (hk18 a1 x2 x3 x4 0 y4 M3 h_a1)
    · refine V_iconst C0 dX3_readSum_86 ic_1 ?_
      refine V_goto C0 91 dX3_readSum_87 (by decide) ?_
      refine V_istore C0 5 [(5, .int 1), (7, .int t0), (0, .ref (G.2 + 1)), (1, .ref (G.2 + a1)), (2, .int x2), (3, .int x3), (4, .int x4), (6, .int x6)] (by decide) rfl dX3_readSum_91 ?_
      refine V_iincB C0 6 7 (fun y5 => [(6, .int y5), (5, .int 1), (7, .int t0), (0, .ref (G.2 + 1)), (1, .ref (G.2 + a1)), (2, .int x2), (3, .int x3), (4, .int x4)]) rfl ic_1 (by decide) (fun _ => rfl) dX3_readSum_93 (fun y5 => ?_)
      refine V_goto C0 18 dX3_readSum_96 (by decide) ?_
      exact V_sub [3, 4, 5, 6, 7, 1, 0] rfl (hk18 a1 x2 x3 x4 1 y5 M3 h_a1)
set_option maxRecDepth 100000 in
set_option maxHeartbeats 4000000 in
theorem f_Reader_readSum_b48_ok {X : XT} {G : GT} (rc : Nat → Int32 → Int32 → Mem → Option (Int32 × Mem)) (hr : Nat) (hB : 3 ≤ hr) (hrc : ∀ (l : Launch) (a1 : Nat) (x2 : Int32) (x3 : Int32) (M : Mem) (r : Int32) (M1 : Mem), (sh a1).1 = 1 → rc a1 x2 x3 M = some (r, M1) → MC l G yX3_readNested cX3_readNested 4 (some .boolean) hr [.ref (G.2 + 1), .ref (G.2 + a1), .int x2, .int x3] M (vI r) M1) (C0 : Cx X G cX3_readSum 8 RX3 (some .boolean)) (k18 : Nat → Int32 → Int32 → Int32 → Int32 → Int32 → Mem → Option (Int32 × Mem)) (hk18 : ∀ (a1 : Nat) (x2 : Int32) (x3 : Int32) (x4 : Int32) (x5 : Int32) (x6 : Int32) (M : Mem), (sh a1).1 = 1 → V X G (hr + 3) vI 8 18 [(0, .ref (G.2 + 1)), (1, .ref (G.2 + a1)), (2, .int x2), (3, .int x3), (4, .int x4), (5, .int x5), (6, .int x6)] [] M (k18 a1 x2 x3 x4 x5 x6 M)) (a1 : Nat) (x2 : Int32) (x3 : Int32) (x4 : Int32) (x6 : Int32) (M : Mem) (h_a1 : (sh a1).1 = 1) : V X G (hr + 3) vI 8 48 [(0, .ref (G.2 + 1)), (1, .ref (G.2 + a1)), (2, .int x2), (3, .int x3), (4, .int x4), (6, .int x6)] [] M (f_Reader_readSum_b48 rc k18 a1 x2 x3 x4 x6 M) := by
  unfold f_Reader_readSum_b48
  refine V_aload_n C0 0 rfl 0 rfl dX3_readSum_48 ?_
  refine k3_29 C0 (by omega) (fun lq rq Mq hh => mc_f_Reader_sign lq  M rq Mq  hh) (Nat.le_of_ble_eq_true rfl) dX3_readSum_49 (fun r1 M1 => ?_)
  refine V_bipush C0 dX3_readSum_52 bp_43 ?_
  refine V_icmpne C0 61 dX3_readSum_54 (by decide) (fun _ => ?_) (fun _ => ?_)
  · refine V_iconst C0 dX3_readSum_61 ic_5 ?_
    exact V_sub [0, 1, 2, 3, 4, 5] rfl (f_Reader_readSum_b62_ok rc hr hB hrc C0 k18 hk18 a1 x2 x3 x4 x6 5 M1 h_a1)
  · refine V_iconst C0 dX3_readSum_57 ic_4 ?_
    refine V_goto C0 62 dX3_readSum_58 (by decide) ?_
    exact V_sub [0, 1, 2, 3, 4, 5] rfl (f_Reader_readSum_b62_ok rc hr hB hrc C0 k18 hk18 a1 x2 x3 x4 x6 4 M1 h_a1)
set_option maxRecDepth 100000 in
set_option maxHeartbeats 4000000 in
theorem f_Reader_readSum_b18_ok {X : XT} {G : GT} (rc : Nat → Int32 → Int32 → Mem → Option (Int32 × Mem)) (hr : Nat) (hB : 3 ≤ hr) (hrc : ∀ (l : Launch) (a1 : Nat) (x2 : Int32) (x3 : Int32) (M : Mem) (r : Int32) (M1 : Mem), (sh a1).1 = 1 → rc a1 x2 x3 M = some (r, M1) → MC l G yX3_readNested cX3_readNested 4 (some .boolean) hr [.ref (G.2 + 1), .ref (G.2 + a1), .int x2, .int x3] M (vI r) M1) (C0 : Cx X G cX3_readSum 8 RX3 (some .boolean)) : ∀ (n : Nat) (a1 : Nat) (x2 : Int32) (x3 : Int32) (x4 : Int32) (x5 : Int32) (x6 : Int32) (M : Mem), (sh a1).1 = 1 → V X G (hr + 3) vI 8 18 [(0, .ref (G.2 + 1)), (1, .ref (G.2 + a1)), (2, .int x2), (3, .int x3), (4, .int x4), (5, .int x5), (6, .int x6)] [] M (f_Reader_readSum_b18 rc n a1 x2 x3 x4 x5 x6 M) := by
  intro n
  induction n with
  | zero =>
    intros
    exact V_none
  | succ n ih =>
    intro a1 x2 x3 x4 x5 x6 M h_a1
    rw [f_Reader_readSum_b18]
    refine V_iload C0 6 6 rfl dX3_readSum_18 ?_
    refine V_bipush C0 dX3_readSum_20 bp_30 ?_
    refine V_icmpge C0 99 dX3_readSum_22 (by decide) (fun _ => ?_) (fun _ => ?_)
    · refine V_iload C0 5 5 rfl dX3_readSum_99 ?_
      exact V_zret C0 dX3_readSum_101
    · refine V_iload C0 5 5 rfl dX3_readSum_25 ?_
      refine V_ifeq C0 99 dX3_readSum_27 (by decide) (fun _ => ?_) (fun _ => ?_)
      · refine V_iload C0 5 5 rfl dX3_readSum_99 ?_
        exact V_zret C0 dX3_readSum_101
      · refine V_aload_n C0 0 rfl 0 rfl dX3_readSum_30 ?_
        refine k3_29 C0 (by omega) (fun lq rq Mq hh => mc_f_Reader_sign lq  M rq Mq  hh) (Nat.le_of_ble_eq_true rfl) dX3_readSum_31 (fun r1 M1 => ?_)
        refine V_bipush C0 dX3_readSum_34 bp_43 ?_
        refine V_icmpeq C0 48 dX3_readSum_36 (by decide) (fun _ => ?_) (fun _ => ?_)
        · exact V_sub [0, 1, 2, 3, 4, 6] rfl (f_Reader_readSum_b48_ok rc hr hB hrc C0 (f_Reader_readSum_b18 rc n) ih a1 x2 x3 x4 x6 M1 h_a1)
        · refine V_aload_n C0 0 rfl 0 rfl dX3_readSum_39 ?_
          refine k3_29 C0 (by omega) (fun lq rq Mq hh => mc_f_Reader_sign lq  M1 rq Mq  hh) (Nat.le_of_ble_eq_true rfl) dX3_readSum_40 (fun r2 M2 => ?_)
          refine V_bipush C0 dX3_readSum_43 bp_45 ?_
          refine V_icmpne C0 99 dX3_readSum_45 (by decide) (fun _ => ?_) (fun _ => ?_)
          · refine V_iload C0 5 5 rfl dX3_readSum_99 ?_
            exact V_zret C0 dX3_readSum_101
          · exact V_sub [0, 1, 2, 3, 4, 6] rfl (f_Reader_readSum_b48_ok rc hr hB hrc C0 (f_Reader_readSum_b18 rc n) ih a1 x2 x3 x4 x6 M2 h_a1)
set_option maxRecDepth 100000 in
set_option maxHeartbeats 4000000 in
theorem mc_f_Reader_readSum {G : GT} (rc : Nat → Int32 → Int32 → Mem → Option (Int32 × Mem)) (hr : Nat) (hB : 3 ≤ hr) (hrc : ∀ (l : Launch) (a1 : Nat) (x2 : Int32) (x3 : Int32) (M : Mem) (r : Int32) (M1 : Mem), (sh a1).1 = 1 → rc a1 x2 x3 M = some (r, M1) → MC l G yX3_readNested cX3_readNested 4 (some .boolean) hr [.ref (G.2 + 1), .ref (G.2 + a1), .int x2, .int x3] M (vI r) M1) (l : Launch) (a1 : Nat) (x2 : Int32) (x3 : Int32) (M : Mem) (r : Int32) (M1 : Mem) (h_a1 : (sh a1).1 = 1) (ho : f_Reader_readSum rc a1 x2 x3 M = some (r, M1)) : MC l G yX3_readSum cX3_readSum 8 (some .boolean) (hr + 3) [.ref (G.2 + 1), .ref (G.2 + a1), .int x2, .int x3] M (vI r) M1 :=
  MC.ofV (own := RX3) (lv := [(0, .ref (G.2 + 1)), (1, .ref (G.2 + a1)), (2, .int x2), (3, .int x3)]) (by decide +kernel) rfl rfl (Nat.le_of_ble_eq_true rfl) ho (fun X hX C0 => by
    unfold f_Reader_readSum
    refine V_aload_n C0 1 rfl 1 rfl dX3_readSum_0 ?_
    refine g3_37 C0 h_a1 dX3_readSum_1 ?_
    refine V_bi (fun y1 => ?_)
    refine V_istore C0 4 [(4, .int y1), (0, .ref (G.2 + 1)), (1, .ref (G.2 + a1)), (2, .int x2), (3, .int x3)] (by decide) rfl dX3_readSum_4 ?_
    refine V_aload_n C0 0 rfl 1 rfl dX3_readSum_6 ?_
    refine V_aload_n C0 1 rfl 2 rfl dX3_readSum_7 ?_
    refine V_iload_n C0 2 rfl 3 rfl dX3_readSum_8 ?_
    refine V_iload_n C0 3 rfl 4 rfl dX3_readSum_9 ?_
    refine k3_53 C0 (by omega) (fun lq rq Mq hh => mc_f_Reader_readProduct rc hr hB hrc lq a1 x2 x3 M rq Mq h_a1 hh) (Nat.le_of_ble_eq_true rfl) dX3_readSum_10 (fun r2 M2 => ?_)
    refine V_istore C0 5 [(5, .int r2), (4, .int y1), (0, .ref (G.2 + 1)), (1, .ref (G.2 + a1)), (2, .int x2), (3, .int x3)] (by decide) rfl dX3_readSum_13 ?_
    refine V_iconst C0 dX3_readSum_15 ic_0 ?_
    refine V_istore C0 6 [(6, .int 0), (5, .int r2), (4, .int y1), (0, .ref (G.2 + 1)), (1, .ref (G.2 + a1)), (2, .int x2), (3, .int x3)] (by decide) rfl dX3_readSum_16 ?_
    exact V_sub [3, 4, 5, 6, 2, 1, 0] rfl (f_Reader_readSum_b18_ok rc hr hB hrc C0 FU a1 x2 x3 y1 r2 0 M2 h_a1))
set_option maxRecDepth 100000 in
set_option maxHeartbeats 4000000 in
theorem mcS_f_Reader_readNested {G : GT} (rc : Nat → Int32 → Int32 → Mem → Option (Int32 × Mem)) (hr : Nat) (hB : 3 ≤ hr) (hrc : ∀ (l : Launch) (a1 : Nat) (x2 : Int32) (x3 : Int32) (M : Mem) (r : Int32) (M1 : Mem), (sh a1).1 = 1 → rc a1 x2 x3 M = some (r, M1) → MC l G yX3_readNested cX3_readNested 4 (some .boolean) hr [.ref (G.2 + 1), .ref (G.2 + a1), .int x2, .int x3] M (vI r) M1) (l : Launch) (a1 : Nat) (x2 : Int32) (x3 : Int32) (M : Mem) (r : Int32) (M1 : Mem) (h_a1 : (sh a1).1 = 1) (ho : f_Reader_readNested_step rc a1 x2 x3 M = some (r, M1)) : MC l G yX3_readNested cX3_readNested 4 (some .boolean) (hr + 4) [.ref (G.2 + 1), .ref (G.2 + a1), .int x2, .int x3] M (vI r) M1 :=
  MC.ofV (own := RX3) (lv := [(0, .ref (G.2 + 1)), (1, .ref (G.2 + a1)), (2, .int x2), (3, .int x3)]) (by decide +kernel) rfl rfl (Nat.le_of_ble_eq_true rfl) ho (fun X hX C0 => by
    unfold f_Reader_readNested_step
    refine V_aload_n C0 0 rfl 0 rfl dX3_readNested_0 ?_
    refine V_bipush C0 dX3_readNested_1 bp_40 ?_
    refine k3_42 C0 (by omega) (fun lq rq Mq hh => mc_f_Reader_pass lq 40 M rq Mq  hh) (Nat.le_of_ble_eq_true rfl) dX3_readNested_3 (fun r1 M1 => ?_)
    refine V_ifeq C0 34 dX3_readNested_6 (by decide) (fun _ => ?_) (fun _ => ?_)
    · refine V_aload_n C0 1 rfl 1 rfl dX3_readNested_34 ?_
      refine k3_73 C0 h_a1 (by omega) (fun lq rq Mq hh => mc_f_Form_isFull lq a1 M1 rq Mq h_a1 hh) (Nat.le_of_ble_eq_true rfl) dX3_readNested_35 (fun r2 M2 => ?_)
      refine V_ifne C0 73 dX3_readNested_38 (by decide) (fun _ => ?_) (fun _ => ?_)
      · refine V_iconst C0 dX3_readNested_73 ic_0 ?_
        exact V_zret C0 dX3_readNested_74
      · refine V_aload_n C0 0 rfl 0 rfl dX3_readNested_41 ?_
        refine V_bipush C0 dX3_readNested_42 bp_33 ?_
        refine k3_42 C0 (by omega) (fun lq rq Mq hh => mc_f_Reader_pass lq 33 M2 rq Mq  hh) (Nat.le_of_ble_eq_true rfl) dX3_readNested_44 (fun r3 M3 => ?_)
        refine V_ifeq C0 73 dX3_readNested_47 (by decide) (fun _ => ?_) (fun _ => ?_)
        · refine V_iconst C0 dX3_readNested_73 ic_0 ?_
          exact V_zret C0 dX3_readNested_74
        · refine V_aload_n C0 1 rfl 1 rfl dX3_readNested_50 ?_
          refine V_iconst C0 dX3_readNested_51 ic_3 ?_
          refine V_iconst C0 dX3_readNested_52 ic_0 ?_
          refine k3_77 C0 h_a1 (by omega) (fun lq rq Mq hh => mc_f_Form_add lq a1 3 0 M3 rq Mq h_a1 hh) (Nat.le_of_ble_eq_true rfl) dX3_readNested_53 (fun r4 M4 => ?_)
          refine V_ifeq C0 73 dX3_readNested_56 (by decide) (fun _ => ?_) (fun _ => ?_)
          · refine V_iconst C0 dX3_readNested_73 ic_0 ?_
            exact V_zret C0 dX3_readNested_74
          · refine V_aload_n C0 0 rfl 0 rfl dX3_readNested_59 ?_
            refine V_aload_n C0 1 rfl 1 rfl dX3_readNested_60 ?_
            refine V_iload_n C0 2 rfl 2 rfl dX3_readNested_61 ?_
            refine V_iload_n C0 3 rfl 3 rfl dX3_readNested_62 ?_
            refine k3_59 C0 (by omega) (fun lq rq Mq hh => mc_f_Reader_readFactor rc hr hB hrc lq a1 x2 x3 M4 rq Mq h_a1 hh) (Nat.le_of_ble_eq_true rfl) dX3_readNested_63 (fun r5 M5 => ?_)
            refine V_ifeq C0 73 dX3_readNested_66 (by decide) (fun _ => ?_) (fun _ => ?_)
            · refine V_iconst C0 dX3_readNested_73 ic_0 ?_
              exact V_zret C0 dX3_readNested_74
            · refine V_iconst C0 dX3_readNested_69 ic_1 ?_
              refine V_goto C0 74 dX3_readNested_70 (by decide) ?_
              exact V_zret C0 dX3_readNested_74
    · refine V_aload_n C0 0 rfl 0 rfl dX3_readNested_9 ?_
      refine V_aload_n C0 1 rfl 1 rfl dX3_readNested_10 ?_
      refine V_iload_n C0 2 rfl 2 rfl dX3_readNested_11 ?_
      refine V_iload_n C0 3 rfl 3 rfl dX3_readNested_12 ?_
      refine k3_46 C0 (by omega) (fun lq rq Mq hh => mc_f_Reader_readSum rc hr hB hrc lq a1 x2 x3 M1 rq Mq h_a1 hh) (Nat.le_of_ble_eq_true rfl) dX3_readNested_13 (fun r6 M6 => ?_)
      refine V_ifeq C0 32 dX3_readNested_16 (by decide) (fun _ => ?_) (fun _ => ?_)
      · refine V_iconst C0 dX3_readNested_32 ic_0 ?_
        exact V_zret C0 dX3_readNested_33
      · refine V_aload_n C0 0 rfl 0 rfl dX3_readNested_19 ?_
        refine V_bipush C0 dX3_readNested_20 bp_41 ?_
        refine k3_42 C0 (by omega) (fun lq rq Mq hh => mc_f_Reader_pass lq 41 M6 rq Mq  hh) (Nat.le_of_ble_eq_true rfl) dX3_readNested_22 (fun r7 M7 => ?_)
        refine V_ifeq C0 32 dX3_readNested_25 (by decide) (fun _ => ?_) (fun _ => ?_)
        · refine V_iconst C0 dX3_readNested_32 ic_0 ?_
          exact V_zret C0 dX3_readNested_33
        · refine V_iconst C0 dX3_readNested_28 ic_1 ?_
          refine V_goto C0 33 dX3_readNested_29 (by decide) ?_
          exact V_zret C0 dX3_readNested_33)
theorem mc_f_Reader_readNested {G : GT} : ∀ (n : Nat) (l : Launch) (a1 : Nat) (x2 : Int32) (x3 : Int32) (M : Mem) (r : Int32) (M1 : Mem), (sh a1).1 = 1 → f_Reader_readNested n a1 x2 x3 M = some (r, M1) → MC l G yX3_readNested cX3_readNested 4 (some .boolean) (3 + 4 * n) [.ref (G.2 + 1), .ref (G.2 + a1), .int x2, .int x3] M (vI r) M1 := by
  intro n
  induction n with
  | zero =>
    intro l a1 x2 x3 M r M1 h_a1 ho
    cases ho
  | succ n ih =>
    intro l a1 x2 x3 M r M1 h_a1 ho
    exact mcS_f_Reader_readNested (f_Reader_readNested n) (3 + 4 * n) (Nat.le_add_right _ _) ih l a1 x2 x3 M r M1 h_a1 ho
set_option maxRecDepth 100000 in
set_option maxHeartbeats 4000000 in
theorem f_Reader_readSheet_b94_ok {X : XT} {G : GT} (C0 : Cx X G cX3_readSheet 2 RX3 (some .boolean)) (x1 : Int32) (M : Mem) : V X G 303 vI 2 94 [(0, .ref (G.2 + 1)), (1, .int x1)] [] M (f_Reader_readSheet_b94 x1 M) := by
  unfold f_Reader_readSheet_b94
  refine V_aload_n C0 0 rfl 0 rfl dX3_readSheet_94 ?_
  refine g3_18 C0 dX3_readSheet_95 ?_
  refine V_iload_n C0 1 rfl 1 rfl dX3_readSheet_98 ?_
  refine V_iconst C0 dX3_readSheet_99 ic_1 ?_
  refine V_iadd C0 dX3_readSheet_100 ?_
  refine p3_50 C0 s3 dX3_readSheet_101 (fun M1 => ?_)
  refine V_aload_n C0 0 rfl 0 rfl dX3_readSheet_104 ?_
  refine V_aload_n C0 0 rfl 0 rfl dX3_readSheet_105 ?_
  refine g3_18 C0 dX3_readSheet_106 ?_
  refine g3_33 C0 s3 dX3_readSheet_109 ?_
  refine V_iload_n C0 1 rfl 1 rfl dX3_readSheet_112 ?_
  refine V_aaldF C0 6 s4 rfl dX3_readSheet_113 (fun q2 => ?_)
  refine V_iload_n C0 1 rfl 1 rfl dX3_readSheet_114 ?_
  refine V_iconst C0 dX3_readSheet_115 ic_0 ?_
  refine k3_46 C0 (by decide) (fun lq rq Mq hh => mc_f_Reader_readSum (f_Reader_readNested 60) (3 + 4 * 60) (by decide) (mc_f_Reader_readNested 60) lq (6 + 3 * ix x1) x1 0 M1 rq Mq q2 hh) (Nat.le_of_ble_eq_true rfl) dX3_readSheet_116 (fun r3 M3 => ?_)
  refine V_ifeq C0 133 dX3_readSheet_119 (by decide) (fun _ => ?_) (fun _ => ?_)
  · refine V_iconst C0 dX3_readSheet_133 ic_0 ?_
    exact V_zret C0 dX3_readSheet_134
  · refine V_aload_n C0 0 rfl 0 rfl dX3_readSheet_122 ?_
    refine k3_29 C0 (by decide) (fun lq rq Mq hh => mc_f_Reader_sign lq  M3 rq Mq  hh) (Nat.le_of_ble_eq_true rfl) dX3_readSheet_123 (fun r4 M4 => ?_)
    refine V_ifne C0 133 dX3_readSheet_126 (by decide) (fun _ => ?_) (fun _ => ?_)
    · refine V_iconst C0 dX3_readSheet_133 ic_0 ?_
      exact V_zret C0 dX3_readSheet_134
    · refine V_iconst C0 dX3_readSheet_129 ic_1 ?_
      refine V_goto C0 134 dX3_readSheet_130 (by decide) ?_
      exact V_zret C0 dX3_readSheet_134
set_option maxRecDepth 100000 in
set_option maxHeartbeats 4000000 in
theorem f_Reader_readSheet_b34_ok {X : XT} {G : GT} (C0 : Cx X G cX3_readSheet 2 RX3 (some .boolean)) : ∀ (n : Nat) (x1 : Int32) (M : Mem), V X G 303 vI 2 34 [(0, .ref (G.2 + 1)), (1, .int x1)] [] M (f_Reader_readSheet_b34 n x1 M) := by
  intro n
  induction n with
  | zero =>
    intros
    exact V_none
  | succ n ih =>
    intro x1 M
    rw [f_Reader_readSheet_b34]
    refine V_iload_n C0 1 rfl 1 rfl dX3_readSheet_34 ?_
    refine V_iconst C0 dX3_readSheet_35 ic_5 ?_
    refine V_icmpge C0 94 dX3_readSheet_36 (by decide) (fun _ => ?_) (fun _ => ?_)
    · exact V_sub [0, 1] rfl (f_Reader_readSheet_b94_ok C0 x1 M)
    · refine V_aload_n C0 0 rfl 0 rfl dX3_readSheet_39 ?_
      refine V_bipush C0 dX3_readSheet_40 bp_65 ?_
      refine V_iload_n C0 1 rfl 1 rfl dX3_readSheet_42 ?_
      refine V_iadd C0 dX3_readSheet_43 ?_
      refine k3_42 C0 (by decide) (fun lq rq Mq hh => mc_f_Reader_pass lq (65 + x1) M rq Mq  hh) (Nat.le_of_ble_eq_true rfl) dX3_readSheet_44 (fun r1 M1 => ?_)
      refine V_ifeq C0 94 dX3_readSheet_47 (by decide) (fun _ => ?_) (fun _ => ?_)
      · exact V_sub [0, 1] rfl (f_Reader_readSheet_b94_ok C0 x1 M1)
      · refine V_aload_n C0 0 rfl 0 rfl dX3_readSheet_50 ?_
        refine V_bipush C0 dX3_readSheet_51 bp_61 ?_
        refine k3_42 C0 (by decide) (fun lq rq Mq hh => mc_f_Reader_pass lq 61 M1 rq Mq  hh) (Nat.le_of_ble_eq_true rfl) dX3_readSheet_53 (fun r2 M2 => ?_)
        refine V_ifeq C0 86 dX3_readSheet_56 (by decide) (fun _ => ?_) (fun _ => ?_)
        · refine V_iconst C0 dX3_readSheet_86 ic_0 ?_
          exact V_zret C0 dX3_readSheet_87
        · refine V_aload_n C0 0 rfl 0 rfl dX3_readSheet_59 ?_
          refine V_aload_n C0 0 rfl 0 rfl dX3_readSheet_60 ?_
          refine g3_18 C0 dX3_readSheet_61 ?_
          refine g3_33 C0 s3 dX3_readSheet_64 ?_
          refine V_iload_n C0 1 rfl 1 rfl dX3_readSheet_67 ?_
          refine V_aaldF C0 6 s4 rfl dX3_readSheet_68 (fun q3 => ?_)
          refine V_iload_n C0 1 rfl 1 rfl dX3_readSheet_69 ?_
          refine V_iconst C0 dX3_readSheet_70 ic_0 ?_
          refine k3_46 C0 (by decide) (fun lq rq Mq hh => mc_f_Reader_readSum (f_Reader_readNested 60) (3 + 4 * 60) (by decide) (mc_f_Reader_readNested 60) lq (6 + 3 * ix x1) x1 0 M2 rq Mq q3 hh) (Nat.le_of_ble_eq_true rfl) dX3_readSheet_71 (fun r4 M4 => ?_)
          refine V_ifeq C0 86 dX3_readSheet_74 (by decide) (fun _ => ?_) (fun _ => ?_)
          · refine V_iconst C0 dX3_readSheet_86 ic_0 ?_
            exact V_zret C0 dX3_readSheet_87
          · refine V_aload_n C0 0 rfl 0 rfl dX3_readSheet_77 ?_
            refine V_bipush C0 dX3_readSheet_78 bp_59 ?_
            refine k3_42 C0 (by decide) (fun lq rq Mq hh => mc_f_Reader_pass lq 59 M4 rq Mq  hh) (Nat.le_of_ble_eq_true rfl) dX3_readSheet_80 (fun r5 M5 => ?_)
            refine V_ifne C0 88 dX3_readSheet_83 (by decide) (fun _ => ?_) (fun _ => ?_)
            · refine V_iincB C0 1 1 (fun y6 => [(1, .int y6), (0, .ref (G.2 + 1))]) rfl ic_1 (by decide) (fun _ => rfl) dX3_readSheet_88 (fun y6 => ?_)
              refine V_goto C0 34 dX3_readSheet_91 (by decide) ?_
              exact V_sub [1, 0] rfl (ih y6 M5)
            · refine V_iconst C0 dX3_readSheet_86 ic_0 ?_
              exact V_zret C0 dX3_readSheet_87
set_option maxRecDepth 100000 in
set_option maxHeartbeats 4000000 in
theorem f_Reader_readSheet_b7_ok {X : XT} {G : GT} (C0 : Cx X G cX3_readSheet 2 RX3 (some .boolean)) : ∀ (n : Nat) (x1 : Int32) (M : Mem), V X G 303 vI 2 7 [(0, .ref (G.2 + 1)), (1, .int x1)] [] M (f_Reader_readSheet_b7 n x1 M) := by
  intro n
  induction n with
  | zero =>
    intros
    exact V_none
  | succ n ih =>
    intro x1 M
    rw [f_Reader_readSheet_b7]
    refine V_iload_n C0 1 rfl 1 rfl dX3_readSheet_7 ?_
    refine V_bipush C0 dX3_readSheet_8 bp_6 ?_
    refine V_icmpge C0 32 dX3_readSheet_10 (by decide) (fun _ => ?_) (fun _ => ?_)
    · refine V_iconst C0 dX3_readSheet_32 ic_0 ?_
      refine V_istore_n C0 1 [(1, .int 0), (0, .ref (G.2 + 1))] rfl (by decide) rfl dX3_readSheet_33 ?_
      exact V_sub [1, 0] rfl (f_Reader_readSheet_b34_ok C0 FU 0 M)
    · refine V_aload_n C0 0 rfl 0 rfl dX3_readSheet_13 ?_
      refine g3_18 C0 dX3_readSheet_14 ?_
      refine g3_33 C0 s3 dX3_readSheet_17 ?_
      refine V_iload_n C0 1 rfl 1 rfl dX3_readSheet_20 ?_
      refine V_aaldF C0 6 s4 rfl dX3_readSheet_21 (fun q1 => ?_)
      refine V_iconst C0 dX3_readSheet_22 ic_0 ?_
      refine p3_37 C0 q1 dX3_readSheet_23 (fun M2 => ?_)
      refine V_iincB C0 1 1 (fun y3 => [(1, .int y3), (0, .ref (G.2 + 1))]) rfl ic_1 (by decide) (fun _ => rfl) dX3_readSheet_26 (fun y3 => ?_)
      refine V_goto C0 7 dX3_readSheet_29 (by decide) ?_
      exact V_sub [1, 0] rfl (ih y3 M2)
set_option maxRecDepth 100000 in
set_option maxHeartbeats 4000000 in
theorem mc_f_Reader_readSheet {G : GT} (l : Launch) (M : Mem) (r : Int32) (M1 : Mem) (ho : f_Reader_readSheet  M = some (r, M1)) : MC l G yX3_readSheet cX3_readSheet 2 (some .boolean) 303 [.ref (G.2 + 1)] M (vI r) M1 :=
  MC.ofV (own := RX3) (lv := [(0, .ref (G.2 + 1))]) (by decide +kernel) rfl rfl (Nat.le_of_ble_eq_true rfl) ho (fun X hX C0 => by
    unfold f_Reader_readSheet
    refine V_aload_n C0 0 rfl 0 rfl dX3_readSheet_0 ?_
    refine V_iconst C0 dX3_readSheet_1 ic_0 ?_
    refine p3_26 C0 dX3_readSheet_2 (fun M1 => ?_)
    refine V_iconst C0 dX3_readSheet_5 ic_0 ?_
    refine V_istore_n C0 1 [(1, .int 0), (0, .ref (G.2 + 1))] rfl (by decide) rfl dX3_readSheet_6 ?_
    exact V_sub [1, 0] rfl (f_Reader_readSheet_b7_ok C0 FU 0 M1))
set_option maxRecDepth 100000 in
set_option maxHeartbeats 4000000 in
theorem mc_f_Reader_take {G : GT} (l : Launch) (x1 : Int32) (M : Mem) (r : Int32) (M1 : Mem) (ho : f_Reader_take x1 M = some (r, M1)) : MC l G yX3_take cX3_take 2 (some .boolean) 0 [.ref (G.2 + 1), .int x1] M (vI r) M1 :=
  MC.ofV (own := RX3) (lv := [(0, .ref (G.2 + 1)), (1, .int x1)]) (by decide +kernel) rfl rfl (Nat.le_of_ble_eq_true rfl) ho (fun X hX C0 => by
    unfold f_Reader_take
    refine V_aload_n C0 0 rfl 0 rfl dX3_take_0 ?_
    refine g3_22 C0 dX3_take_1 ?_
    refine V_iflt C0 19 dX3_take_4 (by decide) (fun _ => ?_) (fun _ => ?_)
    · refine V_iconst C0 dX3_take_19 ic_0 ?_
      exact V_zret C0 dX3_take_20
    · refine V_aload_n C0 0 rfl 0 rfl dX3_take_7 ?_
      refine g3_22 C0 dX3_take_8 ?_
      refine V_aload_n C0 0 rfl 0 rfl dX3_take_11 ?_
      refine g3_9 C0 dX3_take_12 ?_
      refine V_alenI C0 100 s2 m2 dX3_take_15 ?_
      refine V_icmplt C0 21 dX3_take_16 (by decide) (fun _ => ?_) (fun _ => ?_)
      · refine V_aload_n C0 0 rfl 0 rfl dX3_take_21 ?_
        refine g3_9 C0 dX3_take_22 ?_
        refine V_aload_n C0 0 rfl 0 rfl dX3_take_25 ?_
        refine g3_22 C0 dX3_take_26 ?_
        refine V_iload_n C0 1 rfl 1 rfl dX3_take_29 ?_
        refine V_iast C0 100 s2 n2 dX3_take_30 (fun M1 => ?_)
        refine V_aload_n C0 0 rfl 0 rfl dX3_take_31 ?_
        refine V_dup C0 rfl dX3_take_32 ?_
        refine g3_22 C0 dX3_take_33 ?_
        refine V_iconst C0 dX3_take_36 ic_1 ?_
        refine V_iadd C0 dX3_take_37 ?_
        refine p3_22 C0 dX3_take_38 (fun M2 => ?_)
        refine V_iconst C0 dX3_take_41 ic_1 ?_
        exact V_zret C0 dX3_take_42
      · refine V_iconst C0 dX3_take_19 ic_0 ?_
        exact V_zret C0 dX3_take_20)
