set_option maxRecDepth 100000 in
set_option maxHeartbeats 4000000 in
theorem u_f_L_low {X : XT} {G : GT} {Z : ZT} (hZ : 0 ≤ Z.1) (x0 : Int32) (x1 : Int32) (M : Mem) : U X G Z cL_low (some .int) (QM X G Z vI) 2 0 [(0, .int x0), (1, .int x1)] [] M (f_L_low x0 x1 M) := by
  unfold f_L_low
  refine U_iload_n 0 rfl 0 rfl dL_low_0 ?_
  refine U_ldc wkL_8 dL_low_1 ?_
  refine U_iand dL_low_3 ?_
  refine U_iload_n 1 rfl 1 rfl dL_low_4 ?_
  refine U_gd (fun hz1 => ?_)
  refine U_irem (nz_ne hz1) dL_low_5 ?_
  exact U_iret dL_low_6
theorem mc_f_L_low {G : GT} (l : Launch) (x0 : Int32) (x1 : Int32) (M : Mem) (r : Int32) (M1 : Mem) (ho : f_L_low x0 x1 M = some (r, M1)) : MCL l G yL_low cL_low 2 (some .int) 0 [.int x0, .int x1] M (vI r) M1 :=
  MCL.ofU (lv := [(0, .int x0), (1, .int x1)]) (by decide +kernel) rfl rfl (Nat.le_of_ble_eq_true rfl) ho (fun X Z hZ => u_f_L_low (Nat.le_of_eq hZ.symm) x0 x1 M)
set_option maxRecDepth 100000 in
set_option maxHeartbeats 4000000 in
theorem f_L_part_b5_ok {X : XT} {G : GT} {Z : ZT} (hZ : 0 ≤ Z.1) : ∀ (n : Nat) (a0 : Nat) (x1 : Int32) (x3 : Int32) (x4 : Int32) (M : Mem), U X G Z cL_part (some .int) (QM X G Z vI) 5 5 [(0, .ref (G.2 + a0)), (1, .int x1), (3, .int x3), (4, .int x4)] [] M (f_L_part_b5 n a0 x1 x3 x4 M) := by
  intro n
  induction n with
  | zero =>
    intros
    rw [f_L_part_b5]
    exact U_none
  | succ n ih =>
    intro a0 x1 x3 x4 M
    rw [f_L_part_b5]
    refine U_iload_n 3 rfl 2 rfl dL_part_5 ?_
    refine U_ifle 47 dL_part_6 (by decide) (fun _ => ?_) (fun _ => ?_)
    · refine U_iload 4 3 rfl dL_part_47 ?_
      exact U_iret dL_part_49
    · refine U_iload_n 3 rfl 2 rfl dL_part_9 ?_
      refine U_aload_n 0 rfl 0 rfl dL_part_10 ?_
      refine U_iload_n 1 rfl 1 rfl dL_part_11 ?_
      refine U_iload 4 3 rfl dL_part_12 ?_
      refine U_iadd dL_part_14 ?_
      refine U_iald dL_part_15 ?_
      refine U_iconst dL_part_16 ic_3 ?_
      refine U_icmpge 24 dL_part_17 (by decide) (fun _ => ?_) (fun _ => ?_)
      · refine U_aload_n 0 rfl 0 rfl dL_part_24 ?_
        refine U_iload_n 1 rfl 1 rfl dL_part_25 ?_
        refine U_iload 4 3 rfl dL_part_26 ?_
        refine U_iadd dL_part_28 ?_
        refine U_iald dL_part_29 ?_
        refine U_iconst dL_part_30 ic_3 ?_
        refine U_icmpne 38 dL_part_31 (by decide) (fun _ => ?_) (fun _ => ?_)
        · refine U_iconst dL_part_38 ic_1 ?_
          refine U_iadd dL_part_39 ?_
          refine U_bi (fun y1 => ?_)
          refine U_istore_n 3 [(3, .int y1), (0, .ref (G.2 + a0)), (1, .int x1), (4, .int x4)] rfl (by decide) rfl dL_part_40 ?_
          refine U_iincB 4 3 (fun y2 => [(4, .int y2), (3, .int y1), (0, .ref (G.2 + a0)), (1, .int x1)]) rfl ic_1 (by decide) (fun _ => rfl) dL_part_41 (fun y2 => ?_)
          refine U_goto 5 dL_part_44 (by decide) ?_
          exact U_sub [2, 3, 1, 0] rfl (ih a0 x1 y1 y2 M)
        · refine U_iconst dL_part_34 ic_0 ?_
          refine U_goto 39 dL_part_35 (by decide) ?_
          refine U_iadd dL_part_39 ?_
          refine U_bi (fun y3 => ?_)
          refine U_istore_n 3 [(3, .int y3), (0, .ref (G.2 + a0)), (1, .int x1), (4, .int x4)] rfl (by decide) rfl dL_part_40 ?_
          refine U_iincB 4 3 (fun y4 => [(4, .int y4), (3, .int y3), (0, .ref (G.2 + a0)), (1, .int x1)]) rfl ic_1 (by decide) (fun _ => rfl) dL_part_41 (fun y4 => ?_)
          refine U_goto 5 dL_part_44 (by decide) ?_
          exact U_sub [2, 3, 1, 0] rfl (ih a0 x1 y3 y4 M)
      · refine U_iconst dL_part_20 ic_m1 ?_
        refine U_goto 39 dL_part_21 (by decide) ?_
        refine U_iadd dL_part_39 ?_
        refine U_bi (fun y5 => ?_)
        refine U_istore_n 3 [(3, .int y5), (0, .ref (G.2 + a0)), (1, .int x1), (4, .int x4)] rfl (by decide) rfl dL_part_40 ?_
        refine U_iincB 4 3 (fun y6 => [(4, .int y6), (3, .int y5), (0, .ref (G.2 + a0)), (1, .int x1)]) rfl ic_1 (by decide) (fun _ => rfl) dL_part_41 (fun y6 => ?_)
        refine U_goto 5 dL_part_44 (by decide) ?_
        exact U_sub [2, 3, 1, 0] rfl (ih a0 x1 y5 y6 M)
set_option maxRecDepth 100000 in
set_option maxHeartbeats 4000000 in
theorem u_f_L_part {X : XT} {G : GT} {Z : ZT} (hZ : 0 ≤ Z.1) (a0 : Nat) (x1 : Int32) (x2 : Int32) (M : Mem) : U X G Z cL_part (some .int) (QM X G Z vI) 5 0 [(0, .ref (G.2 + a0)), (1, .int x1), (2, .int x2)] [] M (f_L_part a0 x1 x2 M) := by
  unfold f_L_part
  refine U_iconst dL_part_0 ic_1 ?_
  refine U_istore_n 3 [(3, .int 1), (0, .ref (G.2 + a0)), (1, .int x1), (2, .int x2)] rfl (by decide) rfl dL_part_1 ?_
  refine U_iload_n 2 rfl 3 rfl dL_part_2 ?_
  refine U_istore 4 [(4, .int x2), (3, .int 1), (0, .ref (G.2 + a0)), (1, .int x1), (2, .int x2)] (by decide) rfl dL_part_3 ?_
  exact U_sub [2, 3, 1, 0] rfl (f_L_part_b5_ok hZ FU a0 x1 1 x2 M)
theorem mc_f_L_part {G : GT} (l : Launch) (a0 : Nat) (x1 : Int32) (x2 : Int32) (M : Mem) (r : Int32) (M1 : Mem) (ho : f_L_part a0 x1 x2 M = some (r, M1)) : MCL l G yL_part cL_part 5 (some .int) 0 [.ref (G.2 + a0), .int x1, .int x2] M (vI r) M1 :=
  MCL.ofU (lv := [(0, .ref (G.2 + a0)), (1, .int x1), (2, .int x2)]) (by decide +kernel) rfl rfl (Nat.le_of_ble_eq_true rfl) ho (fun X Z hZ => u_f_L_part (Nat.le_of_eq hZ.symm) a0 x1 x2 M)
set_option maxRecDepth 100000 in
set_option maxHeartbeats 4000000 in
theorem f_L_isCheap_b177_ok {X : XT} {G : GT} {Z : ZT} (hZ : 0 ≤ Z.1) (x6 : Int32) (x7 : Int32) (M : Mem) : U X G Z cL_isCheap (some .boolean) (QM X G Z vI) 12 177 [(6, .int x6), (7, .int x7)] [] M (f_L_isCheap_b177 x6 x7 M) := by
  unfold f_L_isCheap_b177
  refine U_iload 7 1 rfl dL_isCheap_177 ?_
  refine U_ifeq 192 dL_isCheap_179 (by decide) (fun _ => ?_) (fun _ => ?_)
  · refine U_iconst dL_isCheap_192 ic_0 ?_
    exact U_zret dL_isCheap_193
  · refine U_iload 6 0 rfl dL_isCheap_182 ?_
    refine U_iconst dL_isCheap_184 ic_4 ?_
    refine U_icmpge 192 dL_isCheap_185 (by decide) (fun _ => ?_) (fun _ => ?_)
    · refine U_iconst dL_isCheap_192 ic_0 ?_
      exact U_zret dL_isCheap_193
    · refine U_iconst dL_isCheap_188 ic_1 ?_
      refine U_goto 193 dL_isCheap_189 (by decide) ?_
      exact U_zret dL_isCheap_193
set_option maxRecDepth 100000 in
set_option maxHeartbeats 4000000 in
theorem f_L_isCheap_b136_ok {X : XT} {G : GT} {Z : ZT} (hZ : 0 ≤ Z.1) (k42 : Nat → Nat → Nat → Int32 → Int32 → Int32 → Nat → Int32 → Mem → Option (Int32 × Mem)) (k55 : Nat → Nat → Nat → Int32 → Int32 → Int32 → Nat → Int32 → Int32 → Mem → Option (Int32 × Mem)) (hk42 : ∀ (a1 : Nat) (a2 : Nat) (a3 : Nat) (x5 : Int32) (x6 : Int32) (x7 : Int32) (a8 : Nat) (x9 : Int32) (M : Mem), U X G Z cL_isCheap (some .boolean) (QM X G Z vI) 12 42 [(1, .ref (G.2 + a1)), (2, .ref (G.2 + a2)), (3, .ref (G.2 + a3)), (5, .int x5), (6, .int x6), (7, .int x7), (8, .ref (G.2 + a8)), (9, .int x9)] [] M (k42 a1 a2 a3 x5 x6 x7 a8 x9 M)) (hk55 : ∀ (a1 : Nat) (a2 : Nat) (a3 : Nat) (x5 : Int32) (x6 : Int32) (x7 : Int32) (a8 : Nat) (x9 : Int32) (x10 : Int32) (M : Mem), U X G Z cL_isCheap (some .boolean) (QM X G Z vI) 12 55 [(1, .ref (G.2 + a1)), (2, .ref (G.2 + a2)), (3, .ref (G.2 + a3)), (5, .int x5), (6, .int x6), (7, .int x7), (8, .ref (G.2 + a8)), (9, .int x9), (10, .int x10)] [] M (k55 a1 a2 a3 x5 x6 x7 a8 x9 x10 M)) (a1 : Nat) (a2 : Nat) (a3 : Nat) (x5 : Int32) (x7 : Int32) (a8 : Nat) (x9 : Int32) (x10 : Int32) (x11 : Int32) (t0 : Int32) (t1 : Int32) (M : Mem) : U X G Z cL_isCheap (some .boolean) (QM X G Z vI) 12 136 [(1, .ref (G.2 + a1)), (2, .ref (G.2 + a2)), (3, .ref (G.2 + a3)), (5, .int x5), (7, .int x7), (8, .ref (G.2 + a8)), (9, .int x9), (10, .int x10), (11, .int x11)] [.int t0, .int t1] M (f_L_isCheap_b136 k42 k55 a1 a2 a3 x5 x7 a8 x9 x10 x11 t0 t1 M) := by
  unfold f_L_isCheap_b136
  refine U_iadd dL_isCheap_136 ?_
  refine U_bi (fun y1 => ?_)
  refine U_istore 6 [(6, .int y1), (1, .ref (G.2 + a1)), (2, .ref (G.2 + a2)), (3, .ref (G.2 + a3)), (5, .int x5), (7, .int x7), (8, .ref (G.2 + a8)), (9, .int x9), (10, .int x10), (11, .int x11)] (by decide) rfl dL_isCheap_137 ?_
  refine U_iload 11 9 rfl dL_isCheap_139 ?_
  refine U_ifeq 165 dL_isCheap_141 (by decide) (fun _ => ?_) (fun _ => ?_)
  · refine U_iincB 10 8 (fun y2 => [(10, .int y2), (6, .int y1), (1, .ref (G.2 + a1)), (2, .ref (G.2 + a2)), (3, .ref (G.2 + a3)), (5, .int x5), (7, .int x7), (8, .ref (G.2 + a8)), (9, .int x9), (11, .int x11)]) rfl ic_1 (by decide) (fun _ => rfl) dL_isCheap_165 (fun y2 => ?_)
    refine U_goto 55 dL_isCheap_168 (by decide) ?_
    exact U_sub [2, 3, 4, 5, 1, 6, 7, 8, 0] rfl (hk55 a1 a2 a3 x5 y1 x7 a8 x9 y2 M)
  · refine U_aload 8 6 rfl dL_isCheap_144 ?_
    refine U_aload_n 3 rfl 3 rfl dL_isCheap_146 ?_
    refine U_bipush dL_isCheap_147 bp_16 ?_
    refine U_iload 9 7 rfl dL_isCheap_149 ?_
    refine U_imul dL_isCheap_151 ?_
    refine U_iload 10 8 rfl dL_isCheap_152 ?_
    refine U_iadd dL_isCheap_154 ?_
    refine U_iald dL_isCheap_155 ?_
    refine U_dup2 rfl rfl dL_isCheap_156 ?_
    refine U_iald dL_isCheap_157 ?_
    refine U_aload 8 6 rfl dL_isCheap_158 ?_
    refine U_iload 9 7 rfl dL_isCheap_160 ?_
    refine U_iald dL_isCheap_162 ?_
    refine U_iadd dL_isCheap_163 ?_
    refine U_iast dL_isCheap_164 (fun M3 => ?_)
    refine U_iincB 10 8 (fun y4 => [(10, .int y4), (6, .int y1), (1, .ref (G.2 + a1)), (2, .ref (G.2 + a2)), (3, .ref (G.2 + a3)), (5, .int x5), (7, .int x7), (8, .ref (G.2 + a8)), (9, .int x9), (11, .int x11)]) rfl ic_1 (by decide) (fun _ => rfl) dL_isCheap_165 (fun y4 => ?_)
    refine U_goto 55 dL_isCheap_168 (by decide) ?_
    exact U_sub [2, 3, 4, 5, 1, 6, 7, 8, 0] rfl (hk55 a1 a2 a3 x5 y1 x7 a8 x9 y4 M3)
set_option maxRecDepth 100000 in
set_option maxHeartbeats 4000000 in
theorem f_L_isCheap_b118_ok {X : XT} {G : GT} {Z : ZT} (hZ : 0 ≤ Z.1) (k42 : Nat → Nat → Nat → Int32 → Int32 → Int32 → Nat → Int32 → Mem → Option (Int32 × Mem)) (k55 : Nat → Nat → Nat → Int32 → Int32 → Int32 → Nat → Int32 → Int32 → Mem → Option (Int32 × Mem)) (hk42 : ∀ (a1 : Nat) (a2 : Nat) (a3 : Nat) (x5 : Int32) (x6 : Int32) (x7 : Int32) (a8 : Nat) (x9 : Int32) (M : Mem), U X G Z cL_isCheap (some .boolean) (QM X G Z vI) 12 42 [(1, .ref (G.2 + a1)), (2, .ref (G.2 + a2)), (3, .ref (G.2 + a3)), (5, .int x5), (6, .int x6), (7, .int x7), (8, .ref (G.2 + a8)), (9, .int x9)] [] M (k42 a1 a2 a3 x5 x6 x7 a8 x9 M)) (hk55 : ∀ (a1 : Nat) (a2 : Nat) (a3 : Nat) (x5 : Int32) (x6 : Int32) (x7 : Int32) (a8 : Nat) (x9 : Int32) (x10 : Int32) (M : Mem), U X G Z cL_isCheap (some .boolean) (QM X G Z vI) 12 55 [(1, .ref (G.2 + a1)), (2, .ref (G.2 + a2)), (3, .ref (G.2 + a3)), (5, .int x5), (6, .int x6), (7, .int x7), (8, .ref (G.2 + a8)), (9, .int x9), (10, .int x10)] [] M (k55 a1 a2 a3 x5 x6 x7 a8 x9 x10 M)) (a1 : Nat) (a2 : Nat) (a3 : Nat) (x5 : Int32) (x6 : Int32) (a8 : Nat) (x9 : Int32) (x10 : Int32) (x11 : Int32) (t0 : Int32) (M : Mem) : U X G Z cL_isCheap (some .boolean) (QM X G Z vI) 12 118 [(1, .ref (G.2 + a1)), (2, .ref (G.2 + a2)), (3, .ref (G.2 + a3)), (5, .int x5), (6, .int x6), (8, .ref (G.2 + a8)), (9, .int x9), (10, .int x10), (11, .int x11)] [.int t0] M (f_L_isCheap_b118 k42 k55 a1 a2 a3 x5 x6 a8 x9 x10 x11 t0 M) := by
  unfold f_L_isCheap_b118
  refine U_istore 7 [(7, .int t0), (1, .ref (G.2 + a1)), (2, .ref (G.2 + a2)), (3, .ref (G.2 + a3)), (5, .int x5), (6, .int x6), (8, .ref (G.2 + a8)), (9, .int x9), (10, .int x10), (11, .int x11)] (by decide) rfl dL_isCheap_118 ?_
  refine U_iload 6 5 rfl dL_isCheap_120 ?_
  refine U_iload 11 9 rfl dL_isCheap_122 ?_
  refine U_ifeq 131 dL_isCheap_124 (by decide) (fun _ => ?_) (fun _ => ?_)
  · refine U_aload 8 6 rfl dL_isCheap_131 ?_
    refine U_iload 9 7 rfl dL_isCheap_133 ?_
    refine U_iald dL_isCheap_135 ?_
    exact U_sub [1, 2, 3, 4, 0, 6, 7, 8, 9] rfl (f_L_isCheap_b136_ok hZ k42 k55 hk42 hk55 a1 a2 a3 x5 t0 a8 x9 x10 x11 (M.1 a8 (ix x9)) x6 M)
  · refine U_iconst dL_isCheap_127 ic_0 ?_
    refine U_goto 136 dL_isCheap_128 (by decide) ?_
    exact U_sub [1, 2, 3, 4, 0, 6, 7, 8, 9] rfl (f_L_isCheap_b136_ok hZ k42 k55 hk42 hk55 a1 a2 a3 x5 t0 a8 x9 x10 x11 0 x6 M)
set_option maxRecDepth 100000 in
set_option maxHeartbeats 4000000 in
theorem f_L_isCheap_b117_ok {X : XT} {G : GT} {Z : ZT} (hZ : 0 ≤ Z.1) (k42 : Nat → Nat → Nat → Int32 → Int32 → Int32 → Nat → Int32 → Mem → Option (Int32 × Mem)) (k55 : Nat → Nat → Nat → Int32 → Int32 → Int32 → Nat → Int32 → Int32 → Mem → Option (Int32 × Mem)) (hk42 : ∀ (a1 : Nat) (a2 : Nat) (a3 : Nat) (x5 : Int32) (x6 : Int32) (x7 : Int32) (a8 : Nat) (x9 : Int32) (M : Mem), U X G Z cL_isCheap (some .boolean) (QM X G Z vI) 12 42 [(1, .ref (G.2 + a1)), (2, .ref (G.2 + a2)), (3, .ref (G.2 + a3)), (5, .int x5), (6, .int x6), (7, .int x7), (8, .ref (G.2 + a8)), (9, .int x9)] [] M (k42 a1 a2 a3 x5 x6 x7 a8 x9 M)) (hk55 : ∀ (a1 : Nat) (a2 : Nat) (a3 : Nat) (x5 : Int32) (x6 : Int32) (x7 : Int32) (a8 : Nat) (x9 : Int32) (x10 : Int32) (M : Mem), U X G Z cL_isCheap (some .boolean) (QM X G Z vI) 12 55 [(1, .ref (G.2 + a1)), (2, .ref (G.2 + a2)), (3, .ref (G.2 + a3)), (5, .int x5), (6, .int x6), (7, .int x7), (8, .ref (G.2 + a8)), (9, .int x9), (10, .int x10)] [] M (k55 a1 a2 a3 x5 x6 x7 a8 x9 x10 M)) (a1 : Nat) (a2 : Nat) (a3 : Nat) (x5 : Int32) (x6 : Int32) (a8 : Nat) (x9 : Int32) (x10 : Int32) (x11 : Int32) (M : Mem) : U X G Z cL_isCheap (some .boolean) (QM X G Z vI) 12 117 [(1, .ref (G.2 + a1)), (2, .ref (G.2 + a2)), (3, .ref (G.2 + a3)), (5, .int x5), (6, .int x6), (8, .ref (G.2 + a8)), (9, .int x9), (10, .int x10), (11, .int x11)] [] M (f_L_isCheap_b117 k42 k55 a1 a2 a3 x5 x6 a8 x9 x10 x11 M) := by
  unfold f_L_isCheap_b117
  refine U_iconst dL_isCheap_117 ic_0 ?_
  exact U_sub [0, 1, 2, 3, 4, 5, 6, 7, 8] rfl (f_L_isCheap_b118_ok hZ k42 k55 hk42 hk55 a1 a2 a3 x5 x6 a8 x9 x10 x11 0 M)
set_option maxRecDepth 100000 in
set_option maxHeartbeats 4000000 in
theorem f_L_isCheap_b91_ok {X : XT} {G : GT} {Z : ZT} (hZ : 0 ≤ Z.1) (k42 : Nat → Nat → Nat → Int32 → Int32 → Int32 → Nat → Int32 → Mem → Option (Int32 × Mem)) (k55 : Nat → Nat → Nat → Int32 → Int32 → Int32 → Nat → Int32 → Int32 → Mem → Option (Int32 × Mem)) (hk42 : ∀ (a1 : Nat) (a2 : Nat) (a3 : Nat) (x5 : Int32) (x6 : Int32) (x7 : Int32) (a8 : Nat) (x9 : Int32) (M : Mem), U X G Z cL_isCheap (some .boolean) (QM X G Z vI) 12 42 [(1, .ref (G.2 + a1)), (2, .ref (G.2 + a2)), (3, .ref (G.2 + a3)), (5, .int x5), (6, .int x6), (7, .int x7), (8, .ref (G.2 + a8)), (9, .int x9)] [] M (k42 a1 a2 a3 x5 x6 x7 a8 x9 M)) (hk55 : ∀ (a1 : Nat) (a2 : Nat) (a3 : Nat) (x5 : Int32) (x6 : Int32) (x7 : Int32) (a8 : Nat) (x9 : Int32) (x10 : Int32) (M : Mem), U X G Z cL_isCheap (some .boolean) (QM X G Z vI) 12 55 [(1, .ref (G.2 + a1)), (2, .ref (G.2 + a2)), (3, .ref (G.2 + a3)), (5, .int x5), (6, .int x6), (7, .int x7), (8, .ref (G.2 + a8)), (9, .int x9), (10, .int x10)] [] M (k55 a1 a2 a3 x5 x6 x7 a8 x9 x10 M)) (a1 : Nat) (a2 : Nat) (a3 : Nat) (x5 : Int32) (x6 : Int32) (x7 : Int32) (a8 : Nat) (x9 : Int32) (x10 : Int32) (t0 : Int32) (M : Mem) : U X G Z cL_isCheap (some .boolean) (QM X G Z vI) 12 91 [(1, .ref (G.2 + a1)), (2, .ref (G.2 + a2)), (3, .ref (G.2 + a3)), (5, .int x5), (6, .int x6), (7, .int x7), (8, .ref (G.2 + a8)), (9, .int x9), (10, .int x10)] [.int t0] M (f_L_isCheap_b91 k42 k55 a1 a2 a3 x5 x6 x7 a8 x9 x10 t0 M) := by
  unfold f_L_isCheap_b91
  refine U_istore 11 [(11, .int t0), (1, .ref (G.2 + a1)), (2, .ref (G.2 + a2)), (3, .ref (G.2 + a3)), (5, .int x5), (6, .int x6), (7, .int x7), (8, .ref (G.2 + a8)), (9, .int x9), (10, .int x10)] (by decide) rfl dL_isCheap_91 ?_
  refine U_iload 7 6 rfl dL_isCheap_93 ?_
  refine U_ifeq 117 dL_isCheap_95 (by decide) (fun _ => ?_) (fun _ => ?_)
  · exact U_sub [1, 2, 3, 4, 5, 7, 8, 9, 0] rfl (f_L_isCheap_b117_ok hZ k42 k55 hk42 hk55 a1 a2 a3 x5 x6 a8 x9 x10 t0 M)
  · refine U_aload_n 2 rfl 2 rfl dL_isCheap_98 ?_
    refine U_bipush dL_isCheap_99 bp_16 ?_
    refine U_iload 9 8 rfl dL_isCheap_101 ?_
    refine U_imul dL_isCheap_103 ?_
    refine U_iload 10 9 rfl dL_isCheap_104 ?_
    refine U_iadd dL_isCheap_106 ?_
    refine U_iald dL_isCheap_107 ?_
    refine U_bipush dL_isCheap_108 bp_6 ?_
    refine U_icmpeq 117 dL_isCheap_110 (by decide) (fun _ => ?_) (fun _ => ?_)
    · exact U_sub [1, 2, 3, 4, 5, 7, 8, 9, 0] rfl (f_L_isCheap_b117_ok hZ k42 k55 hk42 hk55 a1 a2 a3 x5 x6 a8 x9 x10 t0 M)
    · refine U_iconst dL_isCheap_113 ic_1 ?_
      refine U_goto 118 dL_isCheap_114 (by decide) ?_
      exact U_sub [1, 2, 3, 4, 5, 7, 8, 9, 0] rfl (f_L_isCheap_b118_ok hZ k42 k55 hk42 hk55 a1 a2 a3 x5 x6 a8 x9 x10 t0 1 M)
set_option maxRecDepth 100000 in
set_option maxHeartbeats 4000000 in
theorem f_L_isCheap_b55_ok {X : XT} {G : GT} {Z : ZT} (hZ : 0 ≤ Z.1) (k42 : Nat → Nat → Nat → Int32 → Int32 → Int32 → Nat → Int32 → Mem → Option (Int32 × Mem)) (hk42 : ∀ (a1 : Nat) (a2 : Nat) (a3 : Nat) (x5 : Int32) (x6 : Int32) (x7 : Int32) (a8 : Nat) (x9 : Int32) (M : Mem), U X G Z cL_isCheap (some .boolean) (QM X G Z vI) 12 42 [(1, .ref (G.2 + a1)), (2, .ref (G.2 + a2)), (3, .ref (G.2 + a3)), (5, .int x5), (6, .int x6), (7, .int x7), (8, .ref (G.2 + a8)), (9, .int x9)] [] M (k42 a1 a2 a3 x5 x6 x7 a8 x9 M)) : ∀ (n : Nat) (a1 : Nat) (a2 : Nat) (a3 : Nat) (x5 : Int32) (x6 : Int32) (x7 : Int32) (a8 : Nat) (x9 : Int32) (x10 : Int32) (M : Mem), U X G Z cL_isCheap (some .boolean) (QM X G Z vI) 12 55 [(1, .ref (G.2 + a1)), (2, .ref (G.2 + a2)), (3, .ref (G.2 + a3)), (5, .int x5), (6, .int x6), (7, .int x7), (8, .ref (G.2 + a8)), (9, .int x9), (10, .int x10)] [] M (f_L_isCheap_b55 k42 n a1 a2 a3 x5 x6 x7 a8 x9 x10 M) := by
  intro n
  induction n with
  | zero =>
    intros
    rw [f_L_isCheap_b55]
    exact U_none
  | succ n ih =>
    intro a1 a2 a3 x5 x6 x7 a8 x9 x10 M
    rw [f_L_isCheap_b55]
    refine U_iload 10 8 rfl dL_isCheap_55 ?_
    refine U_aload_n 1 rfl 0 rfl dL_isCheap_57 ?_
    refine U_iload 9 7 rfl dL_isCheap_58 ?_
    refine U_iald dL_isCheap_60 ?_
    refine U_icmpge 171 dL_isCheap_61 (by decide) (fun _ => ?_) (fun _ => ?_)
    · refine U_iincB 9 7 (fun y1 => [(9, .int y1), (1, .ref (G.2 + a1)), (2, .ref (G.2 + a2)), (3, .ref (G.2 + a3)), (5, .int x5), (6, .int x6), (7, .int x7), (8, .ref (G.2 + a8)), (10, .int x10)]) rfl ic_m1 (by decide) (fun _ => rfl) dL_isCheap_171 (fun y1 => ?_)
      refine U_goto 42 dL_isCheap_174 (by decide) ?_
      exact U_sub [1, 2, 3, 4, 5, 6, 7, 0] rfl (hk42 a1 a2 a3 x5 x6 x7 a8 y1 M)
    · refine U_aload 8 6 rfl dL_isCheap_64 ?_
      refine U_iload 9 7 rfl dL_isCheap_66 ?_
      refine U_iald dL_isCheap_68 ?_
      refine U_ifle 171 dL_isCheap_69 (by decide) (fun _ => ?_) (fun _ => ?_)
      · refine U_iincB 9 7 (fun y2 => [(9, .int y2), (1, .ref (G.2 + a1)), (2, .ref (G.2 + a2)), (3, .ref (G.2 + a3)), (5, .int x5), (6, .int x6), (7, .int x7), (8, .ref (G.2 + a8)), (10, .int x10)]) rfl ic_m1 (by decide) (fun _ => rfl) dL_isCheap_171 (fun y2 => ?_)
        refine U_goto 42 dL_isCheap_174 (by decide) ?_
        exact U_sub [1, 2, 3, 4, 5, 6, 7, 0] rfl (hk42 a1 a2 a3 x5 x6 x7 a8 y2 M)
      · refine U_aload_n 2 rfl 1 rfl dL_isCheap_72 ?_
        refine U_bipush dL_isCheap_73 bp_16 ?_
        refine U_iload 9 7 rfl dL_isCheap_75 ?_
        refine U_imul dL_isCheap_77 ?_
        refine U_iload 10 8 rfl dL_isCheap_78 ?_
        refine U_iadd dL_isCheap_80 ?_
        refine U_iald dL_isCheap_81 ?_
        refine U_iconst dL_isCheap_82 ic_2 ?_
        refine U_icmpne 90 dL_isCheap_83 (by decide) (fun _ => ?_) (fun _ => ?_)
        · refine U_iconst dL_isCheap_90 ic_0 ?_
          exact U_sub [0, 1, 2, 3, 4, 5, 6, 7, 8] rfl (f_L_isCheap_b91_ok hZ k42 (f_L_isCheap_b55 k42 n) hk42 ih a1 a2 a3 x5 x6 x7 a8 x9 x10 0 M)
        · refine U_iconst dL_isCheap_86 ic_1 ?_
          refine U_goto 91 dL_isCheap_87 (by decide) ?_
          exact U_sub [0, 1, 2, 3, 4, 5, 6, 7, 8] rfl (f_L_isCheap_b91_ok hZ k42 (f_L_isCheap_b55 k42 n) hk42 ih a1 a2 a3 x5 x6 x7 a8 x9 x10 1 M)
set_option maxRecDepth 100000 in
set_option maxHeartbeats 4000000 in
theorem f_L_isCheap_b42_ok {X : XT} {G : GT} {Z : ZT} (hZ : 0 ≤ Z.1) : ∀ (n : Nat) (a1 : Nat) (a2 : Nat) (a3 : Nat) (x5 : Int32) (x6 : Int32) (x7 : Int32) (a8 : Nat) (x9 : Int32) (M : Mem), U X G Z cL_isCheap (some .boolean) (QM X G Z vI) 12 42 [(1, .ref (G.2 + a1)), (2, .ref (G.2 + a2)), (3, .ref (G.2 + a3)), (5, .int x5), (6, .int x6), (7, .int x7), (8, .ref (G.2 + a8)), (9, .int x9)] [] M (f_L_isCheap_b42 n a1 a2 a3 x5 x6 x7 a8 x9 M) := by
  intro n
  induction n with
  | zero =>
    intros
    rw [f_L_isCheap_b42]
    exact U_none
  | succ n ih =>
    intro a1 a2 a3 x5 x6 x7 a8 x9 M
    rw [f_L_isCheap_b42]
    refine U_iload 9 7 rfl dL_isCheap_42 ?_
    refine U_iflt 177 dL_isCheap_44 (by decide) (fun _ => ?_) (fun _ => ?_)
    · exact U_sub [4, 5] rfl (f_L_isCheap_b177_ok hZ x6 x7 M)
    · refine U_iload 5 3 rfl dL_isCheap_47 ?_
      refine U_ifle 177 dL_isCheap_49 (by decide) (fun _ => ?_) (fun _ => ?_)
      · exact U_sub [4, 5] rfl (f_L_isCheap_b177_ok hZ x6 x7 M)
      · refine U_iconst dL_isCheap_52 ic_0 ?_
        refine U_istore 10 [(10, .int 0), (1, .ref (G.2 + a1)), (2, .ref (G.2 + a2)), (3, .ref (G.2 + a3)), (5, .int x5), (6, .int x6), (7, .int x7), (8, .ref (G.2 + a8)), (9, .int x9)] (by decide) rfl dL_isCheap_53 ?_
        exact U_sub [1, 2, 3, 4, 5, 6, 7, 8, 0] rfl (f_L_isCheap_b55_ok hZ (f_L_isCheap_b42 n) ih FU a1 a2 a3 x5 x6 x7 a8 x9 0 M)
set_option maxRecDepth 100000 in
set_option maxHeartbeats 4000000 in
theorem f_L_isCheap_b24_ok {X : XT} {G : GT} {Z : ZT} (hZ : 0 ≤ Z.1) (a1 : Nat) (a2 : Nat) (a3 : Nat) (x4 : Int32) (x5 : Int32) (x6 : Int32) (t0 : Int32) (M : Mem) : U X G Z cL_isCheap (some .boolean) (QM X G Z vI) 12 24 [(1, .ref (G.2 + a1)), (2, .ref (G.2 + a2)), (3, .ref (G.2 + a3)), (4, .int x4), (5, .int x5), (6, .int x6)] [.int t0] M (f_L_isCheap_b24 a1 a2 a3 x4 x5 x6 t0 M) := by
  unfold f_L_isCheap_b24
  refine U_istore 7 [(7, .int t0), (1, .ref (G.2 + a1)), (2, .ref (G.2 + a2)), (3, .ref (G.2 + a3)), (4, .int x4), (5, .int x5), (6, .int x6)] (by decide) rfl dL_isCheap_24 ?_
  refine U_bipush dL_isCheap_26 bp_8 ?_
  refine U_newa xa_i dL_isCheap_28 (fun b1 M1 => ?_)
  refine U_astore 8 [(8, .ref (G.2 + b1)), (7, .int t0), (1, .ref (G.2 + a1)), (2, .ref (G.2 + a2)), (3, .ref (G.2 + a3)), (4, .int x4), (5, .int x5), (6, .int x6)] (by decide) rfl dL_isCheap_30 ?_
  refine U_aload 8 0 rfl dL_isCheap_32 ?_
  refine U_iload 4 5 rfl dL_isCheap_34 ?_
  refine U_iconst dL_isCheap_36 ic_1 ?_
  refine U_iast dL_isCheap_37 (fun M2 => ?_)
  refine U_iload 4 5 rfl dL_isCheap_38 ?_
  refine U_istore 9 [(9, .int x4), (8, .ref (G.2 + b1)), (7, .int t0), (1, .ref (G.2 + a1)), (2, .ref (G.2 + a2)), (3, .ref (G.2 + a3)), (4, .int x4), (5, .int x5), (6, .int x6)] (by decide) rfl dL_isCheap_40 ?_
  exact U_sub [3, 4, 5, 7, 8, 2, 1, 0] rfl (f_L_isCheap_b42_ok hZ FU a1 a2 a3 x5 x6 t0 b1 x4 M2)
set_option maxRecDepth 100000 in
set_option maxHeartbeats 4000000 in
theorem u_f_L_isCheap {X : XT} {G : GT} {Z : ZT} (hZ : 0 ≤ Z.1) (a0 : Nat) (a1 : Nat) (a2 : Nat) (a3 : Nat) (x4 : Int32) (M : Mem) : U X G Z cL_isCheap (some .boolean) (QM X G Z vI) 12 0 [(0, .ref (G.2 + a0)), (1, .ref (G.2 + a1)), (2, .ref (G.2 + a2)), (3, .ref (G.2 + a3)), (4, .int x4)] [] M (f_L_isCheap a0 a1 a2 a3 x4 M) := by
  unfold f_L_isCheap
  refine U_iconst dL_isCheap_0 ic_1 ?_
  refine U_iload 4 4 rfl dL_isCheap_1 ?_
  refine U_ishl dL_isCheap_3 ?_
  refine U_bi (fun y1 => ?_)
  refine U_istore 5 [(5, .int y1), (0, .ref (G.2 + a0)), (1, .ref (G.2 + a1)), (2, .ref (G.2 + a2)), (3, .ref (G.2 + a3)), (4, .int x4)] (by decide) rfl dL_isCheap_4 ?_
  refine U_iconst dL_isCheap_6 ic_0 ?_
  refine U_istore 6 [(6, .int 0), (5, .int y1), (0, .ref (G.2 + a0)), (1, .ref (G.2 + a1)), (2, .ref (G.2 + a2)), (3, .ref (G.2 + a3)), (4, .int x4)] (by decide) rfl dL_isCheap_7 ?_
  refine U_iload 4 6 rfl dL_isCheap_9 ?_
  refine U_aload_n 0 rfl 2 rfl dL_isCheap_11 ?_
  refine U_iconst dL_isCheap_12 ic_0 ?_
  refine U_iald dL_isCheap_13 ?_
  refine U_iconst dL_isCheap_14 ic_1 ?_
  refine U_isub dL_isCheap_15 ?_
  refine U_icmpge 23 dL_isCheap_16 (by decide) (fun _ => ?_) (fun _ => ?_)
  · refine U_iconst dL_isCheap_23 ic_0 ?_
    exact U_sub [3, 4, 5, 6, 1, 0] rfl (f_L_isCheap_b24_ok hZ a1 a2 a3 x4 y1 0 0 M)
  · refine U_iconst dL_isCheap_19 ic_1 ?_
    refine U_goto 24 dL_isCheap_20 (by decide) ?_
    exact U_sub [3, 4, 5, 6, 1, 0] rfl (f_L_isCheap_b24_ok hZ a1 a2 a3 x4 y1 0 1 M)
theorem mc_f_L_isCheap {G : GT} (l : Launch) (a0 : Nat) (a1 : Nat) (a2 : Nat) (a3 : Nat) (x4 : Int32) (M : Mem) (r : Int32) (M1 : Mem) (ho : f_L_isCheap a0 a1 a2 a3 x4 M = some (r, M1)) : MCL l G yL_isCheap cL_isCheap 12 (some .boolean) 0 [.ref (G.2 + a0), .ref (G.2 + a1), .ref (G.2 + a2), .ref (G.2 + a3), .int x4] M (vI r) M1 :=
  MCL.ofU (lv := [(0, .ref (G.2 + a0)), (1, .ref (G.2 + a1)), (2, .ref (G.2 + a2)), (3, .ref (G.2 + a3)), (4, .int x4)]) (by decide +kernel) rfl rfl (Nat.le_of_ble_eq_true rfl) ho (fun X Z hZ => u_f_L_isCheap (Nat.le_of_eq hZ.symm) a0 a1 a2 a3 x4 M)
set_option maxRecDepth 100000 in
set_option maxHeartbeats 4000000 in
theorem f_L_expand_b160_ok {X : XT} {G : GT} {Z : ZT} (hZ : 1 ≤ Z.1) (k58 : Nat → Nat → Nat → Nat → Nat → Nat → Int32 → Int32 → Mem → Option (Int32 × Mem)) (k66 : Nat → Nat → Nat → Nat → Nat → Nat → Int32 → Int32 → Int32 → Mem → Option (Int32 × Mem)) (hk58 : ∀ (a0 : Nat) (a1 : Nat) (a2 : Nat) (a3 : Nat) (a5 : Nat) (a6 : Nat) (x7 : Int32) (x8 : Int32) (M : Mem), U X G Z cL_expand (some .int) (QM X G Z vI) 11 58 [(0, .ref (G.2 + a0)), (1, .ref (G.2 + a1)), (2, .ref (G.2 + a2)), (3, .ref (G.2 + a3)), (5, .ref (G.2 + a5)), (6, .ref (G.2 + a6)), (7, .int x7), (8, .int x8)] [] M (k58 a0 a1 a2 a3 a5 a6 x7 x8 M)) (hk66 : ∀ (a0 : Nat) (a1 : Nat) (a2 : Nat) (a3 : Nat) (a5 : Nat) (a6 : Nat) (x7 : Int32) (x8 : Int32) (x9 : Int32) (M : Mem), U X G Z cL_expand (some .int) (QM X G Z vI) 11 66 [(0, .ref (G.2 + a0)), (1, .ref (G.2 + a1)), (2, .ref (G.2 + a2)), (3, .ref (G.2 + a3)), (5, .ref (G.2 + a5)), (6, .ref (G.2 + a6)), (7, .int x7), (8, .int x8), (9, .int x9)] [] M (k66 a0 a1 a2 a3 a5 a6 x7 x8 x9 M)) : ∀ (n : Nat) (a0 : Nat) (a1 : Nat) (a2 : Nat) (a3 : Nat) (a5 : Nat) (a6 : Nat) (x7 : Int32) (x8 : Int32) (x9 : Int32) (x10 : Int32) (M : Mem), U X G Z cL_expand (some .int) (QM X G Z vI) 11 160 [(0, .ref (G.2 + a0)), (1, .ref (G.2 + a1)), (2, .ref (G.2 + a2)), (3, .ref (G.2 + a3)), (5, .ref (G.2 + a5)), (6, .ref (G.2 + a6)), (7, .int x7), (8, .int x8), (9, .int x9), (10, .int x10)] [] M (f_L_expand_b160 k58 k66 n a0 a1 a2 a3 a5 a6 x7 x8 x9 x10 M) := by
  intro n
  induction n with
  | zero =>
    intros
    rw [f_L_expand_b160]
    exact U_none
  | succ n ih =>
    intro a0 a1 a2 a3 a5 a6 x7 x8 x9 x10 M
    rw [f_L_expand_b160]
    refine U_iload 10 9 rfl dL_expand_160 ?_
    refine U_aload_n 1 rfl 1 rfl dL_expand_162 ?_
    refine U_iload 8 7 rfl dL_expand_163 ?_
    refine U_iald dL_expand_165 ?_
    refine U_icmpge 211 dL_expand_166 (by decide) (fun _ => ?_) (fun _ => ?_)
    · refine U_iload 7 6 rfl dL_expand_211 ?_
      refine U_aload_n 1 rfl 1 rfl dL_expand_213 ?_
      refine U_iload 8 7 rfl dL_expand_214 ?_
      refine U_iald dL_expand_216 ?_
      refine U_iconst dL_expand_217 ic_1 ?_
      refine U_isub dL_expand_218 ?_
      refine U_iadd dL_expand_219 ?_
      refine U_bi (fun y1 => ?_)
      refine U_istore 7 [(7, .int y1), (0, .ref (G.2 + a0)), (1, .ref (G.2 + a1)), (2, .ref (G.2 + a2)), (3, .ref (G.2 + a3)), (5, .ref (G.2 + a5)), (6, .ref (G.2 + a6)), (8, .int x8), (9, .int x9), (10, .int x10)] (by decide) rfl dL_expand_220 ?_
      refine U_iincB 9 8 (fun y2 => [(9, .int y2), (7, .int y1), (0, .ref (G.2 + a0)), (1, .ref (G.2 + a1)), (2, .ref (G.2 + a2)), (3, .ref (G.2 + a3)), (5, .ref (G.2 + a5)), (6, .ref (G.2 + a6)), (8, .int x8), (10, .int x10)]) rfl ic_1 (by decide) (fun _ => rfl) dL_expand_222 (fun y2 => ?_)
      refine U_goto 66 dL_expand_225 (by decide) ?_
      exact U_sub [2, 3, 4, 5, 6, 7, 1, 8, 0] rfl (hk66 a0 a1 a2 a3 a5 a6 y1 x8 y2 M)
    · refine U_aload 5 4 rfl dL_expand_169 ?_
      refine U_iload 9 8 rfl dL_expand_171 ?_
      refine U_iload 10 9 rfl dL_expand_173 ?_
      refine U_iadd dL_expand_175 ?_
      refine U_aload_n 2 rfl 2 rfl dL_expand_176 ?_
      refine U_bipush dL_expand_177 bp_16 ?_
      refine U_iload 8 7 rfl dL_expand_179 ?_
      refine U_imul dL_expand_181 ?_
      refine U_iload 10 9 rfl dL_expand_182 ?_
      refine U_iadd dL_expand_184 ?_
      refine U_iald dL_expand_185 ?_
      refine U_iast dL_expand_186 (fun M3 => ?_)
      refine U_aload 6 5 rfl dL_expand_187 ?_
      refine U_iload 9 8 rfl dL_expand_189 ?_
      refine U_iload 10 9 rfl dL_expand_191 ?_
      refine U_iadd dL_expand_193 ?_
      refine U_aload_n 3 rfl 3 rfl dL_expand_194 ?_
      refine U_bipush dL_expand_195 bp_16 ?_
      refine U_iload 8 7 rfl dL_expand_197 ?_
      refine U_imul dL_expand_199 ?_
      refine U_iload 10 9 rfl dL_expand_200 ?_
      refine U_iadd dL_expand_202 ?_
      refine U_iald dL_expand_203 ?_
      refine U_iast dL_expand_204 (fun M4 => ?_)
      refine U_iincB 10 9 (fun y5 => [(10, .int y5), (0, .ref (G.2 + a0)), (1, .ref (G.2 + a1)), (2, .ref (G.2 + a2)), (3, .ref (G.2 + a3)), (5, .ref (G.2 + a5)), (6, .ref (G.2 + a6)), (7, .int x7), (8, .int x8), (9, .int x9)]) rfl ic_1 (by decide) (fun _ => rfl) dL_expand_205 (fun y5 => ?_)
      refine U_goto 160 dL_expand_208 (by decide) ?_
      exact U_sub [1, 2, 3, 4, 5, 6, 7, 8, 9, 0] rfl (ih a0 a1 a2 a3 a5 a6 x7 x8 x9 y5 M4)
set_option maxRecDepth 100000 in
set_option maxHeartbeats 4000000 in
theorem f_L_expand_b110_ok {X : XT} {G : GT} {Z : ZT} (hZ : 1 ≤ Z.1) (k58 : Nat → Nat → Nat → Nat → Nat → Nat → Int32 → Int32 → Mem → Option (Int32 × Mem)) (k66 : Nat → Nat → Nat → Nat → Nat → Nat → Int32 → Int32 → Int32 → Mem → Option (Int32 × Mem)) (hk58 : ∀ (a0 : Nat) (a1 : Nat) (a2 : Nat) (a3 : Nat) (a5 : Nat) (a6 : Nat) (x7 : Int32) (x8 : Int32) (M : Mem), U X G Z cL_expand (some .int) (QM X G Z vI) 11 58 [(0, .ref (G.2 + a0)), (1, .ref (G.2 + a1)), (2, .ref (G.2 + a2)), (3, .ref (G.2 + a3)), (5, .ref (G.2 + a5)), (6, .ref (G.2 + a6)), (7, .int x7), (8, .int x8)] [] M (k58 a0 a1 a2 a3 a5 a6 x7 x8 M)) (hk66 : ∀ (a0 : Nat) (a1 : Nat) (a2 : Nat) (a3 : Nat) (a5 : Nat) (a6 : Nat) (x7 : Int32) (x8 : Int32) (x9 : Int32) (M : Mem), U X G Z cL_expand (some .int) (QM X G Z vI) 11 66 [(0, .ref (G.2 + a0)), (1, .ref (G.2 + a1)), (2, .ref (G.2 + a2)), (3, .ref (G.2 + a3)), (5, .ref (G.2 + a5)), (6, .ref (G.2 + a6)), (7, .int x7), (8, .int x8), (9, .int x9)] [] M (k66 a0 a1 a2 a3 a5 a6 x7 x8 x9 M)) : ∀ (n : Nat) (a0 : Nat) (a1 : Nat) (a2 : Nat) (a3 : Nat) (a5 : Nat) (a6 : Nat) (x7 : Int32) (x8 : Int32) (x9 : Int32) (x10 : Int32) (M : Mem), U X G Z cL_expand (some .int) (QM X G Z vI) 11 110 [(0, .ref (G.2 + a0)), (1, .ref (G.2 + a1)), (2, .ref (G.2 + a2)), (3, .ref (G.2 + a3)), (5, .ref (G.2 + a5)), (6, .ref (G.2 + a6)), (7, .int x7), (8, .int x8), (9, .int x9), (10, .int x10)] [] M (f_L_expand_b110 k58 k66 n a0 a1 a2 a3 a5 a6 x7 x8 x9 x10 M) := by
  intro n
  induction n with
  | zero =>
    intros
    rw [f_L_expand_b110]
    exact U_none
  | succ n ih =>
    intro a0 a1 a2 a3 a5 a6 x7 x8 x9 x10 M
    rw [f_L_expand_b110]
    refine U_iload 10 9 rfl dL_expand_110 ?_
    refine U_iload 9 8 rfl dL_expand_112 ?_
    refine U_icmple 157 dL_expand_114 (by decide) (fun _ => ?_) (fun _ => ?_)
    · refine U_iconst dL_expand_157 ic_0 ?_
      refine U_istore 10 [(10, .int 0), (0, .ref (G.2 + a0)), (1, .ref (G.2 + a1)), (2, .ref (G.2 + a2)), (3, .ref (G.2 + a3)), (5, .ref (G.2 + a5)), (6, .ref (G.2 + a6)), (7, .int x7), (8, .int x8), (9, .int x9)] (by decide) rfl dL_expand_158 ?_
      exact U_sub [1, 2, 3, 4, 5, 6, 7, 8, 9, 0] rfl (f_L_expand_b160_ok hZ k58 k66 hk58 hk66 FU a0 a1 a2 a3 a5 a6 x7 x8 x9 0 M)
    · refine U_aload 5 4 rfl dL_expand_117 ?_
      refine U_iload 10 9 rfl dL_expand_119 ?_
      refine U_aload_n 1 rfl 1 rfl dL_expand_121 ?_
      refine U_iload 8 7 rfl dL_expand_122 ?_
      refine U_iald dL_expand_124 ?_
      refine U_iadd dL_expand_125 ?_
      refine U_iconst dL_expand_126 ic_1 ?_
      refine U_isub dL_expand_127 ?_
      refine U_aload 5 4 rfl dL_expand_128 ?_
      refine U_iload 10 9 rfl dL_expand_130 ?_
      refine U_iald dL_expand_132 ?_
      refine U_iast dL_expand_133 (fun M1 => ?_)
      refine U_aload 6 5 rfl dL_expand_134 ?_
      refine U_iload 10 9 rfl dL_expand_136 ?_
      refine U_aload_n 1 rfl 1 rfl dL_expand_138 ?_
      refine U_iload 8 7 rfl dL_expand_139 ?_
      refine U_iald dL_expand_141 ?_
      refine U_iadd dL_expand_142 ?_
      refine U_iconst dL_expand_143 ic_1 ?_
      refine U_isub dL_expand_144 ?_
      refine U_aload 6 5 rfl dL_expand_145 ?_
      refine U_iload 10 9 rfl dL_expand_147 ?_
      refine U_iald dL_expand_149 ?_
      refine U_iast dL_expand_150 (fun M2 => ?_)
      refine U_iincB 10 9 (fun y3 => [(10, .int y3), (0, .ref (G.2 + a0)), (1, .ref (G.2 + a1)), (2, .ref (G.2 + a2)), (3, .ref (G.2 + a3)), (5, .ref (G.2 + a5)), (6, .ref (G.2 + a6)), (7, .int x7), (8, .int x8), (9, .int x9)]) rfl ic_m1 (by decide) (fun _ => rfl) dL_expand_151 (fun y3 => ?_)
      refine U_goto 110 dL_expand_154 (by decide) ?_
      exact U_sub [1, 2, 3, 4, 5, 6, 7, 8, 9, 0] rfl (ih a0 a1 a2 a3 a5 a6 x7 x8 x9 y3 M2)
set_option maxRecDepth 100000 in
set_option maxHeartbeats 4000000 in
theorem f_L_expand_b66_ok {X : XT} {G : GT} {Z : ZT} (hZ : 1 ≤ Z.1) (k58 : Nat → Nat → Nat → Nat → Nat → Nat → Int32 → Int32 → Mem → Option (Int32 × Mem)) (hk58 : ∀ (a0 : Nat) (a1 : Nat) (a2 : Nat) (a3 : Nat) (a5 : Nat) (a6 : Nat) (x7 : Int32) (x8 : Int32) (M : Mem), U X G Z cL_expand (some .int) (QM X G Z vI) 11 58 [(0, .ref (G.2 + a0)), (1, .ref (G.2 + a1)), (2, .ref (G.2 + a2)), (3, .ref (G.2 + a3)), (5, .ref (G.2 + a5)), (6, .ref (G.2 + a6)), (7, .int x7), (8, .int x8)] [] M (k58 a0 a1 a2 a3 a5 a6 x7 x8 M)) : ∀ (n : Nat) (a0 : Nat) (a1 : Nat) (a2 : Nat) (a3 : Nat) (a5 : Nat) (a6 : Nat) (x7 : Int32) (x8 : Int32) (x9 : Int32) (M : Mem), U X G Z cL_expand (some .int) (QM X G Z vI) 11 66 [(0, .ref (G.2 + a0)), (1, .ref (G.2 + a1)), (2, .ref (G.2 + a2)), (3, .ref (G.2 + a3)), (5, .ref (G.2 + a5)), (6, .ref (G.2 + a6)), (7, .int x7), (8, .int x8), (9, .int x9)] [] M (f_L_expand_b66 k58 n a0 a1 a2 a3 a5 a6 x7 x8 x9 M) := by
  intro n
  induction n with
  | zero =>
    intros
    rw [f_L_expand_b66]
    exact U_none
  | succ n ih =>
    intro a0 a1 a2 a3 a5 a6 x7 x8 x9 M
    rw [f_L_expand_b66]
    refine U_iload 9 8 rfl dL_expand_66 ?_
    refine U_iload 7 6 rfl dL_expand_68 ?_
    refine U_icmpge 228 dL_expand_70 (by decide) (fun _ => ?_) (fun _ => ?_)
    · refine U_iincB 8 7 (fun y1 => [(8, .int y1), (0, .ref (G.2 + a0)), (1, .ref (G.2 + a1)), (2, .ref (G.2 + a2)), (3, .ref (G.2 + a3)), (5, .ref (G.2 + a5)), (6, .ref (G.2 + a6)), (7, .int x7), (9, .int x9)]) rfl ic_m1 (by decide) (fun _ => rfl) dL_expand_228 (fun y1 => ?_)
      refine U_goto 58 dL_expand_231 (by decide) ?_
      exact U_sub [1, 2, 3, 4, 5, 6, 7, 0] rfl (hk58 a0 a1 a2 a3 a5 a6 x7 y1 M)
    · refine U_aload_n 0 rfl 0 rfl dL_expand_73 ?_
      refine U_aload_n 1 rfl 1 rfl dL_expand_74 ?_
      refine U_aload_n 2 rfl 2 rfl dL_expand_75 ?_
      refine U_aload_n 3 rfl 3 rfl dL_expand_76 ?_
      refine U_iload 8 7 rfl dL_expand_77 ?_
      refine kL_9 (Nat.lt_of_lt_of_le (Nat.le_of_ble_eq_true rfl : 0 + 1 ≤ 1) hZ) (fun lq rq Mq hh => mc_f_L_isCheap lq a0 a1 a2 a3 x8 M rq Mq hh) (fun rq Mq hh => (u_f_L_isCheap (X := (X.1, X.2.1, X.2.2.1, X.2.2.2.1, X.2.2.2.2.1, X.2.2.2.2.2.1, X.2.2.2.2.2.2.1, X.2.2.2.2.2.2.2.1, X.2.2.2.2.2.2.2.2)) (G := G) (Z := (0, Z.2)) (Nat.le_refl _) a0 a1 a2 a3 x8 M rq Mq hh).1) (Nat.le_of_ble_eq_true rfl) dL_expand_79 (fun r2 M2 => ?_)
      refine U_ifeq 228 dL_expand_82 (by decide) (fun _ => ?_) (fun _ => ?_)
      · refine U_iincB 8 7 (fun y3 => [(8, .int y3), (0, .ref (G.2 + a0)), (1, .ref (G.2 + a1)), (2, .ref (G.2 + a2)), (3, .ref (G.2 + a3)), (5, .ref (G.2 + a5)), (6, .ref (G.2 + a6)), (7, .int x7), (9, .int x9)]) rfl ic_m1 (by decide) (fun _ => rfl) dL_expand_228 (fun y3 => ?_)
        refine U_goto 58 dL_expand_231 (by decide) ?_
        exact U_sub [1, 2, 3, 4, 5, 6, 7, 0] rfl (hk58 a0 a1 a2 a3 a5 a6 x7 y3 M2)
      · refine U_aload 5 4 rfl dL_expand_85 ?_
        refine U_iload 9 8 rfl dL_expand_87 ?_
        refine U_iald dL_expand_89 ?_
        refine U_iconst dL_expand_90 ic_2 ?_
        refine U_icmpne 222 dL_expand_91 (by decide) (fun _ => ?_) (fun _ => ?_)
        · refine U_iincB 9 8 (fun y4 => [(9, .int y4), (0, .ref (G.2 + a0)), (1, .ref (G.2 + a1)), (2, .ref (G.2 + a2)), (3, .ref (G.2 + a3)), (5, .ref (G.2 + a5)), (6, .ref (G.2 + a6)), (7, .int x7), (8, .int x8)]) rfl ic_1 (by decide) (fun _ => rfl) dL_expand_222 (fun y4 => ?_)
          refine U_goto 66 dL_expand_225 (by decide) ?_
          exact U_sub [1, 2, 3, 4, 5, 6, 7, 8, 0] rfl (ih a0 a1 a2 a3 a5 a6 x7 x8 y4 M2)
        · refine U_aload 6 5 rfl dL_expand_94 ?_
          refine U_iload 9 8 rfl dL_expand_96 ?_
          refine U_iald dL_expand_98 ?_
          refine U_iload 8 7 rfl dL_expand_99 ?_
          refine U_icmpne 222 dL_expand_101 (by decide) (fun _ => ?_) (fun _ => ?_)
          · refine U_iincB 9 8 (fun y5 => [(9, .int y5), (0, .ref (G.2 + a0)), (1, .ref (G.2 + a1)), (2, .ref (G.2 + a2)), (3, .ref (G.2 + a3)), (5, .ref (G.2 + a5)), (6, .ref (G.2 + a6)), (7, .int x7), (8, .int x8)]) rfl ic_1 (by decide) (fun _ => rfl) dL_expand_222 (fun y5 => ?_)
            refine U_goto 66 dL_expand_225 (by decide) ?_
            exact U_sub [1, 2, 3, 4, 5, 6, 7, 8, 0] rfl (ih a0 a1 a2 a3 a5 a6 x7 x8 y5 M2)
          · refine U_iload 7 6 rfl dL_expand_104 ?_
            refine U_iconst dL_expand_106 ic_1 ?_
            refine U_isub dL_expand_107 ?_
            refine U_bi (fun y6 => ?_)
            refine U_istore 10 [(10, .int y6), (0, .ref (G.2 + a0)), (1, .ref (G.2 + a1)), (2, .ref (G.2 + a2)), (3, .ref (G.2 + a3)), (5, .ref (G.2 + a5)), (6, .ref (G.2 + a6)), (7, .int x7), (8, .int x8), (9, .int x9)] (by decide) rfl dL_expand_108 ?_
            exact U_sub [1, 2, 3, 4, 5, 6, 7, 8, 9, 0] rfl (f_L_expand_b110_ok hZ k58 (f_L_expand_b66 k58 n) hk58 ih FU a0 a1 a2 a3 a5 a6 x7 x8 x9 y6 M2)
set_option maxRecDepth 100000 in
set_option maxHeartbeats 4000000 in
theorem f_L_expand_b58_ok {X : XT} {G : GT} {Z : ZT} (hZ : 1 ≤ Z.1) : ∀ (n : Nat) (a0 : Nat) (a1 : Nat) (a2 : Nat) (a3 : Nat) (a5 : Nat) (a6 : Nat) (x7 : Int32) (x8 : Int32) (M : Mem), U X G Z cL_expand (some .int) (QM X G Z vI) 11 58 [(0, .ref (G.2 + a0)), (1, .ref (G.2 + a1)), (2, .ref (G.2 + a2)), (3, .ref (G.2 + a3)), (5, .ref (G.2 + a5)), (6, .ref (G.2 + a6)), (7, .int x7), (8, .int x8)] [] M (f_L_expand_b58 n a0 a1 a2 a3 a5 a6 x7 x8 M) := by
  intro n
  induction n with
  | zero =>
    intros
    rw [f_L_expand_b58]
    exact U_none
  | succ n ih =>
    intro a0 a1 a2 a3 a5 a6 x7 x8 M
    rw [f_L_expand_b58]
    refine U_iload 8 7 rfl dL_expand_58 ?_
    refine U_iflt 234 dL_expand_60 (by decide) (fun _ => ?_) (fun _ => ?_)
    · refine U_iload 7 6 rfl dL_expand_234 ?_
      exact U_iret dL_expand_236
    · refine U_iconst dL_expand_63 ic_0 ?_
      refine U_istore 9 [(9, .int 0), (0, .ref (G.2 + a0)), (1, .ref (G.2 + a1)), (2, .ref (G.2 + a2)), (3, .ref (G.2 + a3)), (5, .ref (G.2 + a5)), (6, .ref (G.2 + a6)), (7, .int x7), (8, .int x8)] (by decide) rfl dL_expand_64 ?_
      exact U_sub [1, 2, 3, 4, 5, 6, 7, 8, 0] rfl (f_L_expand_b66_ok hZ (f_L_expand_b58 n) ih FU a0 a1 a2 a3 a5 a6 x7 x8 0 M)
set_option maxRecDepth 100000 in
set_option maxHeartbeats 4000000 in
theorem f_L_expand_b9_ok {X : XT} {G : GT} {Z : ZT} (hZ : 1 ≤ Z.1) : ∀ (n : Nat) (a0 : Nat) (a1 : Nat) (a2 : Nat) (a3 : Nat) (x4 : Int32) (a5 : Nat) (a6 : Nat) (x7 : Int32) (x8 : Int32) (M : Mem), U X G Z cL_expand (some .int) (QM X G Z vI) 11 9 [(0, .ref (G.2 + a0)), (1, .ref (G.2 + a1)), (2, .ref (G.2 + a2)), (3, .ref (G.2 + a3)), (4, .int x4), (5, .ref (G.2 + a5)), (6, .ref (G.2 + a6)), (7, .int x7), (8, .int x8)] [] M (f_L_expand_b9 n a0 a1 a2 a3 x4 a5 a6 x7 x8 M) := by
  intro n
  induction n with
  | zero =>
    intros
    rw [f_L_expand_b9]
    exact U_none
  | succ n ih =>
    intro a0 a1 a2 a3 x4 a5 a6 x7 x8 M
    rw [f_L_expand_b9]
    refine U_iload 8 8 rfl dL_expand_9 ?_
    refine U_iload 7 7 rfl dL_expand_11 ?_
    refine U_icmpge 52 dL_expand_13 (by decide) (fun _ => ?_) (fun _ => ?_)
    · refine U_iload 4 4 rfl dL_expand_52 ?_
      refine U_iconst dL_expand_54 ic_1 ?_
      refine U_isub dL_expand_55 ?_
      refine U_bi (fun y1 => ?_)
      refine U_istore 8 [(8, .int y1), (0, .ref (G.2 + a0)), (1, .ref (G.2 + a1)), (2, .ref (G.2 + a2)), (3, .ref (G.2 + a3)), (4, .int x4), (5, .ref (G.2 + a5)), (6, .ref (G.2 + a6)), (7, .int x7)] (by decide) rfl dL_expand_56 ?_
      exact U_sub [1, 2, 3, 4, 6, 7, 8, 0] rfl (f_L_expand_b58_ok hZ FU a0 a1 a2 a3 a5 a6 x7 y1 M)
    · refine U_aload 5 5 rfl dL_expand_16 ?_
      refine U_iload 8 8 rfl dL_expand_18 ?_
      refine U_aload_n 2 rfl 2 rfl dL_expand_20 ?_
      refine U_bipush dL_expand_21 bp_16 ?_
      refine U_iload 4 4 rfl dL_expand_23 ?_
      refine U_imul dL_expand_25 ?_
      refine U_iload 8 8 rfl dL_expand_26 ?_
      refine U_iadd dL_expand_28 ?_
      refine U_iald dL_expand_29 ?_
      refine U_iast dL_expand_30 (fun M2 => ?_)
      refine U_aload 6 6 rfl dL_expand_31 ?_
      refine U_iload 8 8 rfl dL_expand_33 ?_
      refine U_aload_n 3 rfl 3 rfl dL_expand_35 ?_
      refine U_bipush dL_expand_36 bp_16 ?_
      refine U_iload 4 4 rfl dL_expand_38 ?_
      refine U_imul dL_expand_40 ?_
      refine U_iload 8 8 rfl dL_expand_41 ?_
      refine U_iadd dL_expand_43 ?_
      refine U_iald dL_expand_44 ?_
      refine U_iast dL_expand_45 (fun M3 => ?_)
      refine U_iincB 8 8 (fun y4 => [(8, .int y4), (0, .ref (G.2 + a0)), (1, .ref (G.2 + a1)), (2, .ref (G.2 + a2)), (3, .ref (G.2 + a3)), (4, .int x4), (5, .ref (G.2 + a5)), (6, .ref (G.2 + a6)), (7, .int x7)]) rfl ic_1 (by decide) (fun _ => rfl) dL_expand_46 (fun y4 => ?_)
      refine U_goto 9 dL_expand_49 (by decide) ?_
      exact U_sub [1, 2, 3, 4, 5, 6, 7, 8, 0] rfl (ih a0 a1 a2 a3 x4 a5 a6 x7 y4 M3)
set_option maxRecDepth 100000 in
set_option maxHeartbeats 4000000 in
theorem u_f_L_expand {X : XT} {G : GT} {Z : ZT} (hZ : 1 ≤ Z.1) (a0 : Nat) (a1 : Nat) (a2 : Nat) (a3 : Nat) (x4 : Int32) (a5 : Nat) (a6 : Nat) (M : Mem) : U X G Z cL_expand (some .int) (QM X G Z vI) 11 0 [(0, .ref (G.2 + a0)), (1, .ref (G.2 + a1)), (2, .ref (G.2 + a2)), (3, .ref (G.2 + a3)), (4, .int x4), (5, .ref (G.2 + a5)), (6, .ref (G.2 + a6))] [] M (f_L_expand a0 a1 a2 a3 x4 a5 a6 M) := by
  unfold f_L_expand
  refine U_aload_n 1 rfl 1 rfl dL_expand_0 ?_
  refine U_iload 4 4 rfl dL_expand_1 ?_
  refine U_iald dL_expand_3 ?_
  refine U_bi (fun y1 => ?_)
  refine U_istore 7 [(7, .int y1), (0, .ref (G.2 + a0)), (1, .ref (G.2 + a1)), (2, .ref (G.2 + a2)), (3, .ref (G.2 + a3)), (4, .int x4), (5, .ref (G.2 + a5)), (6, .ref (G.2 + a6))] (by decide) rfl dL_expand_4 ?_
  refine U_iconst dL_expand_6 ic_0 ?_
  refine U_istore 8 [(8, .int 0), (7, .int y1), (0, .ref (G.2 + a0)), (1, .ref (G.2 + a1)), (2, .ref (G.2 + a2)), (3, .ref (G.2 + a3)), (4, .int x4), (5, .ref (G.2 + a5)), (6, .ref (G.2 + a6))] (by decide) rfl dL_expand_7 ?_
  exact U_sub [2, 3, 4, 5, 6, 7, 8, 1, 0] rfl (f_L_expand_b9_ok hZ FU a0 a1 a2 a3 x4 a5 a6 y1 0 M)
theorem mc_f_L_expand {G : GT} (l : Launch) (a0 : Nat) (a1 : Nat) (a2 : Nat) (a3 : Nat) (x4 : Int32) (a5 : Nat) (a6 : Nat) (M : Mem) (r : Int32) (M1 : Mem) (ho : f_L_expand a0 a1 a2 a3 x4 a5 a6 M = some (r, M1)) : MCL l G yL_expand cL_expand 11 (some .int) 1 [.ref (G.2 + a0), .ref (G.2 + a1), .ref (G.2 + a2), .ref (G.2 + a3), .int x4, .ref (G.2 + a5), .ref (G.2 + a6)] M (vI r) M1 :=
  MCL.ofU (lv := [(0, .ref (G.2 + a0)), (1, .ref (G.2 + a1)), (2, .ref (G.2 + a2)), (3, .ref (G.2 + a3)), (4, .int x4), (5, .ref (G.2 + a5)), (6, .ref (G.2 + a6))]) (by decide +kernel) rfl rfl (Nat.le_of_ble_eq_true rfl) ho (fun X Z hZ => u_f_L_expand (Nat.le_of_eq hZ.symm) a0 a1 a2 a3 x4 a5 a6 M)
