set_option maxRecDepth 100000 in
set_option maxHeartbeats 4000000 in
theorem u_f_L_put {X : XT} {G : GT} {Z : ZT} (hZ : 2 ≤ Z.1) (a1 : Nat) (x2 : Int32) (M : Mem) : U X G Z cL_put (some .boolean) (QM X G Z vI) 3 0 [(0, .ref (G.2 + 0)), (1, .ref (G.2 + a1)), (2, .int x2)] [] M (f_L_put a1 x2 M) := by
  unfold f_L_put
  refine U_aload_n 1 rfl 1 rfl dL_put_0 ?_
  refine U_iconst dL_put_1 ic_0 ?_
  refine U_dup2 rfl rfl dL_put_2 ?_
  refine U_iald dL_put_3 ?_
  refine U_iconst dL_put_4 ic_1 ?_
  refine U_iadd dL_put_5 ?_
  refine U_iast dL_put_6 (fun M1 => ?_)
  refine U_aload_n 0 rfl 0 rfl dL_put_7 ?_
  refine U_iload_n 2 rfl 2 rfl dL_put_8 ?_
  refine kL_29 (Nat.lt_of_lt_of_le (Nat.le_of_ble_eq_true rfl : 1 + 1 ≤ 2) hZ) (fun lq rq Mq hh => mc_f_LP_append lq x2 M1 rq Mq hh) (Nat.le_of_ble_eq_true rfl) dL_put_9 (fun r2 M2 => ?_)
  refine U_aload_n 1 rfl 1 rfl dL_put_12 ?_
  refine U_iconst dL_put_13 ic_0 ?_
  refine U_iald dL_put_14 ?_
  refine U_icmpne 22 dL_put_15 (by decide) (fun _ => ?_) (fun _ => ?_)
  · refine U_iconst dL_put_22 ic_0 ?_
    exact U_zret dL_put_23
  · refine U_iconst dL_put_18 ic_1 ?_
    refine U_goto 23 dL_put_19 (by decide) ?_
    exact U_zret dL_put_23
theorem mc_f_L_put {G : GT} (l : Launch) (a1 : Nat) (x2 : Int32) (M : Mem) (r : Int32) (M1 : Mem) (ho : f_L_put a1 x2 M = some (r, M1)) : MCL l G yL_put cL_put 3 (some .boolean) 2 [.ref (G.2 + 0), .ref (G.2 + a1), .int x2] M (vI r) M1 :=
  MCL.ofU (lv := [(0, .ref (G.2 + 0)), (1, .ref (G.2 + a1)), (2, .int x2)]) (by decide +kernel) rfl rfl (Nat.le_of_ble_eq_true rfl) ho (fun X Z hZ => u_f_L_put (Nat.le_of_eq hZ.symm) a1 x2 M)
set_option maxRecDepth 100000 in
set_option maxHeartbeats 4000000 in
theorem f_L_grow_b170_ok {X : XT} {G : GT} {Z : ZT} (hZ : 1 ≤ Z.1) (k3 : Nat → Nat → Int32 → Int32 → Int32 → Int32 → Mem → Option (Unit × Mem)) (hk3 : ∀ (a0 : Nat) (a1 : Nat) (x2 : Int32) (x3 : Int32) (x4 : Int32) (x5 : Int32) (M : Mem), U X G Z cL_grow none (QM X G Z vU) 10 3 [(0, .ref (G.2 + a0)), (1, .ref (G.2 + a1)), (2, .int x2), (3, .int x3), (4, .int x4), (5, .int x5)] [] M (k3 a0 a1 x2 x3 x4 x5 M)) (a0 : Nat) (a1 : Nat) (x2 : Int32) (x3 : Int32) (x4 : Int32) (x5 : Int32) (x6 : Int32) (t0 : Int32) (t1 : Int32) (r2 : Nat) (M : Mem) : U X G Z cL_grow none (QM X G Z vU) 10 170 [(0, .ref (G.2 + a0)), (1, .ref (G.2 + a1)), (2, .int x2), (3, .int x3), (4, .int x4), (5, .int x5), (6, .int x6)] [.int t0, .int t1, .ref (G.2 + r2)] M (f_L_grow_b170 k3 a0 a1 x2 x3 x4 x5 x6 t0 t1 r2 M) := by
  unfold f_L_grow_b170
  refine U_iast dL_grow_170 (fun M1 => ?_)
  refine U_aload_n 1 rfl 1 rfl dL_grow_171 ?_
  refine U_iload 5 5 rfl dL_grow_172 ?_
  refine U_aload_n 0 rfl 0 rfl dL_grow_174 ?_
  refine U_iload 5 5 rfl dL_grow_175 ?_
  refine U_iald dL_grow_177 ?_
  refine U_ifne 192 dL_grow_178 (by decide) (fun _ => ?_) (fun _ => ?_)
  · refine U_aload_n 0 rfl 0 rfl dL_grow_192 ?_
    refine U_iload 5 5 rfl dL_grow_193 ?_
    refine U_iald dL_grow_195 ?_
    refine U_iconst dL_grow_196 ic_1 ?_
    refine U_icmpne 211 dL_grow_197 (by decide) (fun _ => ?_) (fun _ => ?_)
    · refine U_aload_n 0 rfl 0 rfl dL_grow_211 ?_
      refine U_iload 5 5 rfl dL_grow_212 ?_
      refine U_iald dL_grow_214 ?_
      refine U_iconst dL_grow_215 ic_2 ?_
      refine U_icmpne 230 dL_grow_216 (by decide) (fun _ => ?_) (fun _ => ?_)
      · refine U_ldc wkL_40 dL_grow_230 ?_
        refine U_iast dL_grow_232 (fun M2 => ?_)
        refine U_iincB 5 5 (fun y3 => [(5, .int y3), (0, .ref (G.2 + a0)), (1, .ref (G.2 + a1)), (2, .int x2), (3, .int x3), (4, .int x4), (6, .int x6)]) rfl ic_1 (by decide) (fun _ => rfl) dL_grow_233 (fun y3 => ?_)
        refine U_goto 3 dL_grow_236 (by decide) ?_
        exact U_sub [1, 2, 3, 4, 5, 0] rfl (hk3 a0 a1 x2 x3 x4 y3 M2)
      · refine U_iload 6 6 rfl dL_grow_219 ?_
        refine U_bipush dL_grow_221 bp_10 ?_
        refine U_idiv (by decide) dL_grow_223 ?_
        refine U_iload 4 4 rfl dL_grow_224 ?_
        refine U_gd (fun hz6 => ?_)
        refine U_irem (nz_ne hz6) dL_grow_226 ?_
        refine U_goto 232 dL_grow_227 (by decide) ?_
        refine U_iast dL_grow_232 (fun M4 => ?_)
        refine U_iincB 5 5 (fun y5 => [(5, .int y5), (0, .ref (G.2 + a0)), (1, .ref (G.2 + a1)), (2, .int x2), (3, .int x3), (4, .int x4), (6, .int x6)]) rfl ic_1 (by decide) (fun _ => rfl) dL_grow_233 (fun y5 => ?_)
        refine U_goto 3 dL_grow_236 (by decide) ?_
        exact U_sub [1, 2, 3, 4, 5, 0] rfl (hk3 a0 a1 x2 x3 x4 y5 M4)
    · refine U_iload 6 6 rfl dL_grow_200 ?_
      refine U_bipush dL_grow_202 bp_10 ?_
      refine U_idiv (by decide) dL_grow_204 ?_
      refine U_bipush dL_grow_205 bp_8 ?_
      refine U_irem (by decide) dL_grow_207 ?_
      refine U_goto 232 dL_grow_208 (by decide) ?_
      refine U_iast dL_grow_232 (fun M7 => ?_)
      refine U_iincB 5 5 (fun y8 => [(5, .int y8), (0, .ref (G.2 + a0)), (1, .ref (G.2 + a1)), (2, .int x2), (3, .int x3), (4, .int x4), (6, .int x6)]) rfl ic_1 (by decide) (fun _ => rfl) dL_grow_233 (fun y8 => ?_)
      refine U_goto 3 dL_grow_236 (by decide) ?_
      exact U_sub [1, 2, 3, 4, 5, 0] rfl (hk3 a0 a1 x2 x3 x4 y8 M7)
  · refine U_iload 6 6 rfl dL_grow_181 ?_
    refine U_bipush dL_grow_183 bp_10 ?_
    refine U_idiv (by decide) dL_grow_185 ?_
    refine U_bipush dL_grow_186 bp_40 ?_
    refine U_irem (by decide) dL_grow_188 ?_
    refine U_goto 232 dL_grow_189 (by decide) ?_
    refine U_iast dL_grow_232 (fun M9 => ?_)
    refine U_iincB 5 5 (fun y10 => [(5, .int y10), (0, .ref (G.2 + a0)), (1, .ref (G.2 + a1)), (2, .int x2), (3, .int x3), (4, .int x4), (6, .int x6)]) rfl ic_1 (by decide) (fun _ => rfl) dL_grow_233 (fun y10 => ?_)
    refine U_goto 3 dL_grow_236 (by decide) ?_
    exact U_sub [1, 2, 3, 4, 5, 0] rfl (hk3 a0 a1 x2 x3 x4 y10 M9)
set_option maxRecDepth 100000 in
set_option maxHeartbeats 4000000 in
theorem f_L_grow_b166_ok {X : XT} {G : GT} {Z : ZT} (hZ : 1 ≤ Z.1) (k3 : Nat → Nat → Int32 → Int32 → Int32 → Int32 → Mem → Option (Unit × Mem)) (hk3 : ∀ (a0 : Nat) (a1 : Nat) (x2 : Int32) (x3 : Int32) (x4 : Int32) (x5 : Int32) (M : Mem), U X G Z cL_grow none (QM X G Z vU) 10 3 [(0, .ref (G.2 + a0)), (1, .ref (G.2 + a1)), (2, .int x2), (3, .int x3), (4, .int x4), (5, .int x5)] [] M (k3 a0 a1 x2 x3 x4 x5 M)) (a0 : Nat) (a1 : Nat) (x2 : Int32) (x3 : Int32) (x4 : Int32) (x5 : Int32) (x6 : Int32) (t0 : Int32) (r1 : Nat) (M : Mem) : U X G Z cL_grow none (QM X G Z vU) 10 166 [(0, .ref (G.2 + a0)), (1, .ref (G.2 + a1)), (2, .int x2), (3, .int x3), (4, .int x4), (5, .int x5), (6, .int x6)] [.int t0, .ref (G.2 + r1)] M (f_L_grow_b166 k3 a0 a1 x2 x3 x4 x5 x6 t0 r1 M) := by
  unfold f_L_grow_b166
  refine U_iload 6 6 rfl dL_grow_166 ?_
  refine U_iconst dL_grow_168 ic_2 ?_
  refine U_irem (by decide) dL_grow_169 ?_
  exact U_sub [0, 1, 2, 3, 4, 5, 6] rfl (f_L_grow_b170_ok hZ k3 hk3 a0 a1 x2 x3 x4 x5 x6 (x6 - x6 / 2 * 2) t0 r1 M)
set_option maxRecDepth 100000 in
set_option maxHeartbeats 4000000 in
theorem f_L_grow_b104_ok {X : XT} {G : GT} {Z : ZT} (hZ : 1 ≤ Z.1) (k3 : Nat → Nat → Int32 → Int32 → Int32 → Int32 → Mem → Option (Unit × Mem)) (hk3 : ∀ (a0 : Nat) (a1 : Nat) (x2 : Int32) (x3 : Int32) (x4 : Int32) (x5 : Int32) (M : Mem), U X G Z cL_grow none (QM X G Z vU) 10 3 [(0, .ref (G.2 + a0)), (1, .ref (G.2 + a1)), (2, .int x2), (3, .int x3), (4, .int x4), (5, .int x5)] [] M (k3 a0 a1 x2 x3 x4 x5 M)) (a0 : Nat) (a1 : Nat) (x2 : Int32) (x3 : Int32) (x4 : Int32) (x5 : Int32) (x6 : Int32) (x8 : Int32) (t0 : Int32) (M : Mem) : U X G Z cL_grow none (QM X G Z vU) 10 104 [(0, .ref (G.2 + a0)), (1, .ref (G.2 + a1)), (2, .int x2), (3, .int x3), (4, .int x4), (5, .int x5), (6, .int x6), (8, .int x8)] [.int t0] M (f_L_grow_b104 k3 a0 a1 x2 x3 x4 x5 x6 x8 t0 M) := by
  unfold f_L_grow_b104
  refine U_istore 9 [(9, .int t0), (0, .ref (G.2 + a0)), (1, .ref (G.2 + a1)), (2, .int x2), (3, .int x3), (4, .int x4), (5, .int x5), (6, .int x6), (8, .int x8)] (by decide) rfl dL_grow_104 ?_
  refine U_aload_n 0 rfl 1 rfl dL_grow_106 ?_
  refine U_iload 5 6 rfl dL_grow_107 ?_
  refine U_iload 9 0 rfl dL_grow_109 ?_
  refine U_ifeq 149 dL_grow_111 (by decide) (fun _ => ?_) (fun _ => ?_)
  · refine U_iload 4 5 rfl dL_grow_149 ?_
    refine U_ifle 166 dL_grow_151 (by decide) (fun _ => ?_) (fun _ => ?_)
    · exact U_sub [1, 2, 3, 4, 5, 6, 7] rfl (f_L_grow_b166_ok hZ k3 hk3 a0 a1 x2 x3 x4 x5 x6 x5 a0 M)
    · refine U_iload 6 7 rfl dL_grow_154 ?_
      refine U_iconst dL_grow_156 ic_4 ?_
      refine U_irem (by decide) dL_grow_157 ?_
      refine U_iconst dL_grow_158 ic_1 ?_
      refine U_icmpne 166 dL_grow_159 (by decide) (fun _ => ?_) (fun _ => ?_)
      · exact U_sub [1, 2, 3, 4, 5, 6, 7] rfl (f_L_grow_b166_ok hZ k3 hk3 a0 a1 x2 x3 x4 x5 x6 x5 a0 M)
      · refine U_iconst dL_grow_162 ic_2 ?_
        refine U_goto 170 dL_grow_163 (by decide) ?_
        exact U_sub [1, 2, 3, 4, 5, 6, 7] rfl (f_L_grow_b170_ok hZ k3 hk3 a0 a1 x2 x3 x4 x5 x6 2 x5 a0 M)
  · refine U_iload 8 8 rfl dL_grow_114 ?_
    refine U_iconst dL_grow_116 ic_1 ?_
    refine U_icmpge 124 dL_grow_117 (by decide) (fun _ => ?_) (fun _ => ?_)
    · refine U_iload 8 8 rfl dL_grow_124 ?_
      refine U_iconst dL_grow_126 ic_3 ?_
      refine U_icmpge 134 dL_grow_127 (by decide) (fun _ => ?_) (fun _ => ?_)
      · refine U_iload 8 8 rfl dL_grow_134 ?_
        refine U_iconst dL_grow_136 ic_5 ?_
        refine U_icmpge 144 dL_grow_137 (by decide) (fun _ => ?_) (fun _ => ?_)
        · refine U_bipush dL_grow_144 bp_6 ?_
          refine U_goto 170 dL_grow_146 (by decide) ?_
          exact U_sub [1, 2, 3, 4, 5, 6, 7] rfl (f_L_grow_b170_ok hZ k3 hk3 a0 a1 x2 x3 x4 x5 x6 6 x5 a0 M)
        · refine U_iconst dL_grow_140 ic_5 ?_
          refine U_goto 170 dL_grow_141 (by decide) ?_
          exact U_sub [1, 2, 3, 4, 5, 6, 7] rfl (f_L_grow_b170_ok hZ k3 hk3 a0 a1 x2 x3 x4 x5 x6 5 x5 a0 M)
      · refine U_iconst dL_grow_130 ic_4 ?_
        refine U_goto 170 dL_grow_131 (by decide) ?_
        exact U_sub [1, 2, 3, 4, 5, 6, 7] rfl (f_L_grow_b170_ok hZ k3 hk3 a0 a1 x2 x3 x4 x5 x6 4 x5 a0 M)
    · refine U_iconst dL_grow_120 ic_3 ?_
      refine U_goto 170 dL_grow_121 (by decide) ?_
      exact U_sub [1, 2, 3, 4, 5, 6, 7] rfl (f_L_grow_b170_ok hZ k3 hk3 a0 a1 x2 x3 x4 x5 x6 3 x5 a0 M)
set_option maxRecDepth 100000 in
set_option maxHeartbeats 4000000 in
theorem f_L_grow_b103_ok {X : XT} {G : GT} {Z : ZT} (hZ : 1 ≤ Z.1) (k3 : Nat → Nat → Int32 → Int32 → Int32 → Int32 → Mem → Option (Unit × Mem)) (hk3 : ∀ (a0 : Nat) (a1 : Nat) (x2 : Int32) (x3 : Int32) (x4 : Int32) (x5 : Int32) (M : Mem), U X G Z cL_grow none (QM X G Z vU) 10 3 [(0, .ref (G.2 + a0)), (1, .ref (G.2 + a1)), (2, .int x2), (3, .int x3), (4, .int x4), (5, .int x5)] [] M (k3 a0 a1 x2 x3 x4 x5 M)) (a0 : Nat) (a1 : Nat) (x2 : Int32) (x3 : Int32) (x4 : Int32) (x5 : Int32) (x6 : Int32) (x8 : Int32) (M : Mem) : U X G Z cL_grow none (QM X G Z vU) 10 103 [(0, .ref (G.2 + a0)), (1, .ref (G.2 + a1)), (2, .int x2), (3, .int x3), (4, .int x4), (5, .int x5), (6, .int x6), (8, .int x8)] [] M (f_L_grow_b103 k3 a0 a1 x2 x3 x4 x5 x6 x8 M) := by
  unfold f_L_grow_b103
  refine U_iconst dL_grow_103 ic_0 ?_
  exact U_sub [0, 1, 2, 3, 4, 5, 6, 7] rfl (f_L_grow_b104_ok hZ k3 hk3 a0 a1 x2 x3 x4 x5 x6 x8 0 M)
set_option maxRecDepth 100000 in
set_option maxHeartbeats 4000000 in
theorem f_L_grow_b99_ok {X : XT} {G : GT} {Z : ZT} (hZ : 1 ≤ Z.1) (k3 : Nat → Nat → Int32 → Int32 → Int32 → Int32 → Mem → Option (Unit × Mem)) (hk3 : ∀ (a0 : Nat) (a1 : Nat) (x2 : Int32) (x3 : Int32) (x4 : Int32) (x5 : Int32) (M : Mem), U X G Z cL_grow none (QM X G Z vU) 10 3 [(0, .ref (G.2 + a0)), (1, .ref (G.2 + a1)), (2, .int x2), (3, .int x3), (4, .int x4), (5, .int x5)] [] M (k3 a0 a1 x2 x3 x4 x5 M)) (a0 : Nat) (a1 : Nat) (x2 : Int32) (x3 : Int32) (x4 : Int32) (x5 : Int32) (x6 : Int32) (x8 : Int32) (M : Mem) : U X G Z cL_grow none (QM X G Z vU) 10 99 [(0, .ref (G.2 + a0)), (1, .ref (G.2 + a1)), (2, .int x2), (3, .int x3), (4, .int x4), (5, .int x5), (6, .int x6), (8, .int x8)] [] M (f_L_grow_b99 k3 a0 a1 x2 x3 x4 x5 x6 x8 M) := by
  unfold f_L_grow_b99
  refine U_iconst dL_grow_99 ic_1 ?_
  refine U_goto 104 dL_grow_100 (by decide) ?_
  exact U_sub [0, 1, 2, 3, 4, 5, 6, 7] rfl (f_L_grow_b104_ok hZ k3 hk3 a0 a1 x2 x3 x4 x5 x6 x8 1 M)
set_option maxRecDepth 100000 in
set_option maxHeartbeats 4000000 in
theorem f_L_grow_b61_ok {X : XT} {G : GT} {Z : ZT} (hZ : 1 ≤ Z.1) (k3 : Nat → Nat → Int32 → Int32 → Int32 → Int32 → Mem → Option (Unit × Mem)) (hk3 : ∀ (a0 : Nat) (a1 : Nat) (x2 : Int32) (x3 : Int32) (x4 : Int32) (x5 : Int32) (M : Mem), U X G Z cL_grow none (QM X G Z vU) 10 3 [(0, .ref (G.2 + a0)), (1, .ref (G.2 + a1)), (2, .int x2), (3, .int x3), (4, .int x4), (5, .int x5)] [] M (k3 a0 a1 x2 x3 x4 x5 M)) (a0 : Nat) (a1 : Nat) (x2 : Int32) (x3 : Int32) (x4 : Int32) (x5 : Int32) (x6 : Int32) (t0 : Int32) (M : Mem) : U X G Z cL_grow none (QM X G Z vU) 10 61 [(0, .ref (G.2 + a0)), (1, .ref (G.2 + a1)), (2, .int x2), (3, .int x3), (4, .int x4), (5, .int x5), (6, .int x6)] [.int t0] M (f_L_grow_b61 k3 a0 a1 x2 x3 x4 x5 x6 t0 M) := by
  unfold f_L_grow_b61
  refine U_istore 7 [(7, .int t0), (0, .ref (G.2 + a0)), (1, .ref (G.2 + a1)), (2, .int x2), (3, .int x3), (4, .int x4), (5, .int x5), (6, .int x6)] (by decide) rfl dL_grow_61 ?_
  refine U_iload 6 7 rfl dL_grow_63 ?_
  refine U_bipush dL_grow_65 bp_7 ?_
  refine U_irem (by decide) dL_grow_67 ?_
  refine U_bi (fun y1 => ?_)
  refine U_istore 8 [(8, .int y1), (7, .int t0), (0, .ref (G.2 + a0)), (1, .ref (G.2 + a1)), (2, .int x2), (3, .int x3), (4, .int x4), (5, .int x5), (6, .int x6)] (by decide) rfl dL_grow_68 ?_
  refine U_iload 7 1 rfl dL_grow_70 ?_
  refine U_iload_n 3 rfl 5 rfl dL_grow_72 ?_
  refine U_icmpge 103 dL_grow_73 (by decide) (fun _ => ?_) (fun _ => ?_)
  · exact U_sub [2, 3, 4, 5, 6, 7, 8, 0] rfl (f_L_grow_b103_ok hZ k3 hk3 a0 a1 x2 x3 x4 x5 x6 y1 M)
  · refine U_iload 7 1 rfl dL_grow_76 ?_
    refine U_ifne 92 dL_grow_78 (by decide) (fun _ => ?_) (fun _ => ?_)
    · refine U_iload 6 8 rfl dL_grow_92 ?_
      refine U_iconst dL_grow_94 ic_3 ?_
      refine U_irem (by decide) dL_grow_95 ?_
      refine U_ifle 103 dL_grow_96 (by decide) (fun _ => ?_) (fun _ => ?_)
      · exact U_sub [2, 3, 4, 5, 6, 7, 8, 0] rfl (f_L_grow_b103_ok hZ k3 hk3 a0 a1 x2 x3 x4 x5 x6 y1 M)
      · exact U_sub [2, 3, 4, 5, 6, 7, 8, 0] rfl (f_L_grow_b99_ok hZ k3 hk3 a0 a1 x2 x3 x4 x5 x6 y1 M)
    · refine U_iload 6 8 rfl dL_grow_81 ?_
      refine U_bipush dL_grow_83 bp_9 ?_
      refine U_irem (by decide) dL_grow_85 ?_
      refine U_ifle 103 dL_grow_86 (by decide) (fun _ => ?_) (fun _ => ?_)
      · exact U_sub [2, 3, 4, 5, 6, 7, 8, 0] rfl (f_L_grow_b103_ok hZ k3 hk3 a0 a1 x2 x3 x4 x5 x6 y1 M)
      · refine U_goto 99 dL_grow_89 (by decide) ?_
        exact U_sub [2, 3, 4, 5, 6, 7, 8, 0] rfl (f_L_grow_b99_ok hZ k3 hk3 a0 a1 x2 x3 x4 x5 x6 y1 M)
set_option maxRecDepth 100000 in
set_option maxHeartbeats 4000000 in
theorem f_L_grow_b3_ok {X : XT} {G : GT} {Z : ZT} (hZ : 1 ≤ Z.1) : ∀ (n : Nat) (a0 : Nat) (a1 : Nat) (x2 : Int32) (x3 : Int32) (x4 : Int32) (x5 : Int32) (M : Mem), U X G Z cL_grow none (QM X G Z vU) 10 3 [(0, .ref (G.2 + a0)), (1, .ref (G.2 + a1)), (2, .int x2), (3, .int x3), (4, .int x4), (5, .int x5)] [] M (f_L_grow_b3 n a0 a1 x2 x3 x4 x5 M) := by
  intro n
  induction n with
  | zero =>
    intros
    rw [f_L_grow_b3]
    exact U_none
  | succ n ih =>
    intro a0 a1 x2 x3 x4 x5 M
    rw [f_L_grow_b3]
    refine U_iload 5 5 rfl dL_grow_3 ?_
    refine U_bipush dL_grow_5 bp_15 ?_
    refine U_icmpge 239 dL_grow_7 (by decide) (fun _ => ?_) (fun _ => ?_)
    · exact U_vret dL_grow_239
    · refine U_iload_n 2 rfl 2 rfl dL_grow_10 ?_
      refine U_iload 5 5 rfl dL_grow_11 ?_
      refine U_iconst dL_grow_13 ic_3 ?_
      refine U_iadd dL_grow_14 ?_
      refine U_gd (fun hz2 => ?_)
      refine U_idiv (nz_ne hz2) dL_grow_15 ?_
      refine U_sipush dL_grow_16 sp_7919 ?_
      refine U_iload 5 5 rfl dL_grow_19 ?_
      refine U_imul dL_grow_21 ?_
      refine U_iadd dL_grow_22 ?_
      refine U_ldc wkL_35 dL_grow_23 ?_
      refine kL_36 (Nat.lt_of_lt_of_le (Nat.le_of_ble_eq_true rfl : 0 + 1 ≤ 1) hZ) (fun lq rq Mq hh => mc_f_L_low lq ((x2 / (x5 + 3)) + (7919 * x5)) 100000 M rq Mq hh) (fun rq Mq hh => (u_f_L_low (X := (X.1, X.2.1, X.2.2.1, X.2.2.2.1, X.2.2.2.2.1, X.2.2.2.2.2.1, X.2.2.2.2.2.2.1, X.2.2.2.2.2.2.2.1, X.2.2.2.2.2.2.2.2)) (G := G) (Z := (0, Z.2)) (Nat.le_refl _) ((x2 / (x5 + 3)) + (7919 * x5)) 100000 M rq Mq hh).1) (Nat.le_of_ble_eq_true rfl) dL_grow_25 (fun r1 M1 => ?_)
      refine U_istore 6 [(6, .int r1), (0, .ref (G.2 + a0)), (1, .ref (G.2 + a1)), (2, .int x2), (3, .int x3), (4, .int x4), (5, .int x5)] (by decide) rfl dL_grow_28 ?_
      refine U_iload 5 6 rfl dL_grow_30 ?_
      refine U_ifne 39 dL_grow_32 (by decide) (fun _ => ?_) (fun _ => ?_)
      · refine U_iload 5 6 rfl dL_grow_39 ?_
        refine U_iconst dL_grow_41 ic_3 ?_
        refine U_icmpge 49 dL_grow_42 (by decide) (fun _ => ?_) (fun _ => ?_)
        · refine U_iload 5 6 rfl dL_grow_49 ?_
          refine U_bipush dL_grow_51 bp_7 ?_
          refine U_icmpge 60 dL_grow_53 (by decide) (fun _ => ?_) (fun _ => ?_)
          · refine U_iconst dL_grow_60 ic_3 ?_
            exact U_sub [1, 2, 3, 4, 5, 6, 0] rfl (f_L_grow_b61_ok hZ (f_L_grow_b3 n) ih a0 a1 x2 x3 x4 x5 r1 3 M1)
          · refine U_iconst dL_grow_56 ic_2 ?_
            refine U_goto 61 dL_grow_57 (by decide) ?_
            exact U_sub [1, 2, 3, 4, 5, 6, 0] rfl (f_L_grow_b61_ok hZ (f_L_grow_b3 n) ih a0 a1 x2 x3 x4 x5 r1 2 M1)
        · refine U_iconst dL_grow_45 ic_1 ?_
          refine U_goto 61 dL_grow_46 (by decide) ?_
          exact U_sub [1, 2, 3, 4, 5, 6, 0] rfl (f_L_grow_b61_ok hZ (f_L_grow_b3 n) ih a0 a1 x2 x3 x4 x5 r1 1 M1)
      · refine U_iconst dL_grow_35 ic_0 ?_
        refine U_goto 61 dL_grow_36 (by decide) ?_
        exact U_sub [1, 2, 3, 4, 5, 6, 0] rfl (f_L_grow_b61_ok hZ (f_L_grow_b3 n) ih a0 a1 x2 x3 x4 x5 r1 0 M1)
set_option maxRecDepth 100000 in
set_option maxHeartbeats 4000000 in
theorem u_f_L_grow {X : XT} {G : GT} {Z : ZT} (hZ : 1 ≤ Z.1) (a0 : Nat) (a1 : Nat) (x2 : Int32) (x3 : Int32) (x4 : Int32) (M : Mem) : U X G Z cL_grow none (QM X G Z vU) 10 0 [(0, .ref (G.2 + a0)), (1, .ref (G.2 + a1)), (2, .int x2), (3, .int x3), (4, .int x4)] [] M (f_L_grow a0 a1 x2 x3 x4 M) := by
  unfold f_L_grow
  refine U_iconst dL_grow_0 ic_0 ?_
  refine U_istore 5 [(5, .int 0), (0, .ref (G.2 + a0)), (1, .ref (G.2 + a1)), (2, .int x2), (3, .int x3), (4, .int x4)] (by decide) rfl dL_grow_1 ?_
  exact U_sub [1, 2, 3, 4, 5, 0] rfl (f_L_grow_b3_ok hZ FU a0 a1 x2 x3 x4 0 M)
theorem mc_f_L_grow {G : GT} (l : Launch) (a0 : Nat) (a1 : Nat) (x2 : Int32) (x3 : Int32) (x4 : Int32) (M : Mem) (r : Unit) (M1 : Mem) (ho : f_L_grow a0 a1 x2 x3 x4 M = some (r, M1)) : MCL l G yL_grow cL_grow 10 none 1 [.ref (G.2 + a0), .ref (G.2 + a1), .int x2, .int x3, .int x4] M (vU r) M1 :=
  MCL.ofU (lv := [(0, .ref (G.2 + a0)), (1, .ref (G.2 + a1)), (2, .int x2), (3, .int x3), (4, .int x4)]) (by decide +kernel) rfl rfl (Nat.le_of_ble_eq_true rfl) ho (fun X Z hZ => u_f_L_grow (Nat.le_of_eq hZ.symm) a0 a1 x2 x3 x4 M)
set_option maxRecDepth 100000 in
set_option maxHeartbeats 4000000 in
theorem f_L_types_b305_ok {X : XT} {G : GT} {Z : ZT} (hZ : 3 ≤ Z.1) (k18 : Nat → Nat → Nat → Nat → Nat → Nat → Int32 → Nat → Int32 → Int32 → Mem → Option (Int32 × Mem)) (hk18 : ∀ (a1 : Nat) (a2 : Nat) (a3 : Nat) (a4 : Nat) (a5 : Nat) (a6 : Nat) (x7 : Int32) (a8 : Nat) (x9 : Int32) (x10 : Int32) (M : Mem), U X G Z cL_types (some .boolean) (QM X G Z vI) 12 18 [(0, .ref (G.2 + 0)), (1, .ref (G.2 + a1)), (2, .ref (G.2 + a2)), (3, .ref (G.2 + a3)), (4, .ref (G.2 + a4)), (5, .ref (G.2 + a5)), (6, .ref (G.2 + a6)), (7, .int x7), (8, .ref (G.2 + a8)), (9, .int x9), (10, .int x10)] [] M (k18 a1 a2 a3 a4 a5 a6 x7 a8 x9 x10 M)) (a1 : Nat) (a2 : Nat) (a3 : Nat) (a4 : Nat) (a5 : Nat) (a6 : Nat) (x7 : Int32) (a8 : Nat) (x9 : Int32) (x10 : Int32) (x11 : Int32) (t0 : Int32) (t1 : Int32) (t2 : Int32) (r3 : Nat) (M : Mem) : U X G Z cL_types (some .boolean) (QM X G Z vI) 12 305 [(0, .ref (G.2 + 0)), (1, .ref (G.2 + a1)), (2, .ref (G.2 + a2)), (3, .ref (G.2 + a3)), (4, .ref (G.2 + a4)), (5, .ref (G.2 + a5)), (6, .ref (G.2 + a6)), (7, .int x7), (8, .ref (G.2 + a8)), (9, .int x9), (10, .int x10), (11, .int x11)] [.int t0, .int t1, .int t2, .ref (G.2 + r3)] M (f_L_types_b305 k18 a1 a2 a3 a4 a5 a6 x7 a8 x9 x10 x11 t0 t1 t2 r3 M) := by
  unfold f_L_types_b305
  refine U_iadd dL_types_305 ?_
  refine U_iast dL_types_306 (fun M1 => ?_)
  refine U_aload 8 8 rfl dL_types_307 ?_
  refine U_iload 9 9 rfl dL_types_309 ?_
  refine U_iconst dL_types_311 ic_3 ?_
  refine U_iadd dL_types_312 ?_
  refine U_iconst dL_types_313 ic_2 ?_
  refine U_iload 11 11 rfl dL_types_314 ?_
  refine U_imul dL_types_316 ?_
  refine U_iconst dL_types_317 ic_1 ?_
  refine U_iadd dL_types_318 ?_
  refine U_iast dL_types_319 (fun M2 => ?_)
  refine U_iincB 9 9 (fun y3 => [(9, .int y3), (0, .ref (G.2 + 0)), (1, .ref (G.2 + a1)), (2, .ref (G.2 + a2)), (3, .ref (G.2 + a3)), (4, .ref (G.2 + a4)), (5, .ref (G.2 + a5)), (6, .ref (G.2 + a6)), (7, .int x7), (8, .ref (G.2 + a8)), (10, .int x10), (11, .int x11)]) rfl ic_4 (by decide) (fun _ => rfl) dL_types_320 (fun y3 => ?_)
  refine U_goto 18 dL_types_323 (by decide) ?_
  exact U_sub [1, 2, 3, 4, 5, 6, 7, 8, 9, 0, 10] rfl (hk18 a1 a2 a3 a4 a5 a6 x7 a8 y3 x10 M2)
set_option maxRecDepth 100000 in
set_option maxHeartbeats 4000000 in
theorem f_L_types_b192_ok {X : XT} {G : GT} {Z : ZT} (hZ : 3 ≤ Z.1) (k18 : Nat → Nat → Nat → Nat → Nat → Nat → Int32 → Nat → Int32 → Int32 → Mem → Option (Int32 × Mem)) (hk18 : ∀ (a1 : Nat) (a2 : Nat) (a3 : Nat) (a4 : Nat) (a5 : Nat) (a6 : Nat) (x7 : Int32) (a8 : Nat) (x9 : Int32) (x10 : Int32) (M : Mem), U X G Z cL_types (some .boolean) (QM X G Z vI) 12 18 [(0, .ref (G.2 + 0)), (1, .ref (G.2 + a1)), (2, .ref (G.2 + a2)), (3, .ref (G.2 + a3)), (4, .ref (G.2 + a4)), (5, .ref (G.2 + a5)), (6, .ref (G.2 + a6)), (7, .int x7), (8, .ref (G.2 + a8)), (9, .int x9), (10, .int x10)] [] M (k18 a1 a2 a3 a4 a5 a6 x7 a8 x9 x10 M)) (a1 : Nat) (a2 : Nat) (a3 : Nat) (a4 : Nat) (a5 : Nat) (a6 : Nat) (x7 : Int32) (a8 : Nat) (x9 : Int32) (x11 : Int32) (t0 : Int32) (r1 : Nat) (M : Mem) : U X G Z cL_types (some .boolean) (QM X G Z vI) 12 192 [(0, .ref (G.2 + 0)), (1, .ref (G.2 + a1)), (2, .ref (G.2 + a2)), (3, .ref (G.2 + a3)), (4, .ref (G.2 + a4)), (5, .ref (G.2 + a5)), (6, .ref (G.2 + a6)), (7, .int x7), (8, .ref (G.2 + a8)), (9, .int x9), (11, .int x11)] [.int t0, .ref (G.2 + r1), .ref (G.2 + 0)] M (f_L_types_b192 k18 a1 a2 a3 a4 a5 a6 x7 a8 x9 x11 t0 r1 M) := by
  unfold f_L_types_b192
  refine U_aload_n 3 rfl 3 rfl dL_types_192 ?_
  refine U_iload 11 10 rfl dL_types_193 ?_
  refine U_iald dL_types_195 ?_
  refine U_iadd dL_types_196 ?_
  refine kL_41 (Nat.lt_of_lt_of_le (Nat.le_of_ble_eq_true rfl : 2 + 1 ≤ 3) hZ) (fun lq rq Mq hh => mc_f_L_put lq r1 (t0 + (M.1 a3 (ix x11))) M rq Mq hh) (fun rq Mq hh => (u_f_L_put (X := (X.1, X.2.1, X.2.2.1, X.2.2.2.1, X.2.2.2.2.1, X.2.2.2.2.2.1, X.2.2.2.2.2.2.1, X.2.2.2.2.2.2.2.1, X.2.2.2.2.2.2.2.2)) (G := G) (Z := (2, Z.2)) (Nat.le_refl _) r1 (t0 + (M.1 a3 (ix x11))) M rq Mq hh).1) (Nat.le_of_ble_eq_true rfl) dL_types_197 (fun r1 M1 => ?_)
  refine U_istore 10 [(10, .int r1), (0, .ref (G.2 + 0)), (1, .ref (G.2 + a1)), (2, .ref (G.2 + a2)), (3, .ref (G.2 + a3)), (4, .ref (G.2 + a4)), (5, .ref (G.2 + a5)), (6, .ref (G.2 + a6)), (7, .int x7), (8, .ref (G.2 + a8)), (9, .int x9), (11, .int x11)] (by decide) rfl dL_types_200 ?_
  refine U_goto 323 dL_types_202 (by decide) ?_
  refine U_goto 18 dL_types_323 (by decide) ?_
  exact U_sub [1, 2, 3, 4, 5, 6, 7, 8, 9, 10, 0] rfl (hk18 a1 a2 a3 a4 a5 a6 x7 a8 x9 r1 M1)
set_option maxRecDepth 100000 in
set_option maxHeartbeats 4000000 in
theorem f_L_types_b139_ok {X : XT} {G : GT} {Z : ZT} (hZ : 3 ≤ Z.1) (k18 : Nat → Nat → Nat → Nat → Nat → Nat → Int32 → Nat → Int32 → Int32 → Mem → Option (Int32 × Mem)) (hk18 : ∀ (a1 : Nat) (a2 : Nat) (a3 : Nat) (a4 : Nat) (a5 : Nat) (a6 : Nat) (x7 : Int32) (a8 : Nat) (x9 : Int32) (x10 : Int32) (M : Mem), U X G Z cL_types (some .boolean) (QM X G Z vI) 12 18 [(0, .ref (G.2 + 0)), (1, .ref (G.2 + a1)), (2, .ref (G.2 + a2)), (3, .ref (G.2 + a3)), (4, .ref (G.2 + a4)), (5, .ref (G.2 + a5)), (6, .ref (G.2 + a6)), (7, .int x7), (8, .ref (G.2 + a8)), (9, .int x9), (10, .int x10)] [] M (k18 a1 a2 a3 a4 a5 a6 x7 a8 x9 x10 M)) (a1 : Nat) (a2 : Nat) (a3 : Nat) (a4 : Nat) (a5 : Nat) (a6 : Nat) (x7 : Int32) (a8 : Nat) (x9 : Int32) (x11 : Int32) (M : Mem) : U X G Z cL_types (some .boolean) (QM X G Z vI) 12 139 [(0, .ref (G.2 + 0)), (1, .ref (G.2 + a1)), (2, .ref (G.2 + a2)), (3, .ref (G.2 + a3)), (4, .ref (G.2 + a4)), (5, .ref (G.2 + a5)), (6, .ref (G.2 + a6)), (7, .int x7), (8, .ref (G.2 + a8)), (9, .int x9), (11, .int x11)] [] M (f_L_types_b139 k18 a1 a2 a3 a4 a5 a6 x7 a8 x9 x11 M) := by
  unfold f_L_types_b139
  refine U_aload_n 0 rfl 0 rfl dL_types_139 ?_
  refine U_aload_n 1 rfl 1 rfl dL_types_140 ?_
  refine U_bipush dL_types_141 bp_48 ?_
  refine U_aload_n 3 rfl 3 rfl dL_types_143 ?_
  refine U_iload 11 10 rfl dL_types_144 ?_
  refine U_iald dL_types_146 ?_
  refine U_bipush dL_types_147 bp_10 ?_
  refine U_irem (by decide) dL_types_149 ?_
  refine U_iadd dL_types_150 ?_
  refine kL_41 (Nat.lt_of_lt_of_le (Nat.le_of_ble_eq_true rfl : 2 + 1 ≤ 3) hZ) (fun lq rq Mq hh => mc_f_L_put lq a1 (48 + ((M.1 a3 (ix x11)) - (M.1 a3 (ix x11)) / 10 * 10)) M rq Mq hh) (fun rq Mq hh => (u_f_L_put (X := (X.1, X.2.1, X.2.2.1, X.2.2.2.1, X.2.2.2.2.1, X.2.2.2.2.2.1, X.2.2.2.2.2.2.1, X.2.2.2.2.2.2.2.1, X.2.2.2.2.2.2.2.2)) (G := G) (Z := (2, Z.2)) (Nat.le_refl _) a1 (48 + ((M.1 a3 (ix x11)) - (M.1 a3 (ix x11)) / 10 * 10)) M rq Mq hh).1) (Nat.le_of_ble_eq_true rfl) dL_types_151 (fun r1 M1 => ?_)
  refine U_ifeq 161 dL_types_154 (by decide) (fun _ => ?_) (fun _ => ?_)
  · refine U_iconst dL_types_161 ic_0 ?_
    refine U_istore 10 [(10, .int 0), (0, .ref (G.2 + 0)), (1, .ref (G.2 + a1)), (2, .ref (G.2 + a2)), (3, .ref (G.2 + a3)), (4, .ref (G.2 + a4)), (5, .ref (G.2 + a5)), (6, .ref (G.2 + a6)), (7, .int x7), (8, .ref (G.2 + a8)), (9, .int x9), (11, .int x11)] (by decide) rfl dL_types_162 ?_
    refine U_goto 323 dL_types_164 (by decide) ?_
    refine U_goto 18 dL_types_323 (by decide) ?_
    exact U_sub [1, 2, 3, 4, 5, 6, 7, 8, 9, 10, 0] rfl (hk18 a1 a2 a3 a4 a5 a6 x7 a8 x9 0 M1)
  · refine U_iconst dL_types_157 ic_1 ?_
    refine U_goto 162 dL_types_158 (by decide) ?_
    refine U_istore 10 [(10, .int 1), (0, .ref (G.2 + 0)), (1, .ref (G.2 + a1)), (2, .ref (G.2 + a2)), (3, .ref (G.2 + a3)), (4, .ref (G.2 + a4)), (5, .ref (G.2 + a5)), (6, .ref (G.2 + a6)), (7, .int x7), (8, .ref (G.2 + a8)), (9, .int x9), (11, .int x11)] (by decide) rfl dL_types_162 ?_
    refine U_goto 323 dL_types_164 (by decide) ?_
    refine U_goto 18 dL_types_323 (by decide) ?_
    exact U_sub [1, 2, 3, 4, 5, 6, 7, 8, 9, 10, 0] rfl (hk18 a1 a2 a3 a4 a5 a6 x7 a8 x9 1 M1)
set_option maxRecDepth 100000 in
set_option maxHeartbeats 4000000 in
theorem f_L_types_b18_ok {X : XT} {G : GT} {Z : ZT} (hZ : 3 ≤ Z.1) : ∀ (n : Nat) (a1 : Nat) (a2 : Nat) (a3 : Nat) (a4 : Nat) (a5 : Nat) (a6 : Nat) (x7 : Int32) (a8 : Nat) (x9 : Int32) (x10 : Int32) (M : Mem), U X G Z cL_types (some .boolean) (QM X G Z vI) 12 18 [(0, .ref (G.2 + 0)), (1, .ref (G.2 + a1)), (2, .ref (G.2 + a2)), (3, .ref (G.2 + a3)), (4, .ref (G.2 + a4)), (5, .ref (G.2 + a5)), (6, .ref (G.2 + a6)), (7, .int x7), (8, .ref (G.2 + a8)), (9, .int x9), (10, .int x10)] [] M (f_L_types_b18 n a1 a2 a3 a4 a5 a6 x7 a8 x9 x10 M) := by
  intro n
  induction n with
  | zero =>
    intros
    rw [f_L_types_b18]
    exact U_none
  | succ n ih =>
    intro a1 a2 a3 a4 a5 a6 x7 a8 x9 x10 M
    rw [f_L_types_b18]
    refine U_iload 9 9 rfl dL_types_18 ?_
    refine U_ifle 326 dL_types_20 (by decide) (fun _ => ?_) (fun _ => ?_)
    · refine U_iload 10 10 rfl dL_types_326 ?_
      exact U_zret dL_types_328
    · refine U_iload 10 10 rfl dL_types_23 ?_
      refine U_ifeq 326 dL_types_25 (by decide) (fun _ => ?_) (fun _ => ?_)
      · refine U_iload 10 10 rfl dL_types_326 ?_
        exact U_zret dL_types_328
      · refine U_iincB 9 9 (fun y1 => [(9, .int y1), (0, .ref (G.2 + 0)), (1, .ref (G.2 + a1)), (2, .ref (G.2 + a2)), (3, .ref (G.2 + a3)), (4, .ref (G.2 + a4)), (5, .ref (G.2 + a5)), (6, .ref (G.2 + a6)), (7, .int x7), (8, .ref (G.2 + a8)), (10, .int x10)]) rfl ic_m1 (by decide) (fun _ => rfl) dL_types_28 (fun y1 => ?_)
        refine U_aload 8 9 rfl dL_types_31 ?_
        refine U_iload 9 0 rfl dL_types_33 ?_
        refine U_iald dL_types_35 ?_
        refine U_bi (fun y2 => ?_)
        refine U_istore 11 [(11, .int y2), (9, .int y1), (0, .ref (G.2 + 0)), (1, .ref (G.2 + a1)), (2, .ref (G.2 + a2)), (3, .ref (G.2 + a3)), (4, .ref (G.2 + a4)), (5, .ref (G.2 + a5)), (6, .ref (G.2 + a6)), (7, .int x7), (8, .ref (G.2 + a8)), (10, .int x10)] (by decide) rfl dL_types_36 ?_
        refine U_iload 11 0 rfl dL_types_38 ?_
        refine U_bipush dL_types_40 bp_99 ?_
        refine U_icmple 60 dL_types_42 (by decide) (fun _ => ?_) (fun _ => ?_)
        · refine U_aload 5 7 rfl dL_types_60 ?_
          refine U_bipush dL_types_62 bp_16 ?_
          refine U_iload 7 9 rfl dL_types_64 ?_
          refine U_imul dL_types_66 ?_
          refine U_aload 4 6 rfl dL_types_67 ?_
          refine U_iload 7 9 rfl dL_types_69 ?_
          refine U_iald dL_types_71 ?_
          refine U_iadd dL_types_72 ?_
          refine U_aload_n 2 rfl 4 rfl dL_types_73 ?_
          refine U_iload 11 0 rfl dL_types_74 ?_
          refine U_iald dL_types_76 ?_
          refine U_iast dL_types_77 (fun M3 => ?_)
          refine U_aload 6 8 rfl dL_types_78 ?_
          refine U_bipush dL_types_80 bp_16 ?_
          refine U_iload 7 9 rfl dL_types_82 ?_
          refine U_imul dL_types_84 ?_
          refine U_aload 4 6 rfl dL_types_85 ?_
          refine U_iload 7 9 rfl dL_types_87 ?_
          refine U_iald dL_types_89 ?_
          refine U_iadd dL_types_90 ?_
          refine U_aload_n 3 rfl 5 rfl dL_types_91 ?_
          refine U_iload 11 0 rfl dL_types_92 ?_
          refine U_iald dL_types_94 ?_
          refine U_iast dL_types_95 (fun M4 => ?_)
          refine U_aload 4 6 rfl dL_types_96 ?_
          refine U_iload 7 9 rfl dL_types_98 ?_
          refine U_dup2 rfl rfl dL_types_100 ?_
          refine U_iald dL_types_101 ?_
          refine U_iconst dL_types_102 ic_1 ?_
          refine U_iadd dL_types_103 ?_
          refine U_iast dL_types_104 (fun M5 => ?_)
          refine U_aload_n 2 rfl 4 rfl dL_types_105 ?_
          refine U_iload 11 0 rfl dL_types_106 ?_
          refine U_iald dL_types_108 ?_
          refine U_ifne 167 dL_types_109 (by decide) (fun _ => ?_) (fun _ => ?_)
          · refine U_aload_n 2 rfl 4 rfl dL_types_167 ?_
            refine U_iload 11 0 rfl dL_types_168 ?_
            refine U_iald dL_types_170 ?_
            refine U_iconst dL_types_171 ic_3 ?_
            refine U_icmpge 205 dL_types_172 (by decide) (fun _ => ?_) (fun _ => ?_)
            · refine U_aload_n 2 rfl 4 rfl dL_types_205 ?_
              refine U_iload 11 0 rfl dL_types_206 ?_
              refine U_iald dL_types_208 ?_
              refine U_iconst dL_types_209 ic_3 ?_
              refine U_icmpne 239 dL_types_210 (by decide) (fun _ => ?_) (fun _ => ?_)
              · refine U_aload_n 0 rfl 2 rfl dL_types_239 ?_
                refine U_aload_n 1 rfl 3 rfl dL_types_240 ?_
                refine U_bipush dL_types_241 bp_40 ?_
                refine kL_41 (Nat.lt_of_lt_of_le (Nat.le_of_ble_eq_true rfl : 2 + 1 ≤ 3) hZ) (fun lq rq Mq hh => mc_f_L_put lq a1 40 M5 rq Mq hh) (fun rq Mq hh => (u_f_L_put (X := (X.1, X.2.1, X.2.2.1, X.2.2.2.1, X.2.2.2.2.1, X.2.2.2.2.2.1, X.2.2.2.2.2.2.1, X.2.2.2.2.2.2.2.1, X.2.2.2.2.2.2.2.2)) (G := G) (Z := (2, Z.2)) (Nat.le_refl _) a1 40 M5 rq Mq hh).1) (Nat.le_of_ble_eq_true rfl) dL_types_243 (fun r6 M6 => ?_)
                refine U_istore 10 [(10, .int r6), (11, .int y2), (9, .int y1), (0, .ref (G.2 + 0)), (1, .ref (G.2 + a1)), (2, .ref (G.2 + a2)), (3, .ref (G.2 + a3)), (4, .ref (G.2 + a4)), (5, .ref (G.2 + a5)), (6, .ref (G.2 + a6)), (7, .int x7), (8, .ref (G.2 + a8))] (by decide) rfl dL_types_246 ?_
                refine U_aload 8 11 rfl dL_types_248 ?_
                refine U_iload 9 2 rfl dL_types_250 ?_
                refine U_sipush dL_types_252 sp_141 ?_
                refine U_iast dL_types_255 (fun M7 => ?_)
                refine U_aload 8 11 rfl dL_types_256 ?_
                refine U_iload 9 2 rfl dL_types_258 ?_
                refine U_iconst dL_types_260 ic_1 ?_
                refine U_iadd dL_types_261 ?_
                refine U_iconst dL_types_262 ic_2 ?_
                refine U_iload 11 1 rfl dL_types_263 ?_
                refine U_imul dL_types_265 ?_
                refine U_iconst dL_types_266 ic_2 ?_
                refine U_iadd dL_types_267 ?_
                refine U_iast dL_types_268 (fun M8 => ?_)
                refine U_aload 8 11 rfl dL_types_269 ?_
                refine U_iload 9 2 rfl dL_types_271 ?_
                refine U_iconst dL_types_273 ic_2 ?_
                refine U_iadd dL_types_274 ?_
                refine U_bipush dL_types_275 bp_100 ?_
                refine U_aload_n 2 rfl 5 rfl dL_types_277 ?_
                refine U_iload 11 1 rfl dL_types_278 ?_
                refine U_iald dL_types_280 ?_
                refine U_iconst dL_types_281 ic_4 ?_
                refine U_icmpne 290 dL_types_282 (by decide) (fun _ => ?_) (fun _ => ?_)
                · refine U_aload_n 2 rfl 5 rfl dL_types_290 ?_
                  refine U_iload 11 1 rfl dL_types_291 ?_
                  refine U_iald dL_types_293 ?_
                  refine U_iconst dL_types_294 ic_5 ?_
                  refine U_icmpne 303 dL_types_295 (by decide) (fun _ => ?_) (fun _ => ?_)
                  · refine U_bipush dL_types_303 bp_42 ?_
                    exact U_sub [3, 4, 5, 6, 7, 8, 9, 10, 11, 2, 0, 1] rfl (f_L_types_b305_ok hZ (f_L_types_b18 n) ih a1 a2 a3 a4 a5 a6 x7 a8 y1 r6 y2 42 100 (y1 + 2) a8 M8)
                  · refine U_bipush dL_types_298 bp_45 ?_
                    refine U_goto 305 dL_types_300 (by decide) ?_
                    exact U_sub [3, 4, 5, 6, 7, 8, 9, 10, 11, 2, 0, 1] rfl (f_L_types_b305_ok hZ (f_L_types_b18 n) ih a1 a2 a3 a4 a5 a6 x7 a8 y1 r6 y2 45 100 (y1 + 2) a8 M8)
                · refine U_bipush dL_types_285 bp_43 ?_
                  refine U_goto 305 dL_types_287 (by decide) ?_
                  exact U_sub [3, 4, 5, 6, 7, 8, 9, 10, 11, 2, 0, 1] rfl (f_L_types_b305_ok hZ (f_L_types_b18 n) ih a1 a2 a3 a4 a5 a6 x7 a8 y1 r6 y2 43 100 (y1 + 2) a8 M8)
              · refine U_aload_n 0 rfl 2 rfl dL_types_213 ?_
                refine U_aload_n 1 rfl 3 rfl dL_types_214 ?_
                refine U_bipush dL_types_215 bp_33 ?_
                refine kL_41 (Nat.lt_of_lt_of_le (Nat.le_of_ble_eq_true rfl : 2 + 1 ≤ 3) hZ) (fun lq rq Mq hh => mc_f_L_put lq a1 33 M5 rq Mq hh) (fun rq Mq hh => (u_f_L_put (X := (X.1, X.2.1, X.2.2.1, X.2.2.2.1, X.2.2.2.2.1, X.2.2.2.2.2.1, X.2.2.2.2.2.2.1, X.2.2.2.2.2.2.2.1, X.2.2.2.2.2.2.2.2)) (G := G) (Z := (2, Z.2)) (Nat.le_refl _) a1 33 M5 rq Mq hh).1) (Nat.le_of_ble_eq_true rfl) dL_types_217 (fun r9 M9 => ?_)
                refine U_istore 10 [(10, .int r9), (11, .int y2), (9, .int y1), (0, .ref (G.2 + 0)), (1, .ref (G.2 + a1)), (2, .ref (G.2 + a2)), (3, .ref (G.2 + a3)), (4, .ref (G.2 + a4)), (5, .ref (G.2 + a5)), (6, .ref (G.2 + a6)), (7, .int x7), (8, .ref (G.2 + a8))] (by decide) rfl dL_types_220 ?_
                refine U_aload 8 11 rfl dL_types_222 ?_
                refine U_iload 9 2 rfl dL_types_224 ?_
                refine U_iconst dL_types_226 ic_2 ?_
                refine U_iload 11 1 rfl dL_types_227 ?_
                refine U_imul dL_types_229 ?_
                refine U_iconst dL_types_230 ic_1 ?_
                refine U_iadd dL_types_231 ?_
                refine U_iast dL_types_232 (fun M10 => ?_)
                refine U_iincB 9 2 (fun y11 => [(9, .int y11), (10, .int r9), (11, .int y2), (0, .ref (G.2 + 0)), (1, .ref (G.2 + a1)), (2, .ref (G.2 + a2)), (3, .ref (G.2 + a3)), (4, .ref (G.2 + a4)), (5, .ref (G.2 + a5)), (6, .ref (G.2 + a6)), (7, .int x7), (8, .ref (G.2 + a8))]) rfl ic_1 (by decide) (fun _ => rfl) dL_types_233 (fun y11 => ?_)
                refine U_goto 323 dL_types_236 (by decide) ?_
                refine U_goto 18 dL_types_323 (by decide) ?_
                exact U_sub [3, 4, 5, 6, 7, 8, 9, 10, 11, 0, 1] rfl (ih a1 a2 a3 a4 a5 a6 x7 a8 y11 r9 M10)
            · refine U_aload_n 0 rfl 2 rfl dL_types_175 ?_
              refine U_aload_n 1 rfl 3 rfl dL_types_176 ?_
              refine U_aload_n 2 rfl 4 rfl dL_types_177 ?_
              refine U_iload 11 0 rfl dL_types_178 ?_
              refine U_iald dL_types_180 ?_
              refine U_iconst dL_types_181 ic_1 ?_
              refine U_icmpne 190 dL_types_182 (by decide) (fun _ => ?_) (fun _ => ?_)
              · refine U_bipush dL_types_190 bp_65 ?_
                exact U_sub [2, 3, 4, 5, 6, 7, 8, 9, 10, 1, 0] rfl (f_L_types_b192_ok hZ (f_L_types_b18 n) ih a1 a2 a3 a4 a5 a6 x7 a8 y1 y2 65 a1 M5)
              · refine U_bipush dL_types_185 bp_97 ?_
                refine U_goto 192 dL_types_187 (by decide) ?_
                exact U_sub [2, 3, 4, 5, 6, 7, 8, 9, 10, 1, 0] rfl (f_L_types_b192_ok hZ (f_L_types_b18 n) ih a1 a2 a3 a4 a5 a6 x7 a8 y1 y2 97 a1 M5)
          · refine U_aload_n 3 rfl 5 rfl dL_types_112 ?_
            refine U_iload 11 0 rfl dL_types_113 ?_
            refine U_iald dL_types_115 ?_
            refine U_bipush dL_types_116 bp_10 ?_
            refine U_icmplt 139 dL_types_118 (by decide) (fun _ => ?_) (fun _ => ?_)
            · exact U_sub [2, 3, 4, 5, 6, 7, 8, 9, 10, 1, 0] rfl (f_L_types_b139_ok hZ (f_L_types_b18 n) ih a1 a2 a3 a4 a5 a6 x7 a8 y1 y2 M5)
            · refine U_aload_n 0 rfl 2 rfl dL_types_121 ?_
              refine U_aload_n 1 rfl 3 rfl dL_types_122 ?_
              refine U_bipush dL_types_123 bp_48 ?_
              refine U_aload_n 3 rfl 5 rfl dL_types_125 ?_
              refine U_iload 11 0 rfl dL_types_126 ?_
              refine U_iald dL_types_128 ?_
              refine U_bipush dL_types_129 bp_10 ?_
              refine U_idiv (by decide) dL_types_131 ?_
              refine U_iadd dL_types_132 ?_
              refine kL_41 (Nat.lt_of_lt_of_le (Nat.le_of_ble_eq_true rfl : 2 + 1 ≤ 3) hZ) (fun lq rq Mq hh => mc_f_L_put lq a1 (48 + ((M5.1 a3 (ix y2)) / 10)) M5 rq Mq hh) (fun rq Mq hh => (u_f_L_put (X := (X.1, X.2.1, X.2.2.1, X.2.2.2.1, X.2.2.2.2.1, X.2.2.2.2.2.1, X.2.2.2.2.2.2.1, X.2.2.2.2.2.2.2.1, X.2.2.2.2.2.2.2.2)) (G := G) (Z := (2, Z.2)) (Nat.le_refl _) a1 (48 + ((M5.1 a3 (ix y2)) / 10)) M5 rq Mq hh).1) (Nat.le_of_ble_eq_true rfl) dL_types_133 (fun r12 M12 => ?_)
              refine U_ifeq 161 dL_types_136 (by decide) (fun _ => ?_) (fun _ => ?_)
              · refine U_iconst dL_types_161 ic_0 ?_
                refine U_istore 10 [(10, .int 0), (11, .int y2), (9, .int y1), (0, .ref (G.2 + 0)), (1, .ref (G.2 + a1)), (2, .ref (G.2 + a2)), (3, .ref (G.2 + a3)), (4, .ref (G.2 + a4)), (5, .ref (G.2 + a5)), (6, .ref (G.2 + a6)), (7, .int x7), (8, .ref (G.2 + a8))] (by decide) rfl dL_types_162 ?_
                refine U_goto 323 dL_types_164 (by decide) ?_
                refine U_goto 18 dL_types_323 (by decide) ?_
                exact U_sub [3, 4, 5, 6, 7, 8, 9, 10, 11, 2, 0] rfl (ih a1 a2 a3 a4 a5 a6 x7 a8 y1 0 M12)
              · exact U_sub [2, 3, 4, 5, 6, 7, 8, 9, 10, 1, 0] rfl (f_L_types_b139_ok hZ (f_L_types_b18 n) ih a1 a2 a3 a4 a5 a6 x7 a8 y1 y2 M12)
        · refine U_aload_n 0 rfl 2 rfl dL_types_45 ?_
          refine U_aload_n 1 rfl 3 rfl dL_types_46 ?_
          refine U_iload 11 0 rfl dL_types_47 ?_
          refine U_bipush dL_types_49 bp_100 ?_
          refine U_isub dL_types_51 ?_
          refine kL_41 (Nat.lt_of_lt_of_le (Nat.le_of_ble_eq_true rfl : 2 + 1 ≤ 3) hZ) (fun lq rq Mq hh => mc_f_L_put lq a1 (y2 - 100) M rq Mq hh) (fun rq Mq hh => (u_f_L_put (X := (X.1, X.2.1, X.2.2.1, X.2.2.2.1, X.2.2.2.2.1, X.2.2.2.2.2.1, X.2.2.2.2.2.2.1, X.2.2.2.2.2.2.2.1, X.2.2.2.2.2.2.2.2)) (G := G) (Z := (2, Z.2)) (Nat.le_refl _) a1 (y2 - 100) M rq Mq hh).1) (Nat.le_of_ble_eq_true rfl) dL_types_52 (fun r13 M13 => ?_)
          refine U_istore 10 [(10, .int r13), (11, .int y2), (9, .int y1), (0, .ref (G.2 + 0)), (1, .ref (G.2 + a1)), (2, .ref (G.2 + a2)), (3, .ref (G.2 + a3)), (4, .ref (G.2 + a4)), (5, .ref (G.2 + a5)), (6, .ref (G.2 + a6)), (7, .int x7), (8, .ref (G.2 + a8))] (by decide) rfl dL_types_55 ?_
          refine U_goto 323 dL_types_57 (by decide) ?_
          refine U_goto 18 dL_types_323 (by decide) ?_
          exact U_sub [3, 4, 5, 6, 7, 8, 9, 10, 11, 2, 0] rfl (ih a1 a2 a3 a4 a5 a6 x7 a8 y1 r13 M13)
set_option maxRecDepth 100000 in
set_option maxHeartbeats 4000000 in
theorem u_f_L_types {X : XT} {G : GT} {Z : ZT} (hZ : 3 ≤ Z.1) (a1 : Nat) (a2 : Nat) (a3 : Nat) (a4 : Nat) (a5 : Nat) (a6 : Nat) (x7 : Int32) (M : Mem) : U X G Z cL_types (some .boolean) (QM X G Z vI) 12 0 [(0, .ref (G.2 + 0)), (1, .ref (G.2 + a1)), (2, .ref (G.2 + a2)), (3, .ref (G.2 + a3)), (4, .ref (G.2 + a4)), (5, .ref (G.2 + a5)), (6, .ref (G.2 + a6)), (7, .int x7)] [] M (f_L_types a1 a2 a3 a4 a5 a6 x7 M) := by
  unfold f_L_types
  refine U_bipush dL_types_0 bp_64 ?_
  refine U_newa xa_i dL_types_2 (fun b1 M1 => ?_)
  refine U_astore 8 [(8, .ref (G.2 + b1)), (0, .ref (G.2 + 0)), (1, .ref (G.2 + a1)), (2, .ref (G.2 + a2)), (3, .ref (G.2 + a3)), (4, .ref (G.2 + a4)), (5, .ref (G.2 + a5)), (6, .ref (G.2 + a6)), (7, .int x7)] (by decide) rfl dL_types_4 ?_
  refine U_iconst dL_types_6 ic_1 ?_
  refine U_istore 9 [(9, .int 1), (8, .ref (G.2 + b1)), (0, .ref (G.2 + 0)), (1, .ref (G.2 + a1)), (2, .ref (G.2 + a2)), (3, .ref (G.2 + a3)), (4, .ref (G.2 + a4)), (5, .ref (G.2 + a5)), (6, .ref (G.2 + a6)), (7, .int x7)] (by decide) rfl dL_types_7 ?_
  refine U_iconst dL_types_9 ic_1 ?_
  refine U_istore 10 [(10, .int 1), (9, .int 1), (8, .ref (G.2 + b1)), (0, .ref (G.2 + 0)), (1, .ref (G.2 + a1)), (2, .ref (G.2 + a2)), (3, .ref (G.2 + a3)), (4, .ref (G.2 + a4)), (5, .ref (G.2 + a5)), (6, .ref (G.2 + a6)), (7, .int x7)] (by decide) rfl dL_types_10 ?_
  refine U_aload 4 7 rfl dL_types_12 ?_
  refine U_iload 7 10 rfl dL_types_14 ?_
  refine U_iconst dL_types_16 ic_0 ?_
  refine U_iast dL_types_17 (fun M2 => ?_)
  exact U_sub [3, 4, 5, 6, 7, 8, 9, 10, 2, 1, 0] rfl (f_L_types_b18_ok hZ FU a1 a2 a3 a4 a5 a6 x7 b1 1 1 M2)
theorem mc_f_L_types {G : GT} (l : Launch) (a1 : Nat) (a2 : Nat) (a3 : Nat) (a4 : Nat) (a5 : Nat) (a6 : Nat) (x7 : Int32) (M : Mem) (r : Int32) (M1 : Mem) (ho : f_L_types a1 a2 a3 a4 a5 a6 x7 M = some (r, M1)) : MCL l G yL_types cL_types 12 (some .boolean) 3 [.ref (G.2 + 0), .ref (G.2 + a1), .ref (G.2 + a2), .ref (G.2 + a3), .ref (G.2 + a4), .ref (G.2 + a5), .ref (G.2 + a6), .int x7] M (vI r) M1 :=
  MCL.ofU (lv := [(0, .ref (G.2 + 0)), (1, .ref (G.2 + a1)), (2, .ref (G.2 + a2)), (3, .ref (G.2 + a3)), (4, .ref (G.2 + a4)), (5, .ref (G.2 + a5)), (6, .ref (G.2 + a6)), (7, .int x7)]) (by decide +kernel) rfl rfl (Nat.le_of_ble_eq_true rfl) ho (fun X Z hZ => u_f_L_types (Nat.le_of_eq hZ.symm) a1 a2 a3 a4 a5 a6 x7 M)
