set_option maxRecDepth 100000 in
set_option maxHeartbeats 4000000 in
theorem f_L_reads_b198_ok {X : XT} {G : GT} {Z : ZT} (hZ : 305 ≤ Z.1) (a1 : Nat) (a8 : Nat) (x9 : Int32) (x10 : Int32) (M : Mem) : U X G Z cL_reads (some .boolean) (QM X G Z vI) 12 198 [(0, .ref (G.2 + 0)), (1, .ref (G.2 + a1)), (8, .ref (G.2 + a8)), (9, .int x9), (10, .int x10)] [] M (f_L_reads_b198 a1 a8 x9 x10 M) := by
  unfold f_L_reads_b198
  refine U_aload_n 1 rfl 1 rfl dL_reads_198 ?_
  refine U_iconst dL_reads_199 ic_0 ?_
  refine U_iload 9 3 rfl dL_reads_200 ?_
  refine U_iconst dL_reads_202 ic_1 ?_
  refine U_iadd dL_reads_203 ?_
  refine U_iast dL_reads_204 (fun M1 => ?_)
  refine U_iload 10 4 rfl dL_reads_205 ?_
  refine U_ifeq 237 dL_reads_207 (by decide) (fun _ => ?_) (fun _ => ?_)
  · refine U_iconst dL_reads_237 ic_0 ?_
    exact U_zret dL_reads_238
  · refine U_aload_n 0 rfl 0 rfl dL_reads_210 ?_
    refine U_bipush dL_reads_211 bp_6 ?_
    refine kL_58 (Nat.lt_of_lt_of_le (Nat.le_of_ble_eq_true rfl : 3 + 1 ≤ 305) hZ) (fun lq rq Mq hh => mc_f_LP_count lq 6 M1 rq Mq hh) (Nat.le_of_ble_eq_true rfl) dL_reads_213 (fun r2 M2 => ?_)
    refine U_aload 8 2 rfl dL_reads_216 ?_
    refine U_iconst dL_reads_218 ic_0 ?_
    refine U_iald dL_reads_219 ?_
    refine U_icmpne 237 dL_reads_220 (by decide) (fun _ => ?_) (fun _ => ?_)
    · refine U_iconst dL_reads_237 ic_0 ?_
      exact U_zret dL_reads_238
    · refine U_aload_n 0 rfl 0 rfl dL_reads_223 ?_
      refine kL_61 (Nat.lt_of_lt_of_le (Nat.le_of_ble_eq_true rfl : 304 + 1 ≤ 305) hZ) (fun lq rq Mq hh => mc_f_LP_read lq  M2 rq Mq hh) (Nat.le_of_ble_eq_true rfl) dL_reads_224 (fun r3 M3 => ?_)
      refine U_aload_n 1 rfl 1 rfl dL_reads_227 ?_
      refine U_iconst dL_reads_228 ic_0 ?_
      refine U_iald dL_reads_229 ?_
      refine U_icmpne 237 dL_reads_230 (by decide) (fun _ => ?_) (fun _ => ?_)
      · refine U_iconst dL_reads_237 ic_0 ?_
        exact U_zret dL_reads_238
      · refine U_iconst dL_reads_233 ic_1 ?_
        refine U_goto 238 dL_reads_234 (by decide) ?_
        exact U_zret dL_reads_238
set_option maxRecDepth 100000 in
set_option maxHeartbeats 4000000 in
theorem f_L_reads_b141_ok {X : XT} {G : GT} {Z : ZT} (hZ : 305 ≤ Z.1) (k34 : Nat → Nat → Nat → Nat → Int32 → Nat → Nat → Nat → Int32 → Int32 → Int32 → Mem → Option (Int32 × Mem)) (hk34 : ∀ (a1 : Nat) (a2 : Nat) (a3 : Nat) (a4 : Nat) (x5 : Int32) (a6 : Nat) (a7 : Nat) (a8 : Nat) (x9 : Int32) (x10 : Int32) (x11 : Int32) (M : Mem), U X G Z cL_reads (some .boolean) (QM X G Z vI) 12 34 [(0, .ref (G.2 + 0)), (1, .ref (G.2 + a1)), (2, .ref (G.2 + a2)), (3, .ref (G.2 + a3)), (4, .ref (G.2 + a4)), (5, .int x5), (6, .ref (G.2 + a6)), (7, .ref (G.2 + a7)), (8, .ref (G.2 + a8)), (9, .int x9), (10, .int x10), (11, .int x11)] [] M (k34 a1 a2 a3 a4 x5 a6 a7 a8 x9 x10 x11 M)) (a1 : Nat) (a2 : Nat) (a3 : Nat) (a4 : Nat) (x5 : Int32) (a6 : Nat) (a7 : Nat) (a8 : Nat) (x9 : Int32) (x11 : Int32) (t0 : Int32) (M : Mem) : U X G Z cL_reads (some .boolean) (QM X G Z vI) 12 141 [(0, .ref (G.2 + 0)), (1, .ref (G.2 + a1)), (2, .ref (G.2 + a2)), (3, .ref (G.2 + a3)), (4, .ref (G.2 + a4)), (5, .int x5), (6, .ref (G.2 + a6)), (7, .ref (G.2 + a7)), (8, .ref (G.2 + a8)), (9, .int x9), (11, .int x11)] [.int t0] M (f_L_reads_b141 k34 a1 a2 a3 a4 x5 a6 a7 a8 x9 x11 t0 M) := by
  unfold f_L_reads_b141
  refine U_istore 10 [(10, .int t0), (0, .ref (G.2 + 0)), (1, .ref (G.2 + a1)), (2, .ref (G.2 + a2)), (3, .ref (G.2 + a3)), (4, .ref (G.2 + a4)), (5, .int x5), (6, .ref (G.2 + a6)), (7, .ref (G.2 + a7)), (8, .ref (G.2 + a8)), (9, .int x9), (11, .int x11)] (by decide) rfl dL_reads_141 ?_
  refine U_iload 10 0 rfl dL_reads_143 ?_
  refine U_ifeq 189 dL_reads_145 (by decide) (fun _ => ?_) (fun _ => ?_)
  · refine U_iconst dL_reads_189 ic_0 ?_
    refine U_istore 10 [(10, .int 0), (0, .ref (G.2 + 0)), (1, .ref (G.2 + a1)), (2, .ref (G.2 + a2)), (3, .ref (G.2 + a3)), (4, .ref (G.2 + a4)), (5, .int x5), (6, .ref (G.2 + a6)), (7, .ref (G.2 + a7)), (8, .ref (G.2 + a8)), (9, .int x9), (11, .int x11)] (by decide) rfl dL_reads_190 ?_
    refine U_iincB 11 11 (fun y1 => [(11, .int y1), (10, .int 0), (0, .ref (G.2 + 0)), (1, .ref (G.2 + a1)), (2, .ref (G.2 + a2)), (3, .ref (G.2 + a3)), (4, .ref (G.2 + a4)), (5, .int x5), (6, .ref (G.2 + a6)), (7, .ref (G.2 + a7)), (8, .ref (G.2 + a8)), (9, .int x9)]) rfl ic_1 (by decide) (fun _ => rfl) dL_reads_192 (fun y1 => ?_)
    refine U_goto 34 dL_reads_195 (by decide) ?_
    exact U_sub [2, 3, 4, 5, 6, 7, 8, 9, 10, 11, 1, 0] rfl (hk34 a1 a2 a3 a4 x5 a6 a7 a8 x9 0 y1 M)
  · refine U_aload_n 0 rfl 1 rfl dL_reads_148 ?_
    refine U_aload 8 9 rfl dL_reads_149 ?_
    refine U_aload 6 7 rfl dL_reads_151 ?_
    refine U_aload 7 8 rfl dL_reads_153 ?_
    refine U_aload_n 2 rfl 3 rfl dL_reads_155 ?_
    refine U_aload_n 3 rfl 4 rfl dL_reads_156 ?_
    refine U_aload 4 5 rfl dL_reads_157 ?_
    refine U_iload 11 11 rfl dL_reads_159 ?_
    refine kL_54 (Nat.lt_of_lt_of_le (Nat.le_of_ble_eq_true rfl : 3 + 1 ≤ 305) hZ) (fun lq rq Mq hh => mc_f_L_types lq a8 a6 a7 a2 a3 a4 x11 M rq Mq hh) (fun rq Mq hh => (u_f_L_types (X := (X.1, X.2.1, X.2.2.1, X.2.2.2.1, X.2.2.2.2.1, X.2.2.2.2.2.1, X.2.2.2.2.2.2.1, X.2.2.2.2.2.2.2.1, X.2.2.2.2.2.2.2.2)) (G := G) (Z := (3, Z.2)) (Nat.le_refl _) a8 a6 a7 a2 a3 a4 x11 M rq Mq hh).1) (Nat.le_of_ble_eq_true rfl) dL_reads_161 (fun r2 M2 => ?_)
    refine U_ifeq 189 dL_reads_164 (by decide) (fun _ => ?_) (fun _ => ?_)
    · refine U_iconst dL_reads_189 ic_0 ?_
      refine U_istore 10 [(10, .int 0), (0, .ref (G.2 + 0)), (1, .ref (G.2 + a1)), (2, .ref (G.2 + a2)), (3, .ref (G.2 + a3)), (4, .ref (G.2 + a4)), (5, .int x5), (6, .ref (G.2 + a6)), (7, .ref (G.2 + a7)), (8, .ref (G.2 + a8)), (9, .int x9), (11, .int x11)] (by decide) rfl dL_reads_190 ?_
      refine U_iincB 11 11 (fun y3 => [(11, .int y3), (10, .int 0), (0, .ref (G.2 + 0)), (1, .ref (G.2 + a1)), (2, .ref (G.2 + a2)), (3, .ref (G.2 + a3)), (4, .ref (G.2 + a4)), (5, .int x5), (6, .ref (G.2 + a6)), (7, .ref (G.2 + a7)), (8, .ref (G.2 + a8)), (9, .int x9)]) rfl ic_1 (by decide) (fun _ => rfl) dL_reads_192 (fun y3 => ?_)
      refine U_goto 34 dL_reads_195 (by decide) ?_
      exact U_sub [2, 3, 4, 5, 6, 7, 8, 9, 10, 11, 1, 0] rfl (hk34 a1 a2 a3 a4 x5 a6 a7 a8 x9 0 y3 M2)
    · refine U_iload 11 11 rfl dL_reads_167 ?_
      refine U_iload 9 10 rfl dL_reads_169 ?_
      refine U_icmpeq 185 dL_reads_171 (by decide) (fun _ => ?_) (fun _ => ?_)
      · refine U_iconst dL_reads_185 ic_1 ?_
        refine U_goto 190 dL_reads_186 (by decide) ?_
        refine U_istore 10 [(10, .int 1), (0, .ref (G.2 + 0)), (1, .ref (G.2 + a1)), (2, .ref (G.2 + a2)), (3, .ref (G.2 + a3)), (4, .ref (G.2 + a4)), (5, .int x5), (6, .ref (G.2 + a6)), (7, .ref (G.2 + a7)), (8, .ref (G.2 + a8)), (9, .int x9), (11, .int x11)] (by decide) rfl dL_reads_190 ?_
        refine U_iincB 11 11 (fun y4 => [(11, .int y4), (10, .int 1), (0, .ref (G.2 + 0)), (1, .ref (G.2 + a1)), (2, .ref (G.2 + a2)), (3, .ref (G.2 + a3)), (4, .ref (G.2 + a4)), (5, .int x5), (6, .ref (G.2 + a6)), (7, .ref (G.2 + a7)), (8, .ref (G.2 + a8)), (9, .int x9)]) rfl ic_1 (by decide) (fun _ => rfl) dL_reads_192 (fun y4 => ?_)
        refine U_goto 34 dL_reads_195 (by decide) ?_
        exact U_sub [2, 3, 4, 5, 6, 7, 8, 9, 10, 11, 1, 0] rfl (hk34 a1 a2 a3 a4 x5 a6 a7 a8 x9 1 y4 M2)
      · refine U_aload_n 0 rfl 1 rfl dL_reads_174 ?_
        refine U_aload 8 9 rfl dL_reads_175 ?_
        refine U_bipush dL_reads_177 bp_59 ?_
        refine kL_41 (Nat.lt_of_lt_of_le (Nat.le_of_ble_eq_true rfl : 2 + 1 ≤ 305) hZ) (fun lq rq Mq hh => mc_f_L_put lq a8 59 M2 rq Mq hh) (fun rq Mq hh => (u_f_L_put (X := (X.1, X.2.1, X.2.2.1, X.2.2.2.1, X.2.2.2.2.1, X.2.2.2.2.2.1, X.2.2.2.2.2.2.1, X.2.2.2.2.2.2.2.1, X.2.2.2.2.2.2.2.2)) (G := G) (Z := (2, Z.2)) (Nat.le_refl _) a8 59 M2 rq Mq hh).1) (Nat.le_of_ble_eq_true rfl) dL_reads_179 (fun r5 M5 => ?_)
        refine U_ifeq 189 dL_reads_182 (by decide) (fun _ => ?_) (fun _ => ?_)
        · refine U_iconst dL_reads_189 ic_0 ?_
          refine U_istore 10 [(10, .int 0), (0, .ref (G.2 + 0)), (1, .ref (G.2 + a1)), (2, .ref (G.2 + a2)), (3, .ref (G.2 + a3)), (4, .ref (G.2 + a4)), (5, .int x5), (6, .ref (G.2 + a6)), (7, .ref (G.2 + a7)), (8, .ref (G.2 + a8)), (9, .int x9), (11, .int x11)] (by decide) rfl dL_reads_190 ?_
          refine U_iincB 11 11 (fun y6 => [(11, .int y6), (10, .int 0), (0, .ref (G.2 + 0)), (1, .ref (G.2 + a1)), (2, .ref (G.2 + a2)), (3, .ref (G.2 + a3)), (4, .ref (G.2 + a4)), (5, .int x5), (6, .ref (G.2 + a6)), (7, .ref (G.2 + a7)), (8, .ref (G.2 + a8)), (9, .int x9)]) rfl ic_1 (by decide) (fun _ => rfl) dL_reads_192 (fun y6 => ?_)
          refine U_goto 34 dL_reads_195 (by decide) ?_
          exact U_sub [2, 3, 4, 5, 6, 7, 8, 9, 10, 11, 1, 0] rfl (hk34 a1 a2 a3 a4 x5 a6 a7 a8 x9 0 y6 M5)
        · refine U_iconst dL_reads_185 ic_1 ?_
          refine U_goto 190 dL_reads_186 (by decide) ?_
          refine U_istore 10 [(10, .int 1), (0, .ref (G.2 + 0)), (1, .ref (G.2 + a1)), (2, .ref (G.2 + a2)), (3, .ref (G.2 + a3)), (4, .ref (G.2 + a4)), (5, .int x5), (6, .ref (G.2 + a6)), (7, .ref (G.2 + a7)), (8, .ref (G.2 + a8)), (9, .int x9), (11, .int x11)] (by decide) rfl dL_reads_190 ?_
          refine U_iincB 11 11 (fun y7 => [(11, .int y7), (10, .int 1), (0, .ref (G.2 + 0)), (1, .ref (G.2 + a1)), (2, .ref (G.2 + a2)), (3, .ref (G.2 + a3)), (4, .ref (G.2 + a4)), (5, .int x5), (6, .ref (G.2 + a6)), (7, .ref (G.2 + a7)), (8, .ref (G.2 + a8)), (9, .int x9)]) rfl ic_1 (by decide) (fun _ => rfl) dL_reads_192 (fun y7 => ?_)
          refine U_goto 34 dL_reads_195 (by decide) ?_
          exact U_sub [2, 3, 4, 5, 6, 7, 8, 9, 10, 11, 1, 0] rfl (hk34 a1 a2 a3 a4 x5 a6 a7 a8 x9 1 y7 M5)
set_option maxRecDepth 100000 in
set_option maxHeartbeats 4000000 in
theorem f_L_reads_b136_ok {X : XT} {G : GT} {Z : ZT} (hZ : 305 ≤ Z.1) (k34 : Nat → Nat → Nat → Nat → Int32 → Nat → Nat → Nat → Int32 → Int32 → Int32 → Mem → Option (Int32 × Mem)) (hk34 : ∀ (a1 : Nat) (a2 : Nat) (a3 : Nat) (a4 : Nat) (x5 : Int32) (a6 : Nat) (a7 : Nat) (a8 : Nat) (x9 : Int32) (x10 : Int32) (x11 : Int32) (M : Mem), U X G Z cL_reads (some .boolean) (QM X G Z vI) 12 34 [(0, .ref (G.2 + 0)), (1, .ref (G.2 + a1)), (2, .ref (G.2 + a2)), (3, .ref (G.2 + a3)), (4, .ref (G.2 + a4)), (5, .int x5), (6, .ref (G.2 + a6)), (7, .ref (G.2 + a7)), (8, .ref (G.2 + a8)), (9, .int x9), (10, .int x10), (11, .int x11)] [] M (k34 a1 a2 a3 a4 x5 a6 a7 a8 x9 x10 x11 M)) (a1 : Nat) (a2 : Nat) (a3 : Nat) (a4 : Nat) (x5 : Int32) (a6 : Nat) (a7 : Nat) (a8 : Nat) (x9 : Int32) (x11 : Int32) (M : Mem) : U X G Z cL_reads (some .boolean) (QM X G Z vI) 12 136 [(0, .ref (G.2 + 0)), (1, .ref (G.2 + a1)), (2, .ref (G.2 + a2)), (3, .ref (G.2 + a3)), (4, .ref (G.2 + a4)), (5, .int x5), (6, .ref (G.2 + a6)), (7, .ref (G.2 + a7)), (8, .ref (G.2 + a8)), (9, .int x9), (11, .int x11)] [] M (f_L_reads_b136 k34 a1 a2 a3 a4 x5 a6 a7 a8 x9 x11 M) := by
  unfold f_L_reads_b136
  refine U_iconst dL_reads_136 ic_1 ?_
  refine U_goto 141 dL_reads_137 (by decide) ?_
  exact U_sub [0, 1, 2, 3, 4, 5, 6, 7, 8, 9, 10] rfl (f_L_reads_b141_ok hZ k34 hk34 a1 a2 a3 a4 x5 a6 a7 a8 x9 x11 1 M)
set_option maxRecDepth 100000 in
set_option maxHeartbeats 4000000 in
theorem f_L_reads_b140_ok {X : XT} {G : GT} {Z : ZT} (hZ : 305 ≤ Z.1) (k34 : Nat → Nat → Nat → Nat → Int32 → Nat → Nat → Nat → Int32 → Int32 → Int32 → Mem → Option (Int32 × Mem)) (hk34 : ∀ (a1 : Nat) (a2 : Nat) (a3 : Nat) (a4 : Nat) (x5 : Int32) (a6 : Nat) (a7 : Nat) (a8 : Nat) (x9 : Int32) (x10 : Int32) (x11 : Int32) (M : Mem), U X G Z cL_reads (some .boolean) (QM X G Z vI) 12 34 [(0, .ref (G.2 + 0)), (1, .ref (G.2 + a1)), (2, .ref (G.2 + a2)), (3, .ref (G.2 + a3)), (4, .ref (G.2 + a4)), (5, .int x5), (6, .ref (G.2 + a6)), (7, .ref (G.2 + a7)), (8, .ref (G.2 + a8)), (9, .int x9), (10, .int x10), (11, .int x11)] [] M (k34 a1 a2 a3 a4 x5 a6 a7 a8 x9 x10 x11 M)) (a1 : Nat) (a2 : Nat) (a3 : Nat) (a4 : Nat) (x5 : Int32) (a6 : Nat) (a7 : Nat) (a8 : Nat) (x9 : Int32) (x11 : Int32) (M : Mem) : U X G Z cL_reads (some .boolean) (QM X G Z vI) 12 140 [(0, .ref (G.2 + 0)), (1, .ref (G.2 + a1)), (2, .ref (G.2 + a2)), (3, .ref (G.2 + a3)), (4, .ref (G.2 + a4)), (5, .int x5), (6, .ref (G.2 + a6)), (7, .ref (G.2 + a7)), (8, .ref (G.2 + a8)), (9, .int x9), (11, .int x11)] [] M (f_L_reads_b140 k34 a1 a2 a3 a4 x5 a6 a7 a8 x9 x11 M) := by
  unfold f_L_reads_b140
  refine U_iconst dL_reads_140 ic_0 ?_
  exact U_sub [0, 1, 2, 3, 4, 5, 6, 7, 8, 9, 10] rfl (f_L_reads_b141_ok hZ k34 hk34 a1 a2 a3 a4 x5 a6 a7 a8 x9 x11 0 M)
set_option maxRecDepth 100000 in
set_option maxHeartbeats 4000000 in
theorem f_L_reads_b99_ok {X : XT} {G : GT} {Z : ZT} (hZ : 305 ≤ Z.1) (k34 : Nat → Nat → Nat → Nat → Int32 → Nat → Nat → Nat → Int32 → Int32 → Int32 → Mem → Option (Int32 × Mem)) (hk34 : ∀ (a1 : Nat) (a2 : Nat) (a3 : Nat) (a4 : Nat) (x5 : Int32) (a6 : Nat) (a7 : Nat) (a8 : Nat) (x9 : Int32) (x10 : Int32) (x11 : Int32) (M : Mem), U X G Z cL_reads (some .boolean) (QM X G Z vI) 12 34 [(0, .ref (G.2 + 0)), (1, .ref (G.2 + a1)), (2, .ref (G.2 + a2)), (3, .ref (G.2 + a3)), (4, .ref (G.2 + a4)), (5, .int x5), (6, .ref (G.2 + a6)), (7, .ref (G.2 + a7)), (8, .ref (G.2 + a8)), (9, .int x9), (10, .int x10), (11, .int x11)] [] M (k34 a1 a2 a3 a4 x5 a6 a7 a8 x9 x10 x11 M)) (a1 : Nat) (a2 : Nat) (a3 : Nat) (a4 : Nat) (x5 : Int32) (a6 : Nat) (a7 : Nat) (a8 : Nat) (x9 : Int32) (x11 : Int32) (t0 : Int32) (t1 : Int32) (r2 : Nat) (r3 : Nat) (M : Mem) : U X G Z cL_reads (some .boolean) (QM X G Z vI) 12 99 [(0, .ref (G.2 + 0)), (1, .ref (G.2 + a1)), (2, .ref (G.2 + a2)), (3, .ref (G.2 + a3)), (4, .ref (G.2 + a4)), (5, .int x5), (6, .ref (G.2 + a6)), (7, .ref (G.2 + a7)), (8, .ref (G.2 + a8)), (9, .int x9), (11, .int x11)] [.int t0, .int t1, .ref (G.2 + r2), .ref (G.2 + r3)] M (f_L_reads_b99 k34 a1 a2 a3 a4 x5 a6 a7 a8 x9 x11 t0 t1 r2 r3 M) := by
  unfold f_L_reads_b99
  refine U_iload 11 10 rfl dL_reads_99 ?_
  refine kL_50 (Nat.lt_of_lt_of_le (Nat.le_of_ble_eq_true rfl : 1 + 1 ≤ 305) hZ) (fun lq rq Mq hh => mc_f_L_grow lq r3 r2 t1 t0 x11 M rq Mq hh) (fun rq Mq hh => (u_f_L_grow (X := (X.1, X.2.1, X.2.2.1, X.2.2.2.1, X.2.2.2.2.1, X.2.2.2.2.2.1, X.2.2.2.2.2.2.1, X.2.2.2.2.2.2.2.1, X.2.2.2.2.2.2.2.2)) (G := G) (Z := (1, Z.2)) (Nat.le_refl _) r3 r2 t1 t0 x11 M rq Mq hh).1) (Nat.le_of_ble_eq_true rfl) dL_reads_101 (fun _ M1 => ?_)
  refine U_iload 11 10 rfl dL_reads_104 ?_
  refine U_iload 9 9 rfl dL_reads_106 ?_
  refine U_icmpeq 136 dL_reads_108 (by decide) (fun _ => ?_) (fun _ => ?_)
  · exact U_sub [0, 1, 2, 3, 4, 5, 6, 7, 8, 9, 10] rfl (f_L_reads_b136_ok hZ k34 hk34 a1 a2 a3 a4 x5 a6 a7 a8 x9 x11 M1)
  · refine U_aload_n 0 rfl 0 rfl dL_reads_111 ?_
    refine U_aload 8 8 rfl dL_reads_112 ?_
    refine U_bipush dL_reads_114 bp_65 ?_
    refine U_iload 11 10 rfl dL_reads_116 ?_
    refine U_iadd dL_reads_118 ?_
    refine kL_41 (Nat.lt_of_lt_of_le (Nat.le_of_ble_eq_true rfl : 2 + 1 ≤ 305) hZ) (fun lq rq Mq hh => mc_f_L_put lq a8 (65 + x11) M1 rq Mq hh) (fun rq Mq hh => (u_f_L_put (X := (X.1, X.2.1, X.2.2.1, X.2.2.2.1, X.2.2.2.2.1, X.2.2.2.2.2.1, X.2.2.2.2.2.2.1, X.2.2.2.2.2.2.2.1, X.2.2.2.2.2.2.2.2)) (G := G) (Z := (2, Z.2)) (Nat.le_refl _) a8 (65 + x11) M1 rq Mq hh).1) (Nat.le_of_ble_eq_true rfl) dL_reads_119 (fun r2 M2 => ?_)
    refine U_ifeq 140 dL_reads_122 (by decide) (fun _ => ?_) (fun _ => ?_)
    · exact U_sub [0, 1, 2, 3, 4, 5, 6, 7, 8, 9, 10] rfl (f_L_reads_b140_ok hZ k34 hk34 a1 a2 a3 a4 x5 a6 a7 a8 x9 x11 M2)
    · refine U_aload_n 0 rfl 0 rfl dL_reads_125 ?_
      refine U_aload 8 8 rfl dL_reads_126 ?_
      refine U_bipush dL_reads_128 bp_61 ?_
      refine kL_41 (Nat.lt_of_lt_of_le (Nat.le_of_ble_eq_true rfl : 2 + 1 ≤ 305) hZ) (fun lq rq Mq hh => mc_f_L_put lq a8 61 M2 rq Mq hh) (fun rq Mq hh => (u_f_L_put (X := (X.1, X.2.1, X.2.2.1, X.2.2.2.1, X.2.2.2.2.1, X.2.2.2.2.2.1, X.2.2.2.2.2.2.1, X.2.2.2.2.2.2.2.1, X.2.2.2.2.2.2.2.2)) (G := G) (Z := (2, Z.2)) (Nat.le_refl _) a8 61 M2 rq Mq hh).1) (Nat.le_of_ble_eq_true rfl) dL_reads_130 (fun r3 M3 => ?_)
      refine U_ifeq 140 dL_reads_133 (by decide) (fun _ => ?_) (fun _ => ?_)
      · exact U_sub [0, 1, 2, 3, 4, 5, 6, 7, 8, 9, 10] rfl (f_L_reads_b140_ok hZ k34 hk34 a1 a2 a3 a4 x5 a6 a7 a8 x9 x11 M3)
      · exact U_sub [0, 1, 2, 3, 4, 5, 6, 7, 8, 9, 10] rfl (f_L_reads_b136_ok hZ k34 hk34 a1 a2 a3 a4 x5 a6 a7 a8 x9 x11 M3)
set_option maxRecDepth 100000 in
set_option maxHeartbeats 4000000 in
theorem f_L_reads_b34_ok {X : XT} {G : GT} {Z : ZT} (hZ : 305 ≤ Z.1) : ∀ (n : Nat) (a1 : Nat) (a2 : Nat) (a3 : Nat) (a4 : Nat) (x5 : Int32) (a6 : Nat) (a7 : Nat) (a8 : Nat) (x9 : Int32) (x10 : Int32) (x11 : Int32) (M : Mem), U X G Z cL_reads (some .boolean) (QM X G Z vI) 12 34 [(0, .ref (G.2 + 0)), (1, .ref (G.2 + a1)), (2, .ref (G.2 + a2)), (3, .ref (G.2 + a3)), (4, .ref (G.2 + a4)), (5, .int x5), (6, .ref (G.2 + a6)), (7, .ref (G.2 + a7)), (8, .ref (G.2 + a8)), (9, .int x9), (10, .int x10), (11, .int x11)] [] M (f_L_reads_b34 n a1 a2 a3 a4 x5 a6 a7 a8 x9 x10 x11 M) := by
  intro n
  induction n with
  | zero =>
    intros
    rw [f_L_reads_b34]
    exact U_none
  | succ n ih =>
    intro a1 a2 a3 a4 x5 a6 a7 a8 x9 x10 x11 M
    rw [f_L_reads_b34]
    refine U_iload 11 11 rfl dL_reads_34 ?_
    refine U_iload 9 9 rfl dL_reads_36 ?_
    refine U_icmpgt 198 dL_reads_38 (by decide) (fun _ => ?_) (fun _ => ?_)
    · exact U_sub [0, 1, 8, 9, 10] rfl (f_L_reads_b198_ok hZ a1 a8 x9 x10 M)
    · refine U_iload 10 10 rfl dL_reads_41 ?_
      refine U_ifeq 198 dL_reads_43 (by decide) (fun _ => ?_) (fun _ => ?_)
      · exact U_sub [0, 1, 8, 9, 10] rfl (f_L_reads_b198_ok hZ a1 a8 x9 x10 M)
      · refine U_aload 6 6 rfl dL_reads_46 ?_
        refine U_aload 7 7 rfl dL_reads_48 ?_
        refine U_iload 5 5 rfl dL_reads_50 ?_
        refine U_iconst dL_reads_52 ic_2 ?_
        refine U_iload 11 11 rfl dL_reads_53 ?_
        refine U_imul dL_reads_55 ?_
        refine U_iconst dL_reads_56 ic_3 ?_
        refine U_iadd dL_reads_57 ?_
        refine U_imul dL_reads_58 ?_
        refine U_ldc wkL_49 dL_reads_59 ?_
        refine kL_36 (Nat.lt_of_lt_of_le (Nat.le_of_ble_eq_true rfl : 0 + 1 ≤ 305) hZ) (fun lq rq Mq hh => mc_f_L_low lq (x5 * ((2 * x11) + 3)) 100000000 M rq Mq hh) (fun rq Mq hh => (u_f_L_low (X := (X.1, X.2.1, X.2.2.1, X.2.2.2.1, X.2.2.2.2.1, X.2.2.2.2.2.1, X.2.2.2.2.2.2.1, X.2.2.2.2.2.2.2.1, X.2.2.2.2.2.2.2.2)) (G := G) (Z := (0, Z.2)) (Nat.le_refl _) (x5 * ((2 * x11) + 3)) 100000000 M rq Mq hh).1) (Nat.le_of_ble_eq_true rfl) dL_reads_61 (fun r1 M1 => ?_)
        refine U_iload 11 11 rfl dL_reads_64 ?_
        refine U_iload 9 9 rfl dL_reads_66 ?_
        refine U_icmpge 88 dL_reads_68 (by decide) (fun _ => ?_) (fun _ => ?_)
        · refine U_iload 9 9 rfl dL_reads_88 ?_
          refine U_iconst dL_reads_90 ic_3 ?_
          refine U_icmpge 98 dL_reads_91 (by decide) (fun _ => ?_) (fun _ => ?_)
          · refine U_iconst dL_reads_98 ic_2 ?_
            exact U_sub [0, 1, 2, 3, 4, 5, 6, 7, 8, 9, 11] rfl (f_L_reads_b99_ok hZ (f_L_reads_b34 n) ih a1 a2 a3 a4 x5 a6 a7 a8 x9 x11 2 r1 a7 a6 M1)
          · refine U_iconst dL_reads_94 ic_3 ?_
            refine U_goto 99 dL_reads_95 (by decide) ?_
            exact U_sub [0, 1, 2, 3, 4, 5, 6, 7, 8, 9, 11] rfl (f_L_reads_b99_ok hZ (f_L_reads_b34 n) ih a1 a2 a3 a4 x5 a6 a7 a8 x9 x11 3 r1 a7 a6 M1)
        · refine U_iload 5 5 rfl dL_reads_71 ?_
          refine U_iconst dL_reads_73 ic_4 ?_
          refine U_idiv (by decide) dL_reads_74 ?_
          refine U_iconst dL_reads_75 ic_4 ?_
          refine U_irem (by decide) dL_reads_76 ?_
          refine U_ifne 84 dL_reads_77 (by decide) (fun _ => ?_) (fun _ => ?_)
          · refine U_iconst dL_reads_84 ic_1 ?_
            refine U_goto 99 dL_reads_85 (by decide) ?_
            exact U_sub [0, 1, 2, 3, 4, 5, 6, 7, 8, 9, 11] rfl (f_L_reads_b99_ok hZ (f_L_reads_b34 n) ih a1 a2 a3 a4 x5 a6 a7 a8 x9 x11 1 r1 a7 a6 M1)
          · refine U_iconst dL_reads_80 ic_2 ?_
            refine U_goto 99 dL_reads_81 (by decide) ?_
            exact U_sub [0, 1, 2, 3, 4, 5, 6, 7, 8, 9, 11] rfl (f_L_reads_b99_ok hZ (f_L_reads_b34 n) ih a1 a2 a3 a4 x5 a6 a7 a8 x9 x11 2 r1 a7 a6 M1)
set_option maxRecDepth 100000 in
set_option maxHeartbeats 4000000 in
theorem u_f_L_reads {X : XT} {G : GT} {Z : ZT} (hZ : 305 ≤ Z.1) (a1 : Nat) (a2 : Nat) (a3 : Nat) (a4 : Nat) (x5 : Int32) (M : Mem) : U X G Z cL_reads (some .boolean) (QM X G Z vI) 12 0 [(0, .ref (G.2 + 0)), (1, .ref (G.2 + a1)), (2, .ref (G.2 + a2)), (3, .ref (G.2 + a3)), (4, .ref (G.2 + a4)), (5, .int x5)] [] M (f_L_reads a1 a2 a3 a4 x5 M) := by
  unfold f_L_reads
  refine U_bipush dL_reads_0 bp_16 ?_
  refine U_newa xa_i dL_reads_2 (fun b1 M1 => ?_)
  refine U_astore 6 [(6, .ref (G.2 + b1)), (0, .ref (G.2 + 0)), (1, .ref (G.2 + a1)), (2, .ref (G.2 + a2)), (3, .ref (G.2 + a3)), (4, .ref (G.2 + a4)), (5, .int x5)] (by decide) rfl dL_reads_4 ?_
  refine U_bipush dL_reads_6 bp_16 ?_
  refine U_newa xa_i dL_reads_8 (fun b2 M2 => ?_)
  refine U_astore 7 [(7, .ref (G.2 + b2)), (6, .ref (G.2 + b1)), (0, .ref (G.2 + 0)), (1, .ref (G.2 + a1)), (2, .ref (G.2 + a2)), (3, .ref (G.2 + a3)), (4, .ref (G.2 + a4)), (5, .int x5)] (by decide) rfl dL_reads_10 ?_
  refine U_iconst dL_reads_12 ic_1 ?_
  refine U_newa xa_i dL_reads_13 (fun b3 M3 => ?_)
  refine U_astore 8 [(8, .ref (G.2 + b3)), (7, .ref (G.2 + b2)), (6, .ref (G.2 + b1)), (0, .ref (G.2 + 0)), (1, .ref (G.2 + a1)), (2, .ref (G.2 + a2)), (3, .ref (G.2 + a3)), (4, .ref (G.2 + a4)), (5, .int x5)] (by decide) rfl dL_reads_15 ?_
  refine U_iload 5 8 rfl dL_reads_17 ?_
  refine U_iconst dL_reads_19 ic_4 ?_
  refine U_irem (by decide) dL_reads_20 ?_
  refine U_bi (fun y4 => ?_)
  refine U_istore 9 [(9, .int y4), (8, .ref (G.2 + b3)), (7, .ref (G.2 + b2)), (6, .ref (G.2 + b1)), (0, .ref (G.2 + 0)), (1, .ref (G.2 + a1)), (2, .ref (G.2 + a2)), (3, .ref (G.2 + a3)), (4, .ref (G.2 + a4)), (5, .int x5)] (by decide) rfl dL_reads_21 ?_
  refine U_aload_n 0 rfl 4 rfl dL_reads_23 ?_
  refine kL_45 (Nat.lt_of_lt_of_le (Nat.le_of_ble_eq_true rfl : 0 + 1 ≤ 305) hZ) (fun lq rq Mq hh => mc_f_LP_clearText lq  M3 rq Mq hh) (Nat.le_of_ble_eq_true rfl) dL_reads_24 (fun r5 M5 => ?_)
  refine U_pop rfl dL_reads_27 ?_
  refine U_iconst dL_reads_28 ic_1 ?_
  refine U_istore 10 [(10, .int 1), (9, .int y4), (8, .ref (G.2 + b3)), (7, .ref (G.2 + b2)), (6, .ref (G.2 + b1)), (0, .ref (G.2 + 0)), (1, .ref (G.2 + a1)), (2, .ref (G.2 + a2)), (3, .ref (G.2 + a3)), (4, .ref (G.2 + a4)), (5, .int x5)] (by decide) rfl dL_reads_29 ?_
  refine U_iconst dL_reads_31 ic_0 ?_
  refine U_istore 11 [(11, .int 0), (10, .int 1), (9, .int y4), (8, .ref (G.2 + b3)), (7, .ref (G.2 + b2)), (6, .ref (G.2 + b1)), (0, .ref (G.2 + 0)), (1, .ref (G.2 + a1)), (2, .ref (G.2 + a2)), (3, .ref (G.2 + a3)), (4, .ref (G.2 + a4)), (5, .int x5)] (by decide) rfl dL_reads_32 ?_
  exact U_sub [6, 7, 8, 9, 10, 11, 5, 4, 3, 2, 1, 0] rfl (f_L_reads_b34_ok hZ FU a1 a2 a3 a4 x5 b1 b2 b3 y4 1 0 M5)
theorem mc_f_L_reads {G : GT} (l : Launch) (a1 : Nat) (a2 : Nat) (a3 : Nat) (a4 : Nat) (x5 : Int32) (M : Mem) (r : Int32) (M1 : Mem) (ho : f_L_reads a1 a2 a3 a4 x5 M = some (r, M1)) : MCL l G yL_reads cL_reads 12 (some .boolean) 305 [.ref (G.2 + 0), .ref (G.2 + a1), .ref (G.2 + a2), .ref (G.2 + a3), .ref (G.2 + a4), .int x5] M (vI r) M1 :=
  MCL.ofU (lv := [(0, .ref (G.2 + 0)), (1, .ref (G.2 + a1)), (2, .ref (G.2 + a2)), (3, .ref (G.2 + a3)), (4, .ref (G.2 + a4)), (5, .int x5)]) (by decide +kernel) rfl rfl (Nat.le_of_ble_eq_true rfl) ho (fun X Z hZ => u_f_L_reads (Nat.le_of_eq hZ.symm) a1 a2 a3 a4 x5 M)
