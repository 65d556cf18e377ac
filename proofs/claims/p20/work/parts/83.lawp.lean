/-! the law's body: printed by a program of mine from the bytecode -/
theorem bp_25 : (Int8.ofInt (25)).toInt32 = 25 := by decide +kernel
def f_L_law_b210 (L : Nat) (xs : Nat → Int32) (x7 : Int32) (M : Mem) : Option (Int32 × Mem) :=
  (if x7 = 0 then some (0, M)
  else bk M (f_LP_count 7 M) fun r1 M1 => (if r1 = (-1000001) then bk M1 (f_LP_count (-1) M1) fun r2 M2 => (if r2 = (-1000001) then bk M2 (f_LP_cell (-1) M2) fun r3 M3 => (if r3 = (-1000001) then some (1, M3)
  else some (0, M3))
  else some (0, M2))
  else some (0, M1)))
def f_L_law_b140 (L : Nat) (xs : Nat → Int32) : Nat → Nat → Nat → Nat → Nat → Nat → Int32 → Int32 → Int32 → Mem → Option (Int32 × Mem)
  | 0, _, _, _, _, _, _, _, _, _ => none
  | n + 1, a2, a3, a4, a5, a6, x7, x8, x9, M => (if x8 ≤ x9 then f_L_law_b210 L xs x7 M
  else (if x7 = 0 then f_L_law_b210 L xs x7 M
  else gd (!(decide ((3 + x9) < 0))) (bd (f_L_acts a2 a3 a4 a5 a6 ((scr L xs (3 + x9)) ^^^ (7919 * x9)) M) fun r1 M1 => (if r1 = 0 then bi (x9 + 1) fun y2 => f_L_law_b140 L xs n a2 a3 a4 a5 a6 0 x8 y2 M1
  else bd (f_L_isSo a2 a3 a4 a5 a6 M1) fun r3 M3 => (if r3 = 0 then bi (x9 + 1) fun y4 => f_L_law_b140 L xs n a2 a3 a4 a5 a6 0 x8 y4 M3
  else bi (x9 + 1) fun y5 => f_L_law_b140 L xs n a2 a3 a4 a5 a6 1 x8 y5 M3)))))
def f_L_law_b120 (L : Nat) (xs : Nat → Int32) (a2 : Nat) (a3 : Nat) (a4 : Nat) (a5 : Nat) (a6 : Nat) (t0 : Int32) (M : Mem) : Option (Int32 × Mem) :=
  gd (!(decide (0 < 0))) (bd (f_L_low (scr L xs 0) 25 M) fun r1 M1 => bi (6 + r1) fun y2 => f_L_law_b140 L xs FU a2 a3 a4 a5 a6 t0 y2 0 M1)
def f_L_law_b119 (L : Nat) (xs : Nat → Int32) (a2 : Nat) (a3 : Nat) (a4 : Nat) (a5 : Nat) (a6 : Nat) (M : Mem) : Option (Int32 × Mem) :=
  f_L_law_b120 L xs a2 a3 a4 a5 a6 0 M
def f_L_law (L : Nat) (xs : Nat → Int32) (M : Mem) : Option (Int32 × Mem) :=
  bN M 2 fun b1 M1 => bN M1 8 fun b2 M2 => bN M2 8 fun b3 M3 => bN M3 64 fun b4 M4 => bN M4 64 fun b5 M5 => gd (lx M5 b1 0) (bm (mset M5 b1 (ix 0) 1) fun M6 => gd (lx M6 b1 1) (bm (mset M6 b1 (ix 1) 3) fun M7 => gd (lx M7 b3 0) (bm (mset M7 b3 (ix 0) 1) fun M8 => bd (f_L_isSo b1 b2 b3 b4 b5 M8) fun r9 M9 => (if r9 = 0 then f_L_law_b119 L xs b1 b2 b3 b4 b5 M9
  else gd (!(decide (1 < 0))) (bd (f_L_low (scr L xs 1) 10000000 M9) fun r10 M10 => bd (f_L_reads b1 b3 b4 b5 r10 M10) fun r11 M11 => (if r11 = 0 then f_L_law_b119 L xs b1 b2 b3 b4 b5 M11
  else gd (!(decide (2 < 0))) (bd (f_L_low (scr L xs 2) 10000000 M11) fun r12 M12 => bd (f_L_reads b1 b3 b4 b5 r12 M12) fun r13 M13 => (if r13 = 0 then f_L_law_b119 L xs b1 b2 b3 b4 b5 M13
  else f_L_law_b120 L xs b1 b2 b3 b4 b5 1 M13))))))))
set_option maxRecDepth 100000 in
set_option maxHeartbeats 4000000 in
theorem f_L_law_b210_ok {X : XT} {G : GT} {Z : ZT} (hZ : 307 ≤ Z.1) {b L : Nat} {xs : Nat → Int32} (hSc : ScrOK X G Z b L xs) (x7 : Int32) (M : Mem) : U X G Z cL_law (some .boolean) (QLW X) 10 210 [(1, .ref (G.2 + 0)), (7, .int x7)] [] M (f_L_law_b210 L xs x7 M) := by
  unfold f_L_law_b210
  refine U_iload 7 1 rfl dL_law_210 ?_
  refine U_ifeq 250 dL_law_212 (by decide) (fun _ => ?_) (fun _ => ?_)
  · refine U_iconst dL_law_250 ic_0 ?_
    exact U_lret hSc dL_law_251
  · refine U_aload_n 1 rfl 0 rfl dL_law_215 ?_
    refine U_bipush dL_law_216 bp_7 ?_
    refine kL_58 (Nat.lt_of_lt_of_le (Nat.le_of_ble_eq_true rfl : 3 + 1 ≤ 307) hZ) (fun lq rq Mq hh => mc_f_LP_count lq 7 M rq Mq hh) (Nat.le_of_ble_eq_true rfl) dL_law_218 (fun r1 M1 => ?_)
    refine U_ldc wkL_78 dL_law_221 ?_
    refine U_icmpne 250 dL_law_223 (by decide) (fun _ => ?_) (fun _ => ?_)
    · refine U_iconst dL_law_250 ic_0 ?_
      exact U_lret hSc dL_law_251
    · refine U_aload_n 1 rfl 0 rfl dL_law_226 ?_
      refine U_iconst dL_law_227 ic_m1 ?_
      refine kL_58 (Nat.lt_of_lt_of_le (Nat.le_of_ble_eq_true rfl : 3 + 1 ≤ 307) hZ) (fun lq rq Mq hh => mc_f_LP_count lq (-1) M1 rq Mq hh) (Nat.le_of_ble_eq_true rfl) dL_law_228 (fun r2 M2 => ?_)
      refine U_ldc wkL_78 dL_law_231 ?_
      refine U_icmpne 250 dL_law_233 (by decide) (fun _ => ?_) (fun _ => ?_)
      · refine U_iconst dL_law_250 ic_0 ?_
        exact U_lret hSc dL_law_251
      · refine U_aload_n 1 rfl 0 rfl dL_law_236 ?_
        refine U_iconst dL_law_237 ic_m1 ?_
        refine kL_101 (Nat.lt_of_lt_of_le (Nat.le_of_ble_eq_true rfl : 1 + 1 ≤ 307) hZ) (fun lq rq Mq hh => mc_f_LP_cell lq (-1) M2 rq Mq hh) (Nat.le_of_ble_eq_true rfl) dL_law_238 (fun r3 M3 => ?_)
        refine U_ldc wkL_78 dL_law_241 ?_
        refine U_icmpne 250 dL_law_243 (by decide) (fun _ => ?_) (fun _ => ?_)
        · refine U_iconst dL_law_250 ic_0 ?_
          exact U_lret hSc dL_law_251
        · refine U_iconst dL_law_246 ic_1 ?_
          refine U_goto 251 dL_law_247 (by decide) ?_
          exact U_lret hSc dL_law_251
set_option maxRecDepth 100000 in
set_option maxHeartbeats 4000000 in
theorem f_L_law_b140_ok {X : XT} {G : GT} {Z : ZT} (hZ : 307 ≤ Z.1) {b L : Nat} {xs : Nat → Int32} (hSc : ScrOK X G Z b L xs) : ∀ (n : Nat) (a2 : Nat) (a3 : Nat) (a4 : Nat) (a5 : Nat) (a6 : Nat) (x7 : Int32) (x8 : Int32) (x9 : Int32) (M : Mem), U X G Z cL_law (some .boolean) (QLW X) 10 140 [(0, .ref b), (1, .ref (G.2 + 0)), (2, .ref (G.2 + a2)), (3, .ref (G.2 + a3)), (4, .ref (G.2 + a4)), (5, .ref (G.2 + a5)), (6, .ref (G.2 + a6)), (7, .int x7), (8, .int x8), (9, .int x9)] [] M (f_L_law_b140 L xs n a2 a3 a4 a5 a6 x7 x8 x9 M) := by
  intro n
  induction n with
  | zero =>
    intros
    rw [f_L_law_b140]
    exact U_none
  | succ n ih =>
    intro a2 a3 a4 a5 a6 x7 x8 x9 M
    rw [f_L_law_b140]
    refine U_iload 9 9 rfl dL_law_140 ?_
    refine U_iload 8 8 rfl dL_law_142 ?_
    refine U_icmpge 210 dL_law_144 (by decide) (fun _ => ?_) (fun _ => ?_)
    · exact U_sub [1, 7] rfl (f_L_law_b210_ok hZ hSc x7 M)
    · refine U_iload 7 7 rfl dL_law_147 ?_
      refine U_ifeq 210 dL_law_149 (by decide) (fun _ => ?_) (fun _ => ?_)
      · exact U_sub [1, 7] rfl (f_L_law_b210_ok hZ hSc x7 M)
      · refine U_aload_n 1 rfl 1 rfl dL_law_152 ?_
        refine U_aload_n 2 rfl 2 rfl dL_law_153 ?_
        refine U_aload_n 3 rfl 3 rfl dL_law_154 ?_
        refine U_aload 4 4 rfl dL_law_155 ?_
        refine U_aload 5 5 rfl dL_law_157 ?_
        refine U_aload 6 6 rfl dL_law_159 ?_
        refine U_aload_n 0 rfl 0 rfl dL_law_161 ?_
        refine U_iconst dL_law_162 ic_3 ?_
        refine U_iload 9 9 rfl dL_law_163 ?_
        refine U_iadd dL_law_165 ?_
        refine U_cell hSc (Nat.le_trans (Nat.le_of_ble_eq_true rfl) hZ) (Nat.le_of_ble_eq_true rfl) dL_law_166 ?_
        refine U_sipush dL_law_169 sp_7919 ?_
        refine U_iload 9 9 rfl dL_law_172 ?_
        refine U_imul dL_law_174 ?_
        refine U_ixor dL_law_175 ?_
        refine kL_112 (Nat.lt_of_lt_of_le (Nat.le_of_ble_eq_true rfl : 306 + 1 ≤ 307) hZ) (fun lq rq Mq hh => mc_f_L_acts lq a2 a3 a4 a5 a6 ((scr L xs (3 + x9)) ^^^ (7919 * x9)) M rq Mq hh) (fun rq Mq hh => (u_f_L_acts (X := (X.1, X.2.1, X.2.2.1, X.2.2.2.1, X.2.2.2.2.1, X.2.2.2.2.2.1, X.2.2.2.2.2.2.1, X.2.2.2.2.2.2.2.1, X.2.2.2.2.2.2.2.2)) (G := G) (Z := (306, Z.2)) (Nat.le_refl _) a2 a3 a4 a5 a6 ((scr L xs (3 + x9)) ^^^ (7919 * x9)) M rq Mq hh).1) (Nat.le_of_ble_eq_true rfl) dL_law_176 (fun r1 M1 => ?_)
        refine U_ifeq 201 dL_law_179 (by decide) (fun _ => ?_) (fun _ => ?_)
        · refine U_iconst dL_law_201 ic_0 ?_
          refine U_istore 7 [(7, .int 0), (0, .ref b), (1, .ref (G.2 + 0)), (2, .ref (G.2 + a2)), (3, .ref (G.2 + a3)), (4, .ref (G.2 + a4)), (5, .ref (G.2 + a5)), (6, .ref (G.2 + a6)), (8, .int x8), (9, .int x9)] (by decide) rfl dL_law_202 ?_
          refine U_iincB 9 9 (fun y2 => [(9, .int y2), (7, .int 0), (0, .ref b), (1, .ref (G.2 + 0)), (2, .ref (G.2 + a2)), (3, .ref (G.2 + a3)), (4, .ref (G.2 + a4)), (5, .ref (G.2 + a5)), (6, .ref (G.2 + a6)), (8, .int x8)]) rfl ic_1 (by decide) (fun _ => rfl) dL_law_204 (fun y2 => ?_)
          refine U_goto 140 dL_law_207 (by decide) ?_
          exact U_sub [2, 3, 4, 5, 6, 7, 8, 1, 9, 0] rfl (ih a2 a3 a4 a5 a6 0 x8 y2 M1)
        · refine U_aload_n 1 rfl 1 rfl dL_law_182 ?_
          refine U_aload_n 2 rfl 2 rfl dL_law_183 ?_
          refine U_aload_n 3 rfl 3 rfl dL_law_184 ?_
          refine U_aload 4 4 rfl dL_law_185 ?_
          refine U_aload 5 5 rfl dL_law_187 ?_
          refine U_aload 6 6 rfl dL_law_189 ?_
          refine kL_105 (Nat.lt_of_lt_of_le (Nat.le_of_ble_eq_true rfl : 7 + 1 ≤ 307) hZ) (fun lq rq Mq hh => mc_f_L_isSo lq a2 a3 a4 a5 a6 M1 rq Mq hh) (fun rq Mq hh => (u_f_L_isSo (X := (X.1, X.2.1, X.2.2.1, X.2.2.2.1, X.2.2.2.2.1, X.2.2.2.2.2.1, X.2.2.2.2.2.2.1, X.2.2.2.2.2.2.2.1, X.2.2.2.2.2.2.2.2)) (G := G) (Z := (7, Z.2)) (Nat.le_refl _) a2 a3 a4 a5 a6 M1 rq Mq hh).1) (Nat.le_of_ble_eq_true rfl) dL_law_191 (fun r3 M3 => ?_)
          refine U_ifeq 201 dL_law_194 (by decide) (fun _ => ?_) (fun _ => ?_)
          · refine U_iconst dL_law_201 ic_0 ?_
            refine U_istore 7 [(7, .int 0), (0, .ref b), (1, .ref (G.2 + 0)), (2, .ref (G.2 + a2)), (3, .ref (G.2 + a3)), (4, .ref (G.2 + a4)), (5, .ref (G.2 + a5)), (6, .ref (G.2 + a6)), (8, .int x8), (9, .int x9)] (by decide) rfl dL_law_202 ?_
            refine U_iincB 9 9 (fun y4 => [(9, .int y4), (7, .int 0), (0, .ref b), (1, .ref (G.2 + 0)), (2, .ref (G.2 + a2)), (3, .ref (G.2 + a3)), (4, .ref (G.2 + a4)), (5, .ref (G.2 + a5)), (6, .ref (G.2 + a6)), (8, .int x8)]) rfl ic_1 (by decide) (fun _ => rfl) dL_law_204 (fun y4 => ?_)
            refine U_goto 140 dL_law_207 (by decide) ?_
            exact U_sub [2, 3, 4, 5, 6, 7, 8, 1, 9, 0] rfl (ih a2 a3 a4 a5 a6 0 x8 y4 M3)
          · refine U_iconst dL_law_197 ic_1 ?_
            refine U_goto 202 dL_law_198 (by decide) ?_
            refine U_istore 7 [(7, .int 1), (0, .ref b), (1, .ref (G.2 + 0)), (2, .ref (G.2 + a2)), (3, .ref (G.2 + a3)), (4, .ref (G.2 + a4)), (5, .ref (G.2 + a5)), (6, .ref (G.2 + a6)), (8, .int x8), (9, .int x9)] (by decide) rfl dL_law_202 ?_
            refine U_iincB 9 9 (fun y5 => [(9, .int y5), (7, .int 1), (0, .ref b), (1, .ref (G.2 + 0)), (2, .ref (G.2 + a2)), (3, .ref (G.2 + a3)), (4, .ref (G.2 + a4)), (5, .ref (G.2 + a5)), (6, .ref (G.2 + a6)), (8, .int x8)]) rfl ic_1 (by decide) (fun _ => rfl) dL_law_204 (fun y5 => ?_)
            refine U_goto 140 dL_law_207 (by decide) ?_
            exact U_sub [2, 3, 4, 5, 6, 7, 8, 1, 9, 0] rfl (ih a2 a3 a4 a5 a6 1 x8 y5 M3)
set_option maxRecDepth 100000 in
set_option maxHeartbeats 4000000 in
theorem f_L_law_b120_ok {X : XT} {G : GT} {Z : ZT} (hZ : 307 ≤ Z.1) {b L : Nat} {xs : Nat → Int32} (hSc : ScrOK X G Z b L xs) (a2 : Nat) (a3 : Nat) (a4 : Nat) (a5 : Nat) (a6 : Nat) (t0 : Int32) (M : Mem) : U X G Z cL_law (some .boolean) (QLW X) 10 120 [(0, .ref b), (1, .ref (G.2 + 0)), (2, .ref (G.2 + a2)), (3, .ref (G.2 + a3)), (4, .ref (G.2 + a4)), (5, .ref (G.2 + a5)), (6, .ref (G.2 + a6))] [.int t0] M (f_L_law_b120 L xs a2 a3 a4 a5 a6 t0 M) := by
  unfold f_L_law_b120
  refine U_istore 7 [(7, .int t0), (0, .ref b), (1, .ref (G.2 + 0)), (2, .ref (G.2 + a2)), (3, .ref (G.2 + a3)), (4, .ref (G.2 + a4)), (5, .ref (G.2 + a5)), (6, .ref (G.2 + a6))] (by decide) rfl dL_law_120 ?_
  refine U_bipush dL_law_122 bp_6 ?_
  refine U_aload_n 0 rfl 1 rfl dL_law_124 ?_
  refine U_iconst dL_law_125 ic_0 ?_
  refine U_cell hSc (Nat.le_trans (Nat.le_of_ble_eq_true rfl) hZ) (Nat.le_of_ble_eq_true rfl) dL_law_126 ?_
  refine U_bipush dL_law_129 bp_25 ?_
  refine kL_36 (Nat.lt_of_lt_of_le (Nat.le_of_ble_eq_true rfl : 0 + 1 ≤ 307) hZ) (fun lq rq Mq hh => mc_f_L_low lq (scr L xs 0) 25 M rq Mq hh) (fun rq Mq hh => (u_f_L_low (X := (X.1, X.2.1, X.2.2.1, X.2.2.2.1, X.2.2.2.2.1, X.2.2.2.2.2.1, X.2.2.2.2.2.2.1, X.2.2.2.2.2.2.2.1, X.2.2.2.2.2.2.2.2)) (G := G) (Z := (0, Z.2)) (Nat.le_refl _) (scr L xs 0) 25 M rq Mq hh).1) (Nat.le_of_ble_eq_true rfl) dL_law_131 (fun r1 M1 => ?_)
  refine U_iadd dL_law_134 ?_
  refine U_bi (fun y2 => ?_)
  refine U_istore 8 [(8, .int y2), (7, .int t0), (0, .ref b), (1, .ref (G.2 + 0)), (2, .ref (G.2 + a2)), (3, .ref (G.2 + a3)), (4, .ref (G.2 + a4)), (5, .ref (G.2 + a5)), (6, .ref (G.2 + a6))] (by decide) rfl dL_law_135 ?_
  refine U_iconst dL_law_137 ic_0 ?_
  refine U_istore 9 [(9, .int 0), (8, .int y2), (7, .int t0), (0, .ref b), (1, .ref (G.2 + 0)), (2, .ref (G.2 + a2)), (3, .ref (G.2 + a3)), (4, .ref (G.2 + a4)), (5, .ref (G.2 + a5)), (6, .ref (G.2 + a6))] (by decide) rfl dL_law_138 ?_
  exact U_sub [3, 4, 5, 6, 7, 8, 9, 2, 1, 0] rfl (f_L_law_b140_ok hZ hSc FU a2 a3 a4 a5 a6 t0 y2 0 M1)
set_option maxRecDepth 100000 in
set_option maxHeartbeats 4000000 in
theorem f_L_law_b119_ok {X : XT} {G : GT} {Z : ZT} (hZ : 307 ≤ Z.1) {b L : Nat} {xs : Nat → Int32} (hSc : ScrOK X G Z b L xs) (a2 : Nat) (a3 : Nat) (a4 : Nat) (a5 : Nat) (a6 : Nat) (M : Mem) : U X G Z cL_law (some .boolean) (QLW X) 10 119 [(0, .ref b), (1, .ref (G.2 + 0)), (2, .ref (G.2 + a2)), (3, .ref (G.2 + a3)), (4, .ref (G.2 + a4)), (5, .ref (G.2 + a5)), (6, .ref (G.2 + a6))] [] M (f_L_law_b119 L xs a2 a3 a4 a5 a6 M) := by
  unfold f_L_law_b119
  refine U_iconst dL_law_119 ic_0 ?_
  exact U_sub [0, 1, 2, 3, 4, 5, 6] rfl (f_L_law_b120_ok hZ hSc a2 a3 a4 a5 a6 0 M)
set_option maxRecDepth 100000 in
set_option maxHeartbeats 4000000 in
theorem u_f_L_law {X : XT} {G : GT} {Z : ZT} (hZ : 307 ≤ Z.1) {b L : Nat} {xs : Nat → Int32} (hSc : ScrOK X G Z b L xs) (M : Mem) : U X G Z cL_law (some .boolean) (QLW X) 10 8 [(1, .ref (G.2 + 0)), (0, .ref b)] [] M (f_L_law L xs M) := by
  unfold f_L_law
  refine U_iconst dL_law_8 ic_2 ?_
  refine U_newa xa_i dL_law_9 (fun b1 M1 => ?_)
  refine U_astore_n 2 [(2, .ref (G.2 + b1)), (1, .ref (G.2 + 0)), (0, .ref b)] rfl (by decide) rfl dL_law_11 ?_
  refine U_bipush dL_law_12 bp_8 ?_
  refine U_newa xa_i dL_law_14 (fun b2 M2 => ?_)
  refine U_astore_n 3 [(3, .ref (G.2 + b2)), (2, .ref (G.2 + b1)), (1, .ref (G.2 + 0)), (0, .ref b)] rfl (by decide) rfl dL_law_16 ?_
  refine U_bipush dL_law_17 bp_8 ?_
  refine U_newa xa_i dL_law_19 (fun b3 M3 => ?_)
  refine U_astore 4 [(4, .ref (G.2 + b3)), (3, .ref (G.2 + b2)), (2, .ref (G.2 + b1)), (1, .ref (G.2 + 0)), (0, .ref b)] (by decide) rfl dL_law_21 ?_
  refine U_bipush dL_law_23 bp_64 ?_
  refine U_newa xa_i dL_law_25 (fun b4 M4 => ?_)
  refine U_astore 5 [(5, .ref (G.2 + b4)), (4, .ref (G.2 + b3)), (3, .ref (G.2 + b2)), (2, .ref (G.2 + b1)), (1, .ref (G.2 + 0)), (0, .ref b)] (by decide) rfl dL_law_27 ?_
  refine U_bipush dL_law_29 bp_64 ?_
  refine U_newa xa_i dL_law_31 (fun b5 M5 => ?_)
  refine U_astore 6 [(6, .ref (G.2 + b5)), (5, .ref (G.2 + b4)), (4, .ref (G.2 + b3)), (3, .ref (G.2 + b2)), (2, .ref (G.2 + b1)), (1, .ref (G.2 + 0)), (0, .ref b)] (by decide) rfl dL_law_33 ?_
  refine U_aload_n 2 rfl 4 rfl dL_law_35 ?_
  refine U_iconst dL_law_36 ic_0 ?_
  refine U_iconst dL_law_37 ic_1 ?_
  refine U_iast dL_law_38 (fun M6 => ?_)
  refine U_aload_n 2 rfl 4 rfl dL_law_39 ?_
  refine U_iconst dL_law_40 ic_1 ?_
  refine U_iconst dL_law_41 ic_3 ?_
  refine U_iast dL_law_42 (fun M7 => ?_)
  refine U_aload 4 2 rfl dL_law_43 ?_
  refine U_iconst dL_law_45 ic_0 ?_
  refine U_iconst dL_law_46 ic_1 ?_
  refine U_iast dL_law_47 (fun M8 => ?_)
  refine U_aload_n 1 rfl 5 rfl dL_law_48 ?_
  refine U_aload_n 2 rfl 4 rfl dL_law_49 ?_
  refine U_aload_n 3 rfl 3 rfl dL_law_50 ?_
  refine U_aload 4 2 rfl dL_law_51 ?_
  refine U_aload 5 1 rfl dL_law_53 ?_
  refine U_aload 6 0 rfl dL_law_55 ?_
  refine kL_105 (Nat.lt_of_lt_of_le (Nat.le_of_ble_eq_true rfl : 7 + 1 ≤ 307) hZ) (fun lq rq Mq hh => mc_f_L_isSo lq b1 b2 b3 b4 b5 M8 rq Mq hh) (fun rq Mq hh => (u_f_L_isSo (X := (X.1, X.2.1, X.2.2.1, X.2.2.2.1, X.2.2.2.2.1, X.2.2.2.2.2.1, X.2.2.2.2.2.2.1, X.2.2.2.2.2.2.2.1, X.2.2.2.2.2.2.2.2)) (G := G) (Z := (7, Z.2)) (Nat.le_refl _) b1 b2 b3 b4 b5 M8 rq Mq hh).1) (Nat.le_of_ble_eq_true rfl) dL_law_57 (fun r9 M9 => ?_)
  refine U_istore 7 [(7, .int r9), (6, .ref (G.2 + b5)), (5, .ref (G.2 + b4)), (4, .ref (G.2 + b3)), (3, .ref (G.2 + b2)), (2, .ref (G.2 + b1)), (1, .ref (G.2 + 0)), (0, .ref b)] (by decide) rfl dL_law_60 ?_
  refine U_iload 7 0 rfl dL_law_62 ?_
  refine U_ifeq 119 dL_law_64 (by decide) (fun _ => ?_) (fun _ => ?_)
  · exact U_sub [7, 6, 5, 4, 3, 2, 1] rfl (f_L_law_b119_ok hZ hSc b1 b2 b3 b4 b5 M9)
  · refine U_aload_n 1 rfl 6 rfl dL_law_67 ?_
    refine U_aload_n 2 rfl 5 rfl dL_law_68 ?_
    refine U_aload 4 3 rfl dL_law_69 ?_
    refine U_aload 5 2 rfl dL_law_71 ?_
    refine U_aload 6 1 rfl dL_law_73 ?_
    refine U_aload_n 0 rfl 7 rfl dL_law_75 ?_
    refine U_iconst dL_law_76 ic_1 ?_
    refine U_cell hSc (Nat.le_trans (Nat.le_of_ble_eq_true rfl) hZ) (Nat.le_of_ble_eq_true rfl) dL_law_77 ?_
    refine U_ldc wkL_64 dL_law_80 ?_
    refine kL_36 (Nat.lt_of_lt_of_le (Nat.le_of_ble_eq_true rfl : 0 + 1 ≤ 307) hZ) (fun lq rq Mq hh => mc_f_L_low lq (scr L xs 1) 10000000 M9 rq Mq hh) (fun rq Mq hh => (u_f_L_low (X := (X.1, X.2.1, X.2.2.1, X.2.2.2.1, X.2.2.2.2.1, X.2.2.2.2.2.1, X.2.2.2.2.2.2.1, X.2.2.2.2.2.2.2.1, X.2.2.2.2.2.2.2.2)) (G := G) (Z := (0, Z.2)) (Nat.le_refl _) (scr L xs 1) 10000000 M9 rq Mq hh).1) (Nat.le_of_ble_eq_true rfl) dL_law_82 (fun r10 M10 => ?_)
    refine kL_65 (Nat.lt_of_lt_of_le (Nat.le_of_ble_eq_true rfl : 305 + 1 ≤ 307) hZ) (fun lq rq Mq hh => mc_f_L_reads lq b1 b3 b4 b5 r10 M10 rq Mq hh) (fun rq Mq hh => (u_f_L_reads (X := (X.1, X.2.1, X.2.2.1, X.2.2.2.1, X.2.2.2.2.1, X.2.2.2.2.2.1, X.2.2.2.2.2.2.1, X.2.2.2.2.2.2.2.1, X.2.2.2.2.2.2.2.2)) (G := G) (Z := (305, Z.2)) (Nat.le_refl _) b1 b3 b4 b5 r10 M10 rq Mq hh).1) (Nat.le_of_ble_eq_true rfl) dL_law_85 (fun r11 M11 => ?_)
    refine U_ifeq 119 dL_law_88 (by decide) (fun _ => ?_) (fun _ => ?_)
    · exact U_sub [7, 6, 5, 4, 3, 2, 1] rfl (f_L_law_b119_ok hZ hSc b1 b2 b3 b4 b5 M11)
    · refine U_aload_n 1 rfl 6 rfl dL_law_91 ?_
      refine U_aload_n 2 rfl 5 rfl dL_law_92 ?_
      refine U_aload 4 3 rfl dL_law_93 ?_
      refine U_aload 5 2 rfl dL_law_95 ?_
      refine U_aload 6 1 rfl dL_law_97 ?_
      refine U_aload_n 0 rfl 7 rfl dL_law_99 ?_
      refine U_iconst dL_law_100 ic_2 ?_
      refine U_cell hSc (Nat.le_trans (Nat.le_of_ble_eq_true rfl) hZ) (Nat.le_of_ble_eq_true rfl) dL_law_101 ?_
      refine U_ldc wkL_64 dL_law_104 ?_
      refine kL_36 (Nat.lt_of_lt_of_le (Nat.le_of_ble_eq_true rfl : 0 + 1 ≤ 307) hZ) (fun lq rq Mq hh => mc_f_L_low lq (scr L xs 2) 10000000 M11 rq Mq hh) (fun rq Mq hh => (u_f_L_low (X := (X.1, X.2.1, X.2.2.1, X.2.2.2.1, X.2.2.2.2.1, X.2.2.2.2.2.1, X.2.2.2.2.2.2.1, X.2.2.2.2.2.2.2.1, X.2.2.2.2.2.2.2.2)) (G := G) (Z := (0, Z.2)) (Nat.le_refl _) (scr L xs 2) 10000000 M11 rq Mq hh).1) (Nat.le_of_ble_eq_true rfl) dL_law_106 (fun r12 M12 => ?_)
      refine kL_65 (Nat.lt_of_lt_of_le (Nat.le_of_ble_eq_true rfl : 305 + 1 ≤ 307) hZ) (fun lq rq Mq hh => mc_f_L_reads lq b1 b3 b4 b5 r12 M12 rq Mq hh) (fun rq Mq hh => (u_f_L_reads (X := (X.1, X.2.1, X.2.2.1, X.2.2.2.1, X.2.2.2.2.1, X.2.2.2.2.2.1, X.2.2.2.2.2.2.1, X.2.2.2.2.2.2.2.1, X.2.2.2.2.2.2.2.2)) (G := G) (Z := (305, Z.2)) (Nat.le_refl _) b1 b3 b4 b5 r12 M12 rq Mq hh).1) (Nat.le_of_ble_eq_true rfl) dL_law_109 (fun r13 M13 => ?_)
      refine U_ifeq 119 dL_law_112 (by decide) (fun _ => ?_) (fun _ => ?_)
      · exact U_sub [7, 6, 5, 4, 3, 2, 1] rfl (f_L_law_b119_ok hZ hSc b1 b2 b3 b4 b5 M13)
      · refine U_iconst dL_law_115 ic_1 ?_
        refine U_goto 120 dL_law_116 (by decide) ?_
        exact U_sub [7, 6, 5, 4, 3, 2, 1] rfl (f_L_law_b120_ok hZ hSc b1 b2 b3 b4 b5 1 M13)
