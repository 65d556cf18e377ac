/-! the pure functions of the methods: printed by a program of mine from the bytecode -/
/-! the numbers of the code; how far a loop may run -/
def FU : Nat := 4096
theorem bp_6 : (Int8.ofInt (6)).toInt32 = 6 := by decide +kernel
theorem bp_7 : (Int8.ofInt (7)).toInt32 = 7 := by decide +kernel
theorem bp_8 : (Int8.ofInt (8)).toInt32 = 8 := by decide +kernel
theorem bp_9 : (Int8.ofInt (9)).toInt32 = 9 := by decide +kernel
theorem bp_10 : (Int8.ofInt (10)).toInt32 = 10 := by decide +kernel
theorem bp_12 : (Int8.ofInt (12)).toInt32 = 12 := by decide +kernel
theorem bp_15 : (Int8.ofInt (15)).toInt32 = 15 := by decide +kernel
theorem bp_16 : (Int8.ofInt (16)).toInt32 = 16 := by decide +kernel
theorem bp_30 : (Int8.ofInt (30)).toInt32 = 30 := by decide +kernel
theorem bp_33 : (Int8.ofInt (33)).toInt32 = 33 := by decide +kernel
theorem bp_40 : (Int8.ofInt (40)).toInt32 = 40 := by decide +kernel
theorem bp_41 : (Int8.ofInt (41)).toInt32 = 41 := by decide +kernel
theorem bp_42 : (Int8.ofInt (42)).toInt32 = 42 := by decide +kernel
theorem bp_43 : (Int8.ofInt (43)).toInt32 = 43 := by decide +kernel
theorem bp_45 : (Int8.ofInt (45)).toInt32 = 45 := by decide +kernel
theorem bp_48 : (Int8.ofInt (48)).toInt32 = 48 := by decide +kernel
theorem bp_57 : (Int8.ofInt (57)).toInt32 = 57 := by decide +kernel
theorem bp_59 : (Int8.ofInt (59)).toInt32 = 59 := by decide +kernel
theorem bp_60 : (Int8.ofInt (60)).toInt32 = 60 := by decide +kernel
theorem bp_61 : (Int8.ofInt (61)).toInt32 = 61 := by decide +kernel
theorem bp_64 : (Int8.ofInt (64)).toInt32 = 64 := by decide +kernel
theorem bp_65 : (Int8.ofInt (65)).toInt32 = 65 := by decide +kernel
theorem bp_97 : (Int8.ofInt (97)).toInt32 = 97 := by decide +kernel
theorem bp_99 : (Int8.ofInt (99)).toInt32 = 99 := by decide +kernel
theorem bp_100 : (Int8.ofInt (100)).toInt32 = 100 := by decide +kernel
theorem bp_105 : (Int8.ofInt (105)).toInt32 = 105 := by decide +kernel
theorem ic_m1 : Int32.ofInt (-1) = (-1) := by decide +kernel
theorem ic_0 : Int32.ofInt (0) = 0 := by decide +kernel
theorem ic_1 : Int32.ofInt (1) = 1 := by decide +kernel
theorem ic_2 : Int32.ofInt (2) = 2 := by decide +kernel
theorem ic_3 : Int32.ofInt (3) = 3 := by decide +kernel
theorem ic_4 : Int32.ofInt (4) = 4 := by decide +kernel
theorem ic_5 : Int32.ofInt (5) = 5 := by decide +kernel
theorem sp_m1000 : (Int16.ofInt (-1000)).toInt32 = (-1000) := by decide +kernel
theorem sp_m999 : (Int16.ofInt (-999)).toInt32 = (-999) := by decide +kernel
theorem sp_141 : (Int16.ofInt (141)).toInt32 = 141 := by decide +kernel
theorem sp_255 : (Int16.ofInt (255)).toInt32 = 255 := by decide +kernel
theorem sp_999 : (Int16.ofInt (999)).toInt32 = 999 := by decide +kernel
theorem sp_1999 : (Int16.ofInt (1999)).toInt32 = 1999 := by decide +kernel
theorem sp_7919 : (Int16.ofInt (7919)).toInt32 = 7919 := by decide +kernel
def f_Expanded_entry (a0 : Nat) (x1 : Int32) (M : Mem) : Option (Int32 × Mem) :=
  (if x1 < 0 then some (0, M)
  else (if (nI (ln a0)) ≤ x1 then some (0, M)
  else gd (inb x1 (ln a0)) (some ((M.1 a0 (ix x1)), M))))
def f_Expanded_depthOf (a0 : Nat) (x1 : Int32) (M : Mem) : Option (Int32 × Mem) :=
  bd (f_Expanded_entry (a0 + 6) x1 M) fun r1 M1 => some (r1, M1)
def f_Form_has (a0 : Nat) (x1 : Int32) (M : Mem) : Option (Int32 × Mem) :=
  (if x1 < 0 then gd (isB 0) (some (0, M))
  else (if (M.1 a0 2) ≤ x1 then gd (isB 0) (some (0, M))
  else (if (nI (ln (a0 + 1))) ≤ x1 then gd (isB 0) (some (0, M))
  else (if (nI (ln (a0 + 2))) ≤ x1 then gd (isB 0) (some (0, M))
  else gd (isB 1) (some (1, M))))))
def f_Form_kindOf (a0 : Nat) (x1 : Int32) (M : Mem) : Option (Int32 × Mem) :=
  bd (f_Form_has a0 x1 M) fun r1 M1 => (if r1 = 0 then some (0, M1)
  else gd (inb x1 (ln (a0 + 1))) (some ((M1.1 (a0 + 1) (ix x1)), M1)))
def f_Form_contentOf (a0 : Nat) (x1 : Int32) (M : Mem) : Option (Int32 × Mem) :=
  bd (f_Form_has a0 x1 M) fun r1 M1 => (if r1 = 0 then some (0, M1)
  else gd (inb x1 (ln (a0 + 2))) (some ((M1.1 (a0 + 2) (ix x1)), M1)))
def f_Expanded_valueOf (a0 : Nat) (x1 : Int32) (M : Mem) : Option (Int32 × Mem) :=
  bd (f_Expanded_entry (a0 + 7) x1 M) fun r1 M1 => some (r1, M1)
def f_Expanded_leafValue (a0 : Nat) (x1 : Int32) (a2 : Nat) (M : Mem) : Option (Int32 × Mem) :=
  bd (f_Form_kindOf (a0 + 1) x1 M) fun r1 M1 => bd (f_Form_contentOf (a0 + 1) x1 M1) fun r2 M2 => (if r1 = 1 then bd (f_Expanded_entry a2 r2 M2) fun r5 M5 => some (r5, M5)
  else (if r1 = 2 then (if r2 < 0 then some (0, M2)
  else (if 6 ≤ r2 then some (0, M2)
  else gd (inb r2 6) (bd (f_Expanded_valueOf (160 + 8 * ix r2) 0 M2) fun r4 M4 => some (r4, M4))))
  else some (r2, M2)))
def f_Form_isFull (a0 : Nat) (M : Mem) : Option (Int32 × Mem) :=
  (if (nI (ln (a0 + 1))) ≤ (M.1 a0 2) then gd (isB 1) (some (1, M))
  else (if (M.1 a0 2) < (nI (ln (a0 + 2))) then gd (isB 0) (some (0, M))
  else gd (isB 1) (some (1, M))))
def f_Form_add (a0 : Nat) (x1 : Int32) (x2 : Int32) (M : Mem) : Option (Int32 × Mem) :=
  bd (f_Form_isFull a0 M) fun r1 M1 => (if r1 = 0 then gd (inb (M1.1 a0 2) (ln (a0 + 1))) (bm (mset M1 (a0 + 1) (ix (M1.1 a0 2)) x1) fun M2 => gd (inb (M2.1 a0 2) (ln (a0 + 2))) (bm (mset M2 (a0 + 2) (ix (M2.1 a0 2)) x2) fun M3 => bm (mset M3 a0 2 ((M3.1 a0 2) + 1)) fun M4 => gd (isB 1) (some (1, M4))))
  else gd (isB 0) (some (0, M1)))
def f_Form_addAll_b7 : Nat → Nat → Nat → Int32 → Int32 → Mem → Option (Unit × Mem)
  | 0, _, _, _, _, _ => none
  | n + 1, a0, a1, x2, x3, M => (if x2 ≤ x3 then some ((), M)
  else bd (f_Form_kindOf a1 x3 M) fun r1 M1 => bd (f_Form_contentOf a1 x3 M1) fun r2 M2 => bd (f_Form_add a0 r1 r2 M2) fun r3 M3 => bi (x3 + 1) fun y4 => f_Form_addAll_b7 n a0 a1 x2 y4 M3)
def f_Form_addAll (a0 : Nat) (a1 : Nat) (M : Mem) : Option (Unit × Mem) :=
  bi (M.1 a1 2) fun y1 => f_Form_addAll_b7 FU a0 a1 y1 0 M
def f_Form_hasKind_b2 : Nat → Nat → Int32 → Int32 → Mem → Option (Int32 × Mem)
  | 0, _, _, _, _ => none
  | n + 1, a0, x1, x2, M => (if (M.1 a0 2) ≤ x2 then gd (isB 0) (some (0, M))
  else bd (f_Form_kindOf a0 x2 M) fun r1 M1 => (if r1 = x1 then gd (isB 1) (some (1, M1))
  else bi (x2 + 1) fun y2 => f_Form_hasKind_b2 n a0 x1 y2 M1))
def f_Form_hasKind (a0 : Nat) (x1 : Int32) (M : Mem) : Option (Int32 × Mem) :=
  f_Form_hasKind_b2 FU a0 x1 0 M
def f_Expanded_make_b98 (k11 : Nat → Nat → Int32 → Int32 → Mem → Option (Unit × Mem)) (a0 : Nat) (a1 : Nat) (x2 : Int32) (x4 : Int32) (x5 : Int32) (M : Mem) : Option (Unit × Mem) :=
  bd (f_Form_kindOf a1 x4 M) fun r1 M1 => bd (f_Form_add (a0 + 1) r1 x5 M1) fun r2 M2 => bi (x4 + 1) fun y3 => k11 a0 a1 x2 y3 M2
def f_Expanded_make_b43 (k11 : Nat → Nat → Int32 → Int32 → Mem → Option (Unit × Mem)) (a0 : Nat) (a1 : Nat) (x2 : Int32) (x4 : Int32) (x5 : Int32) (t0 : Int32) (M : Mem) : Option (Unit × Mem) :=
  (if t0 = 0 then f_Expanded_make_b98 k11 a0 a1 x2 x4 x5 M
  else (if x5 < 0 then f_Expanded_make_b98 k11 a0 a1 x2 x4 x5 M
  else (if (M.1 a0 0) ≤ x5 then f_Expanded_make_b98 k11 a0 a1 x2 x4 x5 M
  else (if 6 ≤ x5 then f_Expanded_make_b98 k11 a0 a1 x2 x4 x5 M
  else gd (inb x5 6) ((if (M.1 (160 + 8 * ix x5) 2) = 0 then f_Expanded_make_b98 k11 a0 a1 x2 x4 x5 M
  else gd (inb x5 6) (bd (f_Form_addAll (a0 + 1) ((160 + 8 * ix x5) + 1) M) fun _ M3 => bi (x4 + 1) fun y4 => k11 a0 a1 x2 y4 M3)))))))
def f_Expanded_make_b11 : Nat → Nat → Nat → Int32 → Int32 → Mem → Option (Unit × Mem)
  | 0, _, _, _, _, _ => none
  | n + 1, a0, a1, x2, x4, M => (if (M.1 a1 2) ≤ x4 then (if x2 = 0 then gd (isB 0) (bm (mset M a0 2 0) fun M1 => some ((), M1))
  else (if 3 < (M.1 (a0 + 1) 2) then gd (isB 0) (bm (mset M a0 2 0) fun M2 => some ((), M2))
  else bd (f_Form_hasKind (a0 + 1) 6 M) fun r3 M3 => (if r3 = 0 then bd (f_Form_hasKind (a0 + 1) 2 M3) fun r5 M5 => (if r5 = 0 then gd (isB 1) (bm (mset M5 a0 2 1) fun M7 => some ((), M7))
  else gd (isB 0) (bm (mset M5 a0 2 0) fun M6 => some ((), M6)))
  else gd (isB 0) (bm (mset M3 a0 2 0) fun M4 => some ((), M4)))))
  else bd (f_Form_contentOf a1 x4 M) fun r8 M8 => bd (f_Form_kindOf a1 x4 M8) fun r9 M9 => (if r9 = 2 then f_Expanded_make_b43 (f_Expanded_make_b11 n) a0 a1 x2 x4 r8 1 M9
  else f_Expanded_make_b43 (f_Expanded_make_b11 n) a0 a1 x2 x4 r8 0 M9))
def f_Expanded_make (a0 : Nat) (a1 : Nat) (x2 : Int32) (M : Mem) : Option (Unit × Mem) :=
  bm (mset M (a0 + 1) 2 0) fun M1 => f_Expanded_make_b11 FU a0 a1 x2 0 M1
def f_LP_partsOf (x0 : Int32) (M : Mem) : Option (Int32 × Mem) :=
  (if 3 ≤ x0 then (if x0 = 3 then some (1, M)
  else some (2, M))
  else some (0, M))
def f_Expanded_put (a0 : Nat) (x1 : Int32) (x2 : Int32) (x3 : Int32) (x4 : Int32) (M : Mem) : Option (Unit × Mem) :=
  (if x1 < 0 then some ((), M)
  else (if 60 ≤ x1 then some ((), M)
  else gd (inb x1 60) (bm (mset M (a0 + 4) (ix x1) x2) fun M1 => gd (inb x1 60) (bm (mset M1 (a0 + 5) (ix x1) x3) fun M2 => gd (inb x1 60) (bm (mset M2 (a0 + 6) (ix x1) x4) fun M3 => some ((), M3))))))
def f_Expanded_sizeOf (a0 : Nat) (x1 : Int32) (M : Mem) : Option (Int32 × Mem) :=
  bd (f_Expanded_entry (a0 + 4) x1 M) fun r1 M1 => some (r1, M1)
def f_Expanded_needOf (a0 : Nat) (x1 : Int32) (M : Mem) : Option (Int32 × Mem) :=
  bd (f_Expanded_entry (a0 + 5) x1 M) fun r1 M1 => some (r1, M1)
def f_Expanded_rightOf (a0 : Nat) (x1 : Int32) (M : Mem) : Option (Int32 × Mem) :=
  bd (f_Expanded_sizeOf a0 (x1 + 1) M) fun r1 M1 => some (((x1 + 1) + r1), M1)
def f_Expanded_needOfPair (x0 : Int32) (x1 : Int32) (M : Mem) : Option (Int32 × Mem) :=
  (if x0 = x1 then some ((x0 + 1), M)
  else some ((mxI x0 x1), M))
def f_Expanded_operate_b28 (x5 : Int64) (M : Mem) : Option (Int32 × Mem) :=
  some ((Int64.toInt32 (mxL (-99999) (mnL 99999 x5))), M)
def f_Expanded_operate (x0 : Int32) (x1 : Int64) (x3 : Int64) (M : Mem) : Option (Int32 × Mem) :=
  bl (x1 * x3) fun y1 => (if x0 = 4 then bl (x1 + x3) fun y3 => f_Expanded_operate_b28 y3 M
  else (if x0 = 5 then bl (x1 - x3) fun y2 => f_Expanded_operate_b28 y2 M
  else f_Expanded_operate_b28 y1 M))
def f_Expanded_measure_b15 : Nat → Nat → Nat → Int32 → Mem → Option (Unit × Mem)
  | 0, _, _, _, _ => none
  | n + 1, a0, a1, x3, M => (if x3 < 0 then some ((), M)
  else bi (x3 + 1) fun y1 => bd (f_Form_kindOf (a0 + 1) x3 M) fun r2 M2 => bd (f_LP_partsOf r2 M2) fun r3 M3 => (if r3 = 0 then bd (f_Expanded_put a0 x3 1 1 1 M3) fun _ M27 => bd (f_Expanded_leafValue a0 x3 a1 M27) fun r28 M28 => gd (inb x3 60) (bm (mset M28 (a0 + 7) (ix x3) r28) fun M29 => bi (x3 + (-1)) fun y30 => f_Expanded_measure_b15 n a0 a1 y30 M29)
  else (if r3 = 1 then bd (f_Expanded_sizeOf a0 y1 M3) fun r20 M20 => bd (f_Expanded_needOf a0 y1 M20) fun r21 M21 => bd (f_Expanded_depthOf a0 y1 M21) fun r22 M22 => bd (f_Expanded_put a0 x3 (r20 + 1) r21 (r22 + 1) M22) fun _ M23 => bd (f_Expanded_valueOf a0 y1 M23) fun r24 M24 => gd (inb x3 60) (bm (mset M24 (a0 + 7) (ix x3) (-r24)) fun M25 => bi (x3 + (-1)) fun y26 => f_Expanded_measure_b15 n a0 a1 y26 M25)
  else bd (f_Expanded_rightOf a0 x3 M3) fun r4 M4 => bd (f_Expanded_depthOf a0 y1 M4) fun r5 M5 => bd (f_Expanded_depthOf a0 r4 M5) fun r6 M6 => bi ((mxI r5 r6) + 1) fun y7 => bd (f_Expanded_sizeOf a0 y1 M6) fun r8 M8 => bd (f_Expanded_sizeOf a0 r4 M8) fun r9 M9 => bd (f_Expanded_needOf a0 y1 M9) fun r10 M10 => bd (f_Expanded_needOf a0 r4 M10) fun r11 M11 => bd (f_Expanded_needOfPair r10 r11 M11) fun r12 M12 => bd (f_Expanded_put a0 x3 ((r8 + r9) + 1) r12 y7 M12) fun _ M13 => bd (f_Form_kindOf (a0 + 1) x3 M13) fun r14 M14 => bd (f_Expanded_valueOf a0 y1 M14) fun r15 M15 => bd (f_Expanded_valueOf a0 r4 M15) fun r16 M16 => bd (f_Expanded_operate r14 (Int32.toInt64 r15) (Int32.toInt64 r16) M16) fun r17 M17 => gd (inb x3 60) (bm (mset M17 (a0 + 7) (ix x3) r17) fun M18 => bi (x3 + (-1)) fun y19 => f_Expanded_measure_b15 n a0 a1 y19 M18))))
def f_Expanded_measure (a0 : Nat) (a1 : Nat) (M : Mem) : Option (Unit × Mem) :=
  bi ((mnI (M.1 (a0 + 1) 2) 60) - 1) fun y1 => f_Expanded_measure_b15 FU a0 a1 y1 M
def f_Expanded_pairs_b4 : Nat → Nat → Int32 → Int32 → Mem → Option (Int32 × Mem)
  | 0, _, _, _, _ => none
  | n + 1, a0, x1, x2, M => (if (M.1 (a0 + 1) 2) ≤ x2 then some (x1, M)
  else bd (f_Form_kindOf (a0 + 1) x2 M) fun r1 M1 => bd (f_LP_partsOf r1 M1) fun r2 M2 => (if r2 = 2 then bi (x1 + 1) fun y5 => bi (x2 + 1) fun y6 => f_Expanded_pairs_b4 n a0 y5 y6 M2
  else bi (x1 + 0) fun y3 => bi (x2 + 1) fun y4 => f_Expanded_pairs_b4 n a0 y3 y4 M2))
def f_Expanded_pairs (a0 : Nat) (M : Mem) : Option (Int32 × Mem) :=
  f_Expanded_pairs_b4 FU a0 0 0 M
def f_Form_behind_b8 : Nat → Nat → Int32 → Int32 → Mem → Option (Int32 × Mem)
  | 0, _, _, _, _ => none
  | n + 1, a0, x2, x3, M => (if x3 ≤ 0 then some (x2, M)
  else (if (M.1 a0 2) ≤ x2 then some (x2, M)
  else bd (f_Form_kindOf a0 x2 M) fun r1 M1 => bd (f_LP_partsOf r1 M1) fun r2 M2 => bi (x3 + (r2 - 1)) fun y3 => bi (x2 + 1) fun y4 => f_Form_behind_b8 n a0 y4 y3 M2))
def f_Form_behind (a0 : Nat) (x1 : Int32) (M : Mem) : Option (Int32 × Mem) :=
  bi (mxI 0 x1) fun y1 => f_Form_behind_b8 FU a0 y1 1 M
def f_Form_copy (a0 : Nat) (a1 : Nat) (M : Mem) : Option (Unit × Mem) :=
  bm (mset M a0 2 0) fun M1 => bd (f_Form_addAll a0 a1 M1) fun _ M2 => some ((), M2)
def f_Form_turnAround_b5 : Nat → Nat → Int32 → Int32 → Mem → Option (Unit × Mem)
  | 0, _, _, _, _ => none
  | n + 1, a0, x3, x4, M => (if x4 ≤ x3 then some ((), M)
  else bd (f_Form_has a0 x3 M) fun r1 M1 => (if r1 = 0 then some ((), M1)
  else bd (f_Form_has a0 x4 M1) fun r2 M2 => (if r2 = 0 then some ((), M2)
  else gd (inb x3 (ln (a0 + 1))) (bi (M2.1 (a0 + 1) (ix x3)) fun y3 => gd (inb x4 (ln (a0 + 1))) (gd (inb x3 (ln (a0 + 1))) (bm (mset M2 (a0 + 1) (ix x3) (M2.1 (a0 + 1) (ix x4))) fun M4 => gd (inb x4 (ln (a0 + 1))) (bm (mset M4 (a0 + 1) (ix x4) y3) fun M5 => gd (inb x3 (ln (a0 + 2))) (bi (M5.1 (a0 + 2) (ix x3)) fun y6 => gd (inb x4 (ln (a0 + 2))) (gd (inb x3 (ln (a0 + 2))) (bm (mset M5 (a0 + 2) (ix x3) (M5.1 (a0 + 2) (ix x4))) fun M7 => gd (inb x4 (ln (a0 + 2))) (bm (mset M7 (a0 + 2) (ix x4) y6) fun M8 => bi (x3 + 1) fun y9 => bi (x4 + (-1)) fun y10 => f_Form_turnAround_b5 n a0 y9 y10 M8)))))))))))
def f_Form_turnAround (a0 : Nat) (x1 : Int32) (x2 : Int32) (M : Mem) : Option (Unit × Mem) :=
  f_Form_turnAround_b5 FU a0 x1 x2 M
def f_Form_exchange (a0 : Nat) (x1 : Int32) (M : Mem) : Option (Unit × Mem) :=
  bd (f_Form_behind a0 (x1 + 1) M) fun r1 M1 => bd (f_Form_behind a0 r1 M1) fun r2 M2 => bd (f_Form_turnAround a0 (x1 + 1) (r1 - 1) M2) fun _ M3 => bd (f_Form_turnAround a0 r1 (r2 - 1) M3) fun _ M4 => bd (f_Form_turnAround a0 (x1 + 1) (r2 - 1) M4) fun _ M5 => some ((), M5)
def f_Form_insert (a0 : Nat) (x1 : Int32) (x2 : Int32) (x3 : Int32) (M : Mem) : Option (Int32 × Mem) :=
  bd (f_Form_isFull a0 M) fun r1 M1 => (if r1 = 0 then (if x1 < 0 then gd (isB 0) (some (0, M1))
  else (if x1 ≤ (M1.1 a0 2) then gd (!(decide (x1 < 0)) && !(decide ((x1 + 1) < 0)) && !(decide (((M1.1 a0 2) - x1) < 0)) && decide (ix x1 + ix ((M1.1 a0 2) - x1) ≤ (ln (a0 + 1))) && decide (ix (x1 + 1) + ix ((M1.1 a0 2) - x1) ≤ (ln (a0 + 1)))) (bm (mcpy M1 (a0 + 1) (ix x1) (a0 + 1) (ix (x1 + 1)) (ix ((M1.1 a0 2) - x1))) fun M2 => gd (!(decide (x1 < 0)) && !(decide ((x1 + 1) < 0)) && !(decide (((M2.1 a0 2) - x1) < 0)) && decide (ix x1 + ix ((M2.1 a0 2) - x1) ≤ (ln (a0 + 2))) && decide (ix (x1 + 1) + ix ((M2.1 a0 2) - x1) ≤ (ln (a0 + 2)))) (bm (mcpy M2 (a0 + 2) (ix x1) (a0 + 2) (ix (x1 + 1)) (ix ((M2.1 a0 2) - x1))) fun M3 => gd (inb x1 (ln (a0 + 1))) (bm (mset M3 (a0 + 1) (ix x1) x2) fun M4 => gd (inb x1 (ln (a0 + 2))) (bm (mset M4 (a0 + 2) (ix x1) x3) fun M5 => bm (mset M5 a0 2 ((M5.1 a0 2) + 1)) fun M6 => gd (isB 1) (some (1, M6))))))
  else gd (isB 0) (some (0, M1))))
  else gd (isB 0) (some (0, M1)))
def f_Reader_isDigit (x0 : Int32) (M : Mem) : Option (Int32 × Mem) :=
  (if x0 < 48 then gd (isB 0) (some (0, M))
  else (if 57 < x0 then gd (isB 0) (some (0, M))
  else gd (isB 1) (some (1, M))))
def f_Reader_sign (M : Mem) : Option (Int32 × Mem) :=
  (if (M.1 1 2) < 0 then some (0, M)
  else (if (M.1 1 1) ≤ (M.1 1 2) then some (0, M)
  else (if 100 ≤ (M.1 1 2) then some (0, M)
  else gd (inb (M.1 1 2) 100) (some ((M.1 2 (ix (M.1 1 2))), M)))))
def f_Reader_pass_b13 (t0 : Int32) (M : Mem) : Option (Int32 × Mem) :=
  (if t0 = 0 then bm (mset M 1 2 ((M.1 1 2) + 0)) fun M1 => gd (isB t0) (some (t0, M1))
  else bm (mset M 1 2 ((M.1 1 2) + 1)) fun M2 => gd (isB t0) (some (t0, M2)))
def f_Reader_pass (x1 : Int32) (M : Mem) : Option (Int32 × Mem) :=
  bd (f_Reader_sign  M) fun r1 M1 => (if r1 = x1 then f_Reader_pass_b13 1 M1
  else f_Reader_pass_b13 0 M1)
def f_Reader_readOperation (a1 : Nat) (x2 : Int32) (x3 : Int32) (M : Mem) : Option (Int32 × Mem) :=
  bd (f_Form_insert a1 x2 x3 0 M) fun r1 M1 => (if r1 = 0 then bm (mset M1 1 2 ((M1.1 1 2) + 0)) fun M2 => gd (isB r1) (some (r1, M2))
  else bm (mset M1 1 2 ((M1.1 1 2) + 1)) fun M3 => gd (isB r1) (some (r1, M3)))
def f_Reader_readNumber_b27 (k4 : Int32 → Int32 → Mem → Option (Int32 × Mem)) (x1 : Int32) (x2 : Int32) (M : Mem) : Option (Int32 × Mem) :=
  bd (f_Reader_sign  M) fun r1 M1 => bi (((10 * x1) + r1) - 48) fun y2 => bi (x2 + 1) fun y3 => bm (mset M1 1 2 ((M1.1 1 2) + 1)) fun M4 => k4 y2 y3 M4
def f_Reader_readNumber_b4 : Nat → Int32 → Int32 → Mem → Option (Int32 × Mem)
  | 0, _, _, _ => none
  | n + 1, x1, x2, M => (if 3 ≤ x2 then some (x1, M)
  else bd (f_Reader_sign  M) fun r1 M1 => bd (f_Reader_isDigit r1 M1) fun r2 M2 => (if r2 = 0 then some (x1, M2)
  else (if x2 = 0 then f_Reader_readNumber_b27 (f_Reader_readNumber_b4 n) x1 x2 M2
  else (if x1 ≤ 0 then some (x1, M2)
  else f_Reader_readNumber_b27 (f_Reader_readNumber_b4 n) x1 x2 M2))))
def f_Reader_readNumber (M : Mem) : Option (Int32 × Mem) :=
  f_Reader_readNumber_b4 FU 0 0 M
def f_Reader_readLeaf_b69 (a1 : Nat) (x2 : Int32) (x3 : Int32) (M : Mem) : Option (Int32 × Mem) :=
  (if x3 < 65 then gd (isB 0) (some (0, M))
  else (if (65 + x2) ≤ x3 then gd (isB 0) (some (0, M))
  else bd (f_Reader_pass x3 M) fun r1 M1 => (if r1 = 0 then gd (isB 0) (some (0, M1))
  else bd (f_Form_add a1 2 (x3 - 65) M1) fun r2 M2 => (if r2 = 0 then gd (isB 0) (some (0, M2))
  else gd (isB 1) (some (1, M2))))))
def f_Reader_readLeaf (a1 : Nat) (x2 : Int32) (M : Mem) : Option (Int32 × Mem) :=
  bd (f_Reader_sign  M) fun r1 M1 => bd (f_Form_isFull a1 M1) fun r2 M2 => (if r2 = 0 then bd (f_Reader_isDigit r1 M2) fun r3 M3 => (if r3 = 0 then (if r1 < 97 then f_Reader_readLeaf_b69 a1 x2 r1 M3
  else (if 105 ≤ r1 then f_Reader_readLeaf_b69 a1 x2 r1 M3
  else bd (f_Reader_pass r1 M3) fun r4 M4 => (if r4 = 0 then gd (isB 0) (some (0, M4))
  else bd (f_Form_add a1 1 (r1 - 97) M4) fun r5 M5 => (if r5 = 0 then gd (isB 0) (some (0, M5))
  else gd (isB 1) (some (1, M5))))))
  else bd (f_Reader_readNumber  M3) fun r6 M6 => bd (f_Form_add a1 0 r6 M6) fun r7 M7 => gd (isB r7) (some (r7, M7)))
  else gd (isB 0) (some (0, M2)))
def f_Reader_readFactor_b18 (rc : Nat → Int32 → Int32 → Mem → Option (Int32 × Mem)) (a1 : Nat) (x2 : Int32) (x3 : Int32) (M : Mem) : Option (Int32 × Mem) :=
  (if 8 ≤ x3 then gd (isB 0) (some (0, M))
  else bd (rc a1 x2 (x3 + 1) M) fun r1 M1 => (if r1 = 0 then gd (isB 0) (some (0, M1))
  else gd (isB 1) (some (1, M1))))
def f_Reader_readFactor (rc : Nat → Int32 → Int32 → Mem → Option (Int32 × Mem)) (a1 : Nat) (x2 : Int32) (x3 : Int32) (M : Mem) : Option (Int32 × Mem) :=
  bd (f_Reader_sign  M) fun r1 M1 => (if r1 = 40 then f_Reader_readFactor_b18 rc a1 x2 x3 M1
  else bd (f_Reader_sign  M1) fun r2 M2 => (if r2 = 33 then f_Reader_readFactor_b18 rc a1 x2 x3 M2
  else bd (f_Reader_readLeaf a1 x2 M2) fun r3 M3 => gd (isB r3) (some (r3, M3))))
def f_Reader_readProduct_b18 (rc : Nat → Int32 → Int32 → Mem → Option (Int32 × Mem)) : Nat → Nat → Int32 → Int32 → Int32 → Int32 → Int32 → Mem → Option (Int32 × Mem)
  | 0, _, _, _, _, _, _, _ => none
  | n + 1, a1, x2, x3, x4, x5, x6, M => (if 30 ≤ x6 then gd (isB x5) (some (x5, M))
  else (if x5 = 0 then gd (isB x5) (some (x5, M))
  else bd (f_Reader_sign  M) fun r1 M1 => (if r1 = 42 then bd (f_Reader_readOperation a1 x4 6 M1) fun r2 M2 => (if r2 = 0 then bi (x6 + 1) fun y3 => f_Reader_readProduct_b18 rc n a1 x2 x3 x4 0 y3 M2
  else bd (f_Reader_readFactor rc a1 x2 x3 M2) fun r4 M4 => (if r4 = 0 then bi (x6 + 1) fun y5 => f_Reader_readProduct_b18 rc n a1 x2 x3 x4 0 y5 M4
  else bi (x6 + 1) fun y6 => f_Reader_readProduct_b18 rc n a1 x2 x3 x4 1 y6 M4))
  else gd (isB x5) (some (x5, M1)))))
def f_Reader_readProduct (rc : Nat → Int32 → Int32 → Mem → Option (Int32 × Mem)) (a1 : Nat) (x2 : Int32) (x3 : Int32) (M : Mem) : Option (Int32 × Mem) :=
  bi (M.1 a1 2) fun y1 => bd (f_Reader_readFactor rc a1 x2 x3 M) fun r2 M2 => f_Reader_readProduct_b18 rc FU a1 x2 x3 y1 r2 0 M2
def f_Reader_readSum_b62 (rc : Nat → Int32 → Int32 → Mem → Option (Int32 × Mem)) (k18 : Nat → Int32 → Int32 → Int32 → Int32 → Int32 → Mem → Option (Int32 × Mem)) (a1 : Nat) (x2 : Int32) (x3 : Int32) (x4 : Int32) (x6 : Int32) (t0 : Int32) (M : Mem) : Option (Int32 × Mem) :=
  bd (f_Reader_readOperation a1 x4 t0 M) fun r1 M1 => (if r1 = 0 then bi (x6 + 1) fun y2 => k18 a1 x2 x3 x4 0 y2 M1
  else bd (f_Reader_readProduct rc a1 x2 x3 M1) fun r3 M3 => (if r3 = 0 then bi (x6 + 1) fun y4 => k18 a1 x2 x3 x4 0 y4 M3
  else bi (x6 + 1) fun y5 => k18 a1 x2 x3 x4 1 y5 M3))
def f_Reader_readSum_b48 (rc : Nat → Int32 → Int32 → Mem → Option (Int32 × Mem)) (k18 : Nat → Int32 → Int32 → Int32 → Int32 → Int32 → Mem → Option (Int32 × Mem)) (a1 : Nat) (x2 : Int32) (x3 : Int32) (x4 : Int32) (x6 : Int32) (M : Mem) : Option (Int32 × Mem) :=
  bd (f_Reader_sign  M) fun r1 M1 => (if r1 = 43 then f_Reader_readSum_b62 rc k18 a1 x2 x3 x4 x6 4 M1
  else f_Reader_readSum_b62 rc k18 a1 x2 x3 x4 x6 5 M1)
def f_Reader_readSum_b18 (rc : Nat → Int32 → Int32 → Mem → Option (Int32 × Mem)) : Nat → Nat → Int32 → Int32 → Int32 → Int32 → Int32 → Mem → Option (Int32 × Mem)
  | 0, _, _, _, _, _, _, _ => none
  | n + 1, a1, x2, x3, x4, x5, x6, M => (if 30 ≤ x6 then gd (isB x5) (some (x5, M))
  else (if x5 = 0 then gd (isB x5) (some (x5, M))
  else bd (f_Reader_sign  M) fun r1 M1 => (if r1 = 43 then f_Reader_readSum_b48 rc (f_Reader_readSum_b18 rc n) a1 x2 x3 x4 x6 M1
  else bd (f_Reader_sign  M1) fun r2 M2 => (if r2 = 45 then f_Reader_readSum_b48 rc (f_Reader_readSum_b18 rc n) a1 x2 x3 x4 x6 M2
  else gd (isB x5) (some (x5, M2))))))
def f_Reader_readSum (rc : Nat → Int32 → Int32 → Mem → Option (Int32 × Mem)) (a1 : Nat) (x2 : Int32) (x3 : Int32) (M : Mem) : Option (Int32 × Mem) :=
  bi (M.1 a1 2) fun y1 => bd (f_Reader_readProduct rc a1 x2 x3 M) fun r2 M2 => f_Reader_readSum_b18 rc FU a1 x2 x3 y1 r2 0 M2
def f_Reader_readNested_step (rc : Nat → Int32 → Int32 → Mem → Option (Int32 × Mem)) (a1 : Nat) (x2 : Int32) (x3 : Int32) (M : Mem) : Option (Int32 × Mem) :=
  bd (f_Reader_pass 40 M) fun r1 M1 => (if r1 = 0 then bd (f_Form_isFull a1 M1) fun r2 M2 => (if r2 = 0 then bd (f_Reader_pass 33 M2) fun r3 M3 => (if r3 = 0 then gd (isB 0) (some (0, M3))
  else bd (f_Form_add a1 3 0 M3) fun r4 M4 => (if r4 = 0 then gd (isB 0) (some (0, M4))
  else bd (f_Reader_readFactor rc a1 x2 x3 M4) fun r5 M5 => (if r5 = 0 then gd (isB 0) (some (0, M5))
  else gd (isB 1) (some (1, M5)))))
  else gd (isB 0) (some (0, M2)))
  else bd (f_Reader_readSum rc a1 x2 x3 M1) fun r6 M6 => (if r6 = 0 then gd (isB 0) (some (0, M6))
  else bd (f_Reader_pass 41 M6) fun r7 M7 => (if r7 = 0 then gd (isB 0) (some (0, M7))
  else gd (isB 1) (some (1, M7)))))
def f_Reader_readNested : Nat → Nat → Int32 → Int32 → Mem → Option (Int32 × Mem)
  | 0, _, _, _, _ => none
  | n + 1, a1, x2, x3, M => f_Reader_readNested_step (f_Reader_readNested n) a1 x2 x3 M
def f_Reader_readSheet_b94 (x1 : Int32) (M : Mem) : Option (Int32 × Mem) :=
  bm (mset M 3 1 (x1 + 1)) fun M1 => gd (inb x1 6) (bd (f_Reader_readSum (f_Reader_readNested 60) (6 + 3 * ix x1) x1 0 M1) fun r3 M3 => (if r3 = 0 then gd (isB 0) (some (0, M3))
  else bd (f_Reader_sign  M3) fun r4 M4 => (if r4 = 0 then gd (isB 1) (some (1, M4))
  else gd (isB 0) (some (0, M4)))))
def f_Reader_readSheet_b34 : Nat → Int32 → Mem → Option (Int32 × Mem)
  | 0, _, _ => none
  | n + 1, x1, M => (if 5 ≤ x1 then f_Reader_readSheet_b94 x1 M
  else bd (f_Reader_pass (65 + x1) M) fun r1 M1 => (if r1 = 0 then f_Reader_readSheet_b94 x1 M1
  else bd (f_Reader_pass 61 M1) fun r2 M2 => (if r2 = 0 then gd (isB 0) (some (0, M2))
  else gd (inb x1 6) (bd (f_Reader_readSum (f_Reader_readNested 60) (6 + 3 * ix x1) x1 0 M2) fun r4 M4 => (if r4 = 0 then gd (isB 0) (some (0, M4))
  else bd (f_Reader_pass 59 M4) fun r5 M5 => (if r5 = 0 then gd (isB 0) (some (0, M5))
  else bi (x1 + 1) fun y6 => f_Reader_readSheet_b34 n y6 M5))))))
def f_Reader_readSheet_b7 : Nat → Int32 → Mem → Option (Int32 × Mem)
  | 0, _, _ => none
  | n + 1, x1, M => (if 6 ≤ x1 then f_Reader_readSheet_b34 FU 0 M
  else gd (inb x1 6) (bm (mset M (6 + 3 * ix x1) 2 0) fun M2 => bi (x1 + 1) fun y3 => f_Reader_readSheet_b7 n y3 M2))
def f_Reader_readSheet (M : Mem) : Option (Int32 × Mem) :=
  bm (mset M 1 2 0) fun M1 => f_Reader_readSheet_b7 FU 0 M1
def f_Reader_take (x1 : Int32) (M : Mem) : Option (Int32 × Mem) :=
  (if (M.1 1 1) < 0 then gd (isB 0) (some (0, M))
  else (if (M.1 1 1) < 100 then gd (inb (M.1 1 1) 100) (bm (mset M 2 (ix (M.1 1 1)) x1) fun M1 => bm (mset M1 1 1 ((M1.1 1 1) + 1)) fun M2 => gd (isB 1) (some (1, M2)))
  else gd (isB 0) (some (0, M))))
def f_Sheet_copyFormulas_b10 : Nat → Nat → Nat → Int32 → Mem → Option (Unit × Mem)
  | 0, _, _, _, _ => none
  | n + 1, a0, a1, x2, M => (if (M.1 a0 1) ≤ x2 then some ((), M)
  else (if 6 ≤ x2 then some ((), M)
  else gd (inb x2 6) (gd (inb x2 6) (bd (f_Form_copy ((a0 + 3) + 3 * ix x2) ((a1 + 3) + 3 * ix x2) M) fun _ M3 => bi (x2 + 1) fun y4 => f_Sheet_copyFormulas_b10 n a0 a1 y4 M3))))
def f_Sheet_copyFormulas (a0 : Nat) (a1 : Nat) (M : Mem) : Option (Unit × Mem) :=
  bm (mset M a0 1 (M.1 a1 1)) fun M1 => f_Sheet_copyFormulas_b10 FU a0 a1 0 M1
def f_Sheet_copyState (a0 : Nat) (a1 : Nat) (M : Mem) : Option (Unit × Mem) :=
  bd (f_Sheet_copyFormulas a0 a1 M) fun _ M1 => gd (!(decide (0 < 0)) && !(decide (0 < 0)) && !(decide (8 < 0)) && decide (ix 0 + ix 8 ≤ 8) && decide (ix 0 + ix 8 ≤ 8)) (bm (mcpy M1 (a1 + 2) (ix 0) (a0 + 2) (ix 0) (ix 8)) fun M2 => bm (mset M2 a0 3 (M2.1 a1 3)) fun M3 => some ((), M3))
def f_Trial_waysFor (a1 : Nat) (x2 : Int32) (M : Mem) : Option (Int32 × Mem) :=
  bi (x2 + 1) fun y1 => bd (f_Form_kindOf (a1 + 1) x2 M) fun r2 M2 => bd (f_LP_partsOf r2 M2) fun r3 M3 => (if r3 = 0 then some (1, M3)
  else (if r3 = 1 then bd (f_Expanded_entry 53 y1 M3) fun r11 M11 => some (r11, M11)
  else bd (f_Expanded_rightOf a1 x2 M3) fun r4 M4 => bd (f_Expanded_entry 53 y1 M4) fun r5 M5 => bd (f_Expanded_entry 54 r4 M5) fun r6 M6 => bi (r5 * r6) fun y7 => bd (f_Expanded_entry 53 r4 M6) fun r8 M8 => bd (f_Expanded_entry 54 y1 M8) fun r9 M9 => bi (r8 * r9) fun y10 => some ((y7 + y10), M9)))
def f_Trial_tryOrders_b84 (k26 : Nat → Mem → Option (Unit × Mem)) : Nat → Nat → Int32 → Mem → Option (Unit × Mem)
  | 0, _, _, _ => none
  | n + 1, a1, x2, M => (if x2 < 0 then k26 a1 M
  else bd (f_Trial_waysFor a1 x2 M) fun r1 M1 => gd (inb x2 60) (bm (mset M1 53 (ix x2) r1) fun M2 => bi (x2 + (-1)) fun y3 => f_Trial_tryOrders_b84 k26 n a1 y3 M2))
def f_Trial_tryOrders_b26 : Nat → Nat → Mem → Option (Unit × Mem)
  | 0, _, _ => none
  | n + 1, a1, M => (if 10 < (M.1 52 2) then some ((), M)
  else gd (inb 0 60) ((if (M.1 53 (ix 0)) = 0 then bm (mset M 52 2 ((M.1 52 2) + 1)) fun M1 => gd (!(decide (0 < 0)) && !(decide (0 < 0)) && !(decide (60 < 0)) && decide (ix 0 + ix 60 ≤ 60) && decide (ix 0 + ix 60 ≤ 60)) (bm (mcpy M1 53 (ix 0) 54 (ix 0) (ix 60)) fun M2 => bi ((mnI (M2.1 (a1 + 1) 2) 60) - 1) fun y3 => f_Trial_tryOrders_b84 (f_Trial_tryOrders_b26 n) FU a1 y3 M2)
  else some ((), M))))
def f_Trial_tryOrders_b7 : Nat → Nat → Int32 → Mem → Option (Unit × Mem)
  | 0, _, _, _ => none
  | n + 1, a1, x2, M => (if 60 ≤ x2 then f_Trial_tryOrders_b26 FU a1 M
  else gd (inb x2 60) (bm (mset M 53 (ix x2) 0) fun M1 => bi (x2 + 1) fun y2 => f_Trial_tryOrders_b7 n a1 y2 M1))
def f_Trial_tryOrders (a1 : Nat) (M : Mem) : Option (Unit × Mem) :=
  bm (mset M 52 2 0) fun M1 => f_Trial_tryOrders_b7 FU a1 0 M1
def f_LP_append (x1 : Int32) (M : Mem) : Option (Int32 × Mem) :=
  (if x1 < 1 then some ((-1000001), M)
  else (if x1 ≤ 255 then bd (f_Reader_take x1 M) fun r1 M1 => (if r1 = 0 then some ((-1000003), M1)
  else some ((M1.1 1 1), M1))
  else some ((-1000001), M)))
def f_LP_arePlaces (x0 : Int32) (M : Mem) : Option (Int32 × Mem) :=
  (if x0 < 2 then gd (isB 0) (some (0, M))
  else (if 8 < x0 then gd (isB 0) (some (0, M))
  else gd (isB 1) (some (1, M))))
def f_LP_isCell (x0 : Int32) (M : Mem) : Option (Int32 × Mem) :=
  (if x0 < 0 then gd (isB 0) (some (0, M))
  else (if 8 ≤ x0 then gd (isB 0) (some (0, M))
  else gd (isB 1) (some (1, M))))
def f_LP_cell (x1 : Int32) (M : Mem) : Option (Int32 × Mem) :=
  bd (f_LP_isCell x1 M) fun r1 M1 => (if r1 = 0 then some ((-1000001), M1)
  else gd (inb x1 8) (some ((M1.1 26 (ix x1)), M1)))
def f_LP_cheapDefinitions_b4 : Nat → Int32 → Int32 → Mem → Option (Int32 × Mem)
  | 0, _, _, _ => none
  | n + 1, x1, x2, M => (if (M.1 24 1) ≤ x2 then some (x1, M)
  else (if 6 ≤ x2 then some (x1, M)
  else gd (inb x2 6) ((if (M.1 (160 + 8 * ix x2) 2) = 0 then bi (x1 + 0) fun y2 => bi (x2 + 1) fun y3 => f_LP_cheapDefinitions_b4 n y2 y3 M
  else bi (x1 + 1) fun y4 => bi (x2 + 1) fun y5 => f_LP_cheapDefinitions_b4 n y4 y5 M))))
def f_LP_cheapDefinitions (M : Mem) : Option (Int32 × Mem) :=
  f_LP_cheapDefinitions_b4 FU 0 0 M
def f_LP_clearText (M : Mem) : Option (Int32 × Mem) :=
  bi (M.1 1 1) fun y1 => bm (mset M 1 1 0) fun M2 => some (y1, M2)
def f_LP_nodesAsRead_b4 : Nat → Int32 → Int32 → Mem → Option (Int32 × Mem)
  | 0, _, _, _ => none
  | n + 1, x1, x2, M => (if (M.1 24 1) ≤ x2 then some (x1, M)
  else (if 6 ≤ x2 then some (x1, M)
  else gd (inb x2 6) (bi (x1 + (M.1 (27 + 3 * ix x2) 2)) fun y2 => bi (x2 + 1) fun y3 => f_LP_nodesAsRead_b4 n y2 y3 M)))
def f_LP_nodesAsRead (M : Mem) : Option (Int32 × Mem) :=
  f_LP_nodesAsRead_b4 FU 0 0 M
def f_LP_greatestNeed_b4 : Nat → Int32 → Int32 → Mem → Option (Int32 × Mem)
  | 0, _, _, _ => none
  | n + 1, x1, x2, M => (if (M.1 24 1) ≤ x2 then some (x1, M)
  else (if 6 ≤ x2 then some (x1, M)
  else gd (inb x2 6) ((if (M.1 (160 + 8 * ix x2) 2) = 0 then gd (inb x2 6) (bd (f_Expanded_needOf (160 + 8 * ix x2) 0 M) fun r4 M4 => bi (mxI x1 r4) fun y5 => bi (x2 + 1) fun y6 => f_LP_greatestNeed_b4 n y5 y6 M4)
  else bi (x2 + 1) fun y2 => f_LP_greatestNeed_b4 n x1 y2 M))))
def f_LP_greatestNeed (M : Mem) : Option (Int32 × Mem) :=
  f_LP_greatestNeed_b4 FU 0 0 M
def f_LP_count (x1 : Int32) (M : Mem) : Option (Int32 × Mem) :=
  (if x1 = 0 then some ((M.1 24 1), M)
  else (if x1 = 1 then bd (f_LP_cheapDefinitions  M) fun r1 M1 => some (r1, M1)
  else (if x1 = 2 then bd (f_LP_nodesAsRead  M) fun r2 M2 => some (r2, M2)
  else (if x1 = 3 then some ((M.1 24 3), M)
  else (if x1 = 4 then bd (f_LP_greatestNeed  M) fun r3 M3 => some (r3, M3)
  else (if x1 = 5 then some ((M.1 0 3), M)
  else (if x1 = 6 then some ((M.1 1 1), M)
  else some ((-1000001), M))))))))
def f_LP_dropOldestState_b9 : Nat → Nat → Int32 → Mem → Option (Unit × Mem)
  | 0, _, _, _ => none
  | n + 1, a1, x2, M => (if 5 ≤ x2 then gd (inb (5 - 1) 5) (bm (hset M (ix (5 - 1)) a1) fun M1 => bm (mset M1 0 3 (5 - 1)) fun M2 => some ((), M2))
  else gd (inb x2 5) (gd (inb (x2 - 1) 5) (bm (hset M (ix (x2 - 1)) (M.2 (ix x2))) fun M4 => bi (x2 + 1) fun y5 => f_LP_dropOldestState_b9 n a1 y5 M4)))
def f_LP_dropOldestState (M : Mem) : Option (Unit × Mem) :=
  gd (inb 0 5) (bn (M.2 (ix 0)) fun b2 => f_LP_dropOldestState_b9 FU b2 1 M)
def f_LP_isFormula (x1 : Int32) (M : Mem) : Option (Int32 × Mem) :=
  (if x1 < 0 then gd (isB 0) (some (0, M))
  else (if (M.1 24 1) ≤ x1 then gd (isB 0) (some (0, M))
  else (if 6 ≤ x1 then gd (isB 0) (some (0, M))
  else gd (isB 1) (some (1, M)))))
def f_LP_usesOf_b72 (k4 : Int32 → Int32 → Int32 → Mem → Option (Int32 × Mem)) (k35 : Int32 → Int32 → Int32 → Nat → Int32 → Mem → Option (Int32 × Mem)) (x1 : Int32) (x2 : Int32) (x3 : Int32) (a4 : Nat) (x5 : Int32) (t0 : Int32) (M : Mem) : Option (Int32 × Mem) :=
  (if t0 = 0 then bi (x2 + 0) fun y1 => bi (x5 + 1) fun y2 => k35 x1 y1 x3 a4 y2 M
  else bi (x2 + 1) fun y3 => bi (x5 + 1) fun y4 => k35 x1 y3 x3 a4 y4 M)
def f_LP_usesOf_b71 (k4 : Int32 → Int32 → Int32 → Mem → Option (Int32 × Mem)) (k35 : Int32 → Int32 → Int32 → Nat → Int32 → Mem → Option (Int32 × Mem)) (x1 : Int32) (x2 : Int32) (x3 : Int32) (a4 : Nat) (x5 : Int32) (M : Mem) : Option (Int32 × Mem) :=
  f_LP_usesOf_b72 k4 k35 x1 x2 x3 a4 x5 0 M
def f_LP_usesOf_b35 (k4 : Int32 → Int32 → Int32 → Mem → Option (Int32 × Mem)) : Nat → Int32 → Int32 → Int32 → Nat → Int32 → Mem → Option (Int32 × Mem)
  | 0, _, _, _, _, _, _ => none
  | n + 1, x1, x2, x3, a4, x5, M => (if (M.1 a4 2) ≤ x5 then bi (x3 + 1) fun y1 => k4 x1 x2 y1 M
  else bd (f_Form_kindOf a4 x5 M) fun r2 M2 => (if r2 = 2 then bd (f_Form_contentOf a4 x5 M2) fun r3 M3 => (if r3 = x1 then f_LP_usesOf_b72 k4 (f_LP_usesOf_b35 k4 n) x1 x2 x3 a4 x5 1 M3
  else f_LP_usesOf_b71 k4 (f_LP_usesOf_b35 k4 n) x1 x2 x3 a4 x5 M3)
  else f_LP_usesOf_b71 k4 (f_LP_usesOf_b35 k4 n) x1 x2 x3 a4 x5 M2))
def f_LP_usesOf_b4 : Nat → Int32 → Int32 → Int32 → Mem → Option (Int32 × Mem)
  | 0, _, _, _, _ => none
  | n + 1, x1, x2, x3, M => (if (M.1 24 1) ≤ x3 then some (x2, M)
  else (if 6 ≤ x3 then some (x2, M)
  else gd (inb x3 6) (bn ((160 + 8 * ix x3) + 1) fun b2 => f_LP_usesOf_b35 (f_LP_usesOf_b4 n) FU x1 x2 x3 b2 0 M)))
def f_LP_usesOf (x1 : Int32) (M : Mem) : Option (Int32 × Mem) :=
  f_LP_usesOf_b4 FU x1 0 0 M
def f_LP_formula (x1 : Int32) (x2 : Int32) (M : Mem) : Option (Int32 × Mem) :=
  bd (f_LP_isFormula x1 M) fun r1 M1 => (if r1 = 0 then some ((-1000001), M1)
  else gd (inb x1 6) (bn (160 + 8 * ix x1) fun b3 => (if x2 = 0 then gd (inb x1 6) (some ((M1.1 (27 + 3 * ix x1) 2), M1))
  else (if x2 = 1 then some ((M1.1 (b3 + 1) 2), M1)
  else (if x2 = 2 then bd (f_Expanded_needOf b3 0 M1) fun r5 M5 => some (r5, M5)
  else (if x2 = 3 then (if (M1.1 b3 2) = 0 then some (0, M1)
  else some (1, M1))
  else (if x2 = 4 then bd (f_Expanded_valueOf b3 0 M1) fun r6 M6 => some (r6, M6)
  else (if x2 = 5 then bd (f_Expanded_depthOf b3 0 M1) fun r7 M7 => some (r7, M7)
  else (if x2 = 6 then bd (f_LP_usesOf x1 M1) fun r8 M8 => some (r8, M8)
  else some ((-1000001), M1))))))))))
def f_LP_node (x1 : Int32) (x2 : Int32) (x3 : Int32) (M : Mem) : Option (Int32 × Mem) :=
  bd (f_LP_isFormula x1 M) fun r1 M1 => (if r1 = 0 then some ((-1000001), M1)
  else gd (inb x1 6) (bd (f_Form_has ((160 + 8 * ix x1) + 1) x2 M1) fun r3 M3 => (if r3 = 0 then some ((-1000001), M3)
  else gd (inb x1 6) (bn (160 + 8 * ix x1) fun b5 => bd (f_Form_kindOf (b5 + 1) x2 M3) fun r6 M6 => bd (f_LP_partsOf r6 M6) fun r7 M7 => (if x3 = 0 then bd (f_Form_kindOf (b5 + 1) x2 M7) fun r8 M8 => some (r8, M8)
  else (if x3 = 1 then (if r7 = 0 then bd (f_Form_contentOf (b5 + 1) x2 M7) fun r9 M9 => some (r9, M9)
  else some ((-1000009), M7))
  else (if x3 = 2 then (if r7 ≤ 0 then some ((-1000009), M7)
  else some ((x2 + 1), M7))
  else (if x3 = 3 then (if r7 ≤ 1 then some ((-1000009), M7)
  else bd (f_Expanded_rightOf b5 x2 M7) fun r10 M10 => some (r10, M10))
  else (if x3 = 4 then bd (f_Expanded_needOf b5 x2 M7) fun r11 M11 => some (r11, M11)
  else (if x3 = 5 then bd (f_Expanded_sizeOf b5 x2 M7) fun r12 M12 => some (r12, M12)
  else (if x3 = 6 then bd (f_Expanded_valueOf b5 x2 M7) fun r13 M13 => some (r13, M13)
  else some ((-1000001), M7))))))))))))
def f_LP_refusalToTry (x1 : Int32) (M : Mem) : Option (Int32 × Mem) :=
  bd (f_LP_isFormula x1 M) fun r1 M1 => (if r1 = 0 then some ((-1000001), M1)
  else gd (inb x1 6) (bd (f_Expanded_pairs (160 + 8 * ix x1) M1) fun r3 M3 => (if r3 ≤ 10 then some (0, M3)
  else some ((-1000009), M3))))
def f_LP_proved (x1 : Int32) (M : Mem) : Option (Int32 × Mem) :=
  bd (f_LP_refusalToTry x1 M) fun r1 M1 => (if r1 = 0 then gd (inb x1 6) (bd (f_Trial_tryOrders (160 + 8 * ix x1) M1) fun _ M3 => some ((M3.1 52 2), M3))
  else some (r1, M1))
def f_LP_recordState_b16 (M : Mem) : Option (Unit × Mem) :=
  (if (M.1 0 3) < 0 then some ((), M)
  else (if 5 ≤ (M.1 0 3) then some ((), M)
  else gd (inb (M.1 0 3) 5) (bd (f_Sheet_copyState (M.2 (ix (M.1 0 3))) 24 M) fun _ M2 => bm (mset M2 0 3 ((M2.1 0 3) + 1)) fun M3 => some ((), M3))))
def f_LP_recordState (M : Mem) : Option (Unit × Mem) :=
  (if (M.1 0 3) < 5 then f_LP_recordState_b16 M
  else bd (f_LP_dropOldestState  M) fun _ M1 => f_LP_recordState_b16 M1)
def f_LP_workAnew_b37 (k2 : Int32 → Mem → Option (Unit × Mem)) (x1 : Int32) (t0 : Int32) (M : Mem) : Option (Unit × Mem) :=
  gd (inb x1 6) (gd (inb x1 6) (bd (f_Expanded_make (160 + 8 * ix x1) (27 + 3 * ix x1) t0 M) fun _ M3 => gd (inb x1 6) (bd (f_Expanded_measure (160 + 8 * ix x1) 26 M3) fun _ M5 => bi (x1 + 1) fun y6 => k2 y6 M5)))
def f_LP_workAnew_b2 : Nat → Int32 → Mem → Option (Unit × Mem)
  | 0, _, _ => none
  | n + 1, x1, M => (if (M.1 24 1) ≤ x1 then some ((), M)
  else (if 6 ≤ x1 then some ((), M)
  else (if ((M.1 24 1) - 1) ≤ x1 then f_LP_workAnew_b37 (f_LP_workAnew_b2 n) x1 0 M
  else f_LP_workAnew_b37 (f_LP_workAnew_b2 n) x1 1 M)))
def f_LP_workAnew (M : Mem) : Option (Unit × Mem) :=
  f_LP_workAnew_b2 FU 0 M
def f_LP_read (M : Mem) : Option (Int32 × Mem) :=
  bd (f_Reader_readSheet  M) fun r1 M1 => (if r1 = 0 then some (((-1000) - (M1.1 1 2)), M1)
  else bd (f_LP_recordState  M1) fun _ M2 => bd (f_Sheet_copyFormulas 24 3 M2) fun _ M3 => bd (f_LP_workAnew  M3) fun _ M4 => some ((M4.1 24 1), M4))
def f_LP_setCell (x1 : Int32) (x2 : Int32) (M : Mem) : Option (Int32 × Mem) :=
  bd (f_LP_isCell x1 M) fun r1 M1 => (if r1 = 0 then some ((-1000001), M1)
  else (if x2 < (-999) then some ((-1000001), M1)
  else (if x2 ≤ 999 then bd (f_LP_recordState  M1) fun _ M2 => gd (inb x1 8) (bi (M2.1 26 (ix x1)) fun y3 => gd (inb x1 8) (bm (mset M2 26 (ix x1) x2) fun M4 => bd (f_LP_workAnew  M4) fun _ M5 => some (y3, M5)))
  else some ((-1000001), M1))))
def f_LP_setPlaces (x1 : Int32) (M : Mem) : Option (Int32 × Mem) :=
  bd (f_LP_arePlaces x1 M) fun r1 M1 => (if r1 = 0 then some ((-1000001), M1)
  else bd (f_LP_recordState  M1) fun _ M2 => bi (M2.1 24 3) fun y3 => bm (mset M2 24 3 x1) fun M4 => some (y3, M4))
def f_LP_turn_b55 (x1 : Int32) (x2 : Int32) (M : Mem) : Option (Int32 × Mem) :=
  bd (f_LP_recordState  M) fun _ M1 => gd (inb x1 6) (bd (f_Form_exchange (27 + 3 * ix x1) x2 M1) fun _ M3 => bd (f_LP_workAnew  M3) fun _ M4 => gd (inb x1 6) (bd (f_Expanded_needOf (160 + 8 * ix x1) 0 M4) fun r6 M6 => some (r6, M6)))
def f_LP_turn (x1 : Int32) (x2 : Int32) (M : Mem) : Option (Int32 × Mem) :=
  bd (f_LP_isFormula x1 M) fun r1 M1 => (if r1 = 0 then some ((-1000001), M1)
  else gd (inb x1 6) (bd (f_Form_has (27 + 3 * ix x1) x2 M1) fun r3 M3 => (if r3 = 0 then some ((-1000001), M3)
  else gd (inb x1 6) (bd (f_Form_kindOf (27 + 3 * ix x1) x2 M3) fun r5 M5 => (if r5 = 4 then f_LP_turn_b55 x1 x2 M5
  else (if r5 = 6 then f_LP_turn_b55 x1 x2 M5
  else some ((-1000002), M5)))))))
