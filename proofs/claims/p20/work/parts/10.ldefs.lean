/-! the pure functions of the law's methods: printed by a program of mine from the bytecode -/
def f_L_low (x0 : Int32) (x1 : Int32) (M : Mem) : Option (Int32 × Mem) :=
  gd (nz x1) (some (((x0 &&& 2147483647) - (x0 &&& 2147483647) / x1 * x1), M))
def f_L_part_b5 : Nat → Nat → Int32 → Int32 → Int32 → Mem → Option (Int32 × Mem)
  | 0, _, _, _, _, _ => none
  | n + 1, a0, x1, x3, x4, M => (if x3 ≤ 0 then some (x4, M)
  else gd (lx M a0 (x1 + x4)) ((if 3 ≤ (M.1 a0 (ix (x1 + x4))) then gd (lx M a0 (x1 + x4)) ((if (M.1 a0 (ix (x1 + x4))) = 3 then bi (x3 + 0) fun y3 => bi (x4 + 1) fun y4 => f_L_part_b5 n a0 x1 y3 y4 M
  else bi (x3 + 1) fun y1 => bi (x4 + 1) fun y2 => f_L_part_b5 n a0 x1 y1 y2 M))
  else bi (x3 + (-1)) fun y5 => bi (x4 + 1) fun y6 => f_L_part_b5 n a0 x1 y5 y6 M)))
def f_L_part (a0 : Nat) (x1 : Int32) (x2 : Int32) (M : Mem) : Option (Int32 × Mem) :=
  f_L_part_b5 FU a0 x1 1 x2 M
def f_L_isCheap_b177 (x6 : Int32) (x7 : Int32) (M : Mem) : Option (Int32 × Mem) :=
  (if x7 = 0 then gd (isB 0) (some (0, M))
  else (if 4 ≤ x6 then gd (isB 0) (some (0, M))
  else gd (isB 1) (some (1, M))))
def f_L_isCheap_b136 (k42 : Nat → Nat → Nat → Int32 → Int32 → Int32 → Nat → Int32 → Mem → Option (Int32 × Mem)) (k55 : Nat → Nat → Nat → Int32 → Int32 → Int32 → Nat → Int32 → Int32 → Mem → Option (Int32 × Mem)) (a1 : Nat) (a2 : Nat) (a3 : Nat) (x5 : Int32) (x7 : Int32) (a8 : Nat) (x9 : Int32) (x10 : Int32) (x11 : Int32) (t0 : Int32) (t1 : Int32) (M : Mem) : Option (Int32 × Mem) :=
  bi (t1 + t0) fun y1 => (if x11 = 0 then bi (x10 + 1) fun y2 => k55 a1 a2 a3 x5 y1 x7 a8 x9 y2 M
  else gd (lx M a3 ((16 * x9) + x10)) (gd (lx M a8 (M.1 a3 (ix ((16 * x9) + x10)))) (gd (lx M a8 x9) (gd (lx M a8 (M.1 a3 (ix ((16 * x9) + x10)))) (bm (mset M a8 (ix (M.1 a3 (ix ((16 * x9) + x10)))) ((M.1 a8 (ix (M.1 a3 (ix ((16 * x9) + x10))))) + (M.1 a8 (ix x9)))) fun M3 => bi (x10 + 1) fun y4 => k55 a1 a2 a3 x5 y1 x7 a8 x9 y4 M3)))))
def f_L_isCheap_b118 (k42 : Nat → Nat → Nat → Int32 → Int32 → Int32 → Nat → Int32 → Mem → Option (Int32 × Mem)) (k55 : Nat → Nat → Nat → Int32 → Int32 → Int32 → Nat → Int32 → Int32 → Mem → Option (Int32 × Mem)) (a1 : Nat) (a2 : Nat) (a3 : Nat) (x5 : Int32) (x6 : Int32) (a8 : Nat) (x9 : Int32) (x10 : Int32) (x11 : Int32) (t0 : Int32) (M : Mem) : Option (Int32 × Mem) :=
  (if x11 = 0 then gd (lx M a8 x9) (f_L_isCheap_b136 k42 k55 a1 a2 a3 x5 t0 a8 x9 x10 x11 (M.1 a8 (ix x9)) x6 M)
  else f_L_isCheap_b136 k42 k55 a1 a2 a3 x5 t0 a8 x9 x10 x11 0 x6 M)
def f_L_isCheap_b117 (k42 : Nat → Nat → Nat → Int32 → Int32 → Int32 → Nat → Int32 → Mem → Option (Int32 × Mem)) (k55 : Nat → Nat → Nat → Int32 → Int32 → Int32 → Nat → Int32 → Int32 → Mem → Option (Int32 × Mem)) (a1 : Nat) (a2 : Nat) (a3 : Nat) (x5 : Int32) (x6 : Int32) (a8 : Nat) (x9 : Int32) (x10 : Int32) (x11 : Int32) (M : Mem) : Option (Int32 × Mem) :=
  f_L_isCheap_b118 k42 k55 a1 a2 a3 x5 x6 a8 x9 x10 x11 0 M
def f_L_isCheap_b91 (k42 : Nat → Nat → Nat → Int32 → Int32 → Int32 → Nat → Int32 → Mem → Option (Int32 × Mem)) (k55 : Nat → Nat → Nat → Int32 → Int32 → Int32 → Nat → Int32 → Int32 → Mem → Option (Int32 × Mem)) (a1 : Nat) (a2 : Nat) (a3 : Nat) (x5 : Int32) (x6 : Int32) (x7 : Int32) (a8 : Nat) (x9 : Int32) (x10 : Int32) (t0 : Int32) (M : Mem) : Option (Int32 × Mem) :=
  (if x7 = 0 then f_L_isCheap_b117 k42 k55 a1 a2 a3 x5 x6 a8 x9 x10 t0 M
  else gd (lx M a2 ((16 * x9) + x10)) ((if (M.1 a2 (ix ((16 * x9) + x10))) = 6 then f_L_isCheap_b117 k42 k55 a1 a2 a3 x5 x6 a8 x9 x10 t0 M
  else f_L_isCheap_b118 k42 k55 a1 a2 a3 x5 x6 a8 x9 x10 t0 1 M)))
def f_L_isCheap_b55 (k42 : Nat → Nat → Nat → Int32 → Int32 → Int32 → Nat → Int32 → Mem → Option (Int32 × Mem)) : Nat → Nat → Nat → Nat → Int32 → Int32 → Int32 → Nat → Int32 → Int32 → Mem → Option (Int32 × Mem)
  | 0, _, _, _, _, _, _, _, _, _, _ => none
  | n + 1, a1, a2, a3, x5, x6, x7, a8, x9, x10, M => gd (lx M a1 x9) ((if (M.1 a1 (ix x9)) ≤ x10 then bi (x9 + (-1)) fun y1 => k42 a1 a2 a3 x5 x6 x7 a8 y1 M
  else gd (lx M a8 x9) ((if (M.1 a8 (ix x9)) ≤ 0 then bi (x9 + (-1)) fun y2 => k42 a1 a2 a3 x5 x6 x7 a8 y2 M
  else gd (lx M a2 ((16 * x9) + x10)) ((if (M.1 a2 (ix ((16 * x9) + x10))) = 2 then f_L_isCheap_b91 k42 (f_L_isCheap_b55 k42 n) a1 a2 a3 x5 x6 x7 a8 x9 x10 1 M
  else f_L_isCheap_b91 k42 (f_L_isCheap_b55 k42 n) a1 a2 a3 x5 x6 x7 a8 x9 x10 0 M))))))
def f_L_isCheap_b42 : Nat → Nat → Nat → Nat → Int32 → Int32 → Int32 → Nat → Int32 → Mem → Option (Int32 × Mem)
  | 0, _, _, _, _, _, _, _, _, _ => none
  | n + 1, a1, a2, a3, x5, x6, x7, a8, x9, M => (if x9 < 0 then f_L_isCheap_b177 x6 x7 M
  else (if x5 ≤ 0 then f_L_isCheap_b177 x6 x7 M
  else f_L_isCheap_b55 (f_L_isCheap_b42 n) FU a1 a2 a3 x5 x6 x7 a8 x9 0 M))
def f_L_isCheap_b24 (a1 : Nat) (a2 : Nat) (a3 : Nat) (x4 : Int32) (x5 : Int32) (x6 : Int32) (t0 : Int32) (M : Mem) : Option (Int32 × Mem) :=
  bN M 8 fun b1 M1 => gd (lx M1 b1 x4) (bm (mset M1 b1 (ix x4) 1) fun M2 => f_L_isCheap_b42 FU a1 a2 a3 x5 x6 t0 b1 x4 M2)
def f_L_isCheap (a0 : Nat) (a1 : Nat) (a2 : Nat) (a3 : Nat) (x4 : Int32) (M : Mem) : Option (Int32 × Mem) :=
  bi (1 <<< (x4 &&& 31)) fun y1 => gd (lx M a0 0) ((if ((M.1 a0 (ix 0)) - 1) ≤ x4 then f_L_isCheap_b24 a1 a2 a3 x4 y1 0 0 M
  else f_L_isCheap_b24 a1 a2 a3 x4 y1 0 1 M))
def f_L_expand_b160 (k58 : Nat → Nat → Nat → Nat → Nat → Nat → Int32 → Int32 → Mem → Option (Int32 × Mem)) (k66 : Nat → Nat → Nat → Nat → Nat → Nat → Int32 → Int32 → Int32 → Mem → Option (Int32 × Mem)) : Nat → Nat → Nat → Nat → Nat → Nat → Nat → Int32 → Int32 → Int32 → Int32 → Mem → Option (Int32 × Mem)
  | 0, _, _, _, _, _, _, _, _, _, _, _ => none
  | n + 1, a0, a1, a2, a3, a5, a6, x7, x8, x9, x10, M => gd (lx M a1 x8) ((if (M.1 a1 (ix x8)) ≤ x10 then gd (lx M a1 x8) (bi (x7 + ((M.1 a1 (ix x8)) - 1)) fun y1 => bi (x9 + 1) fun y2 => k66 a0 a1 a2 a3 a5 a6 y1 x8 y2 M)
  else gd (lx M a2 ((16 * x8) + x10)) (gd (lx M a5 (x9 + x10)) (bm (mset M a5 (ix (x9 + x10)) (M.1 a2 (ix ((16 * x8) + x10)))) fun M3 => gd (lx M3 a3 ((16 * x8) + x10)) (gd (lx M3 a6 (x9 + x10)) (bm (mset M3 a6 (ix (x9 + x10)) (M3.1 a3 (ix ((16 * x8) + x10)))) fun M4 => bi (x10 + 1) fun y5 => f_L_expand_b160 k58 k66 n a0 a1 a2 a3 a5 a6 x7 x8 x9 y5 M4))))))
def f_L_expand_b110 (k58 : Nat → Nat → Nat → Nat → Nat → Nat → Int32 → Int32 → Mem → Option (Int32 × Mem)) (k66 : Nat → Nat → Nat → Nat → Nat → Nat → Int32 → Int32 → Int32 → Mem → Option (Int32 × Mem)) : Nat → Nat → Nat → Nat → Nat → Nat → Nat → Int32 → Int32 → Int32 → Int32 → Mem → Option (Int32 × Mem)
  | 0, _, _, _, _, _, _, _, _, _, _, _ => none
  | n + 1, a0, a1, a2, a3, a5, a6, x7, x8, x9, x10, M => (if x10 ≤ x9 then f_L_expand_b160 k58 k66 FU a0 a1 a2 a3 a5 a6 x7 x8 x9 0 M
  else gd (lx M a1 x8) (gd (lx M a5 x10) (gd (lx M a5 ((x10 + (M.1 a1 (ix x8))) - 1)) (bm (mset M a5 (ix ((x10 + (M.1 a1 (ix x8))) - 1)) (M.1 a5 (ix x10))) fun M1 => gd (lx M1 a1 x8) (gd (lx M1 a6 x10) (gd (lx M1 a6 ((x10 + (M1.1 a1 (ix x8))) - 1)) (bm (mset M1 a6 (ix ((x10 + (M1.1 a1 (ix x8))) - 1)) (M1.1 a6 (ix x10))) fun M2 => bi (x10 + (-1)) fun y3 => f_L_expand_b110 k58 k66 n a0 a1 a2 a3 a5 a6 x7 x8 x9 y3 M2)))))))
def f_L_expand_b66 (k58 : Nat → Nat → Nat → Nat → Nat → Nat → Int32 → Int32 → Mem → Option (Int32 × Mem)) : Nat → Nat → Nat → Nat → Nat → Nat → Nat → Int32 → Int32 → Int32 → Mem → Option (Int32 × Mem)
  | 0, _, _, _, _, _, _, _, _, _, _ => none
  | n + 1, a0, a1, a2, a3, a5, a6, x7, x8, x9, M => (if x7 ≤ x9 then bi (x8 + (-1)) fun y1 => k58 a0 a1 a2 a3 a5 a6 x7 y1 M
  else bd (f_L_isCheap a0 a1 a2 a3 x8 M) fun r2 M2 => (if r2 = 0 then bi (x8 + (-1)) fun y3 => k58 a0 a1 a2 a3 a5 a6 x7 y3 M2
  else gd (lx M2 a5 x9) ((if (M2.1 a5 (ix x9)) = 2 then gd (lx M2 a6 x9) ((if (M2.1 a6 (ix x9)) = x8 then bi (x7 - 1) fun y6 => f_L_expand_b110 k58 (f_L_expand_b66 k58 n) FU a0 a1 a2 a3 a5 a6 x7 x8 x9 y6 M2
  else bi (x9 + 1) fun y5 => f_L_expand_b66 k58 n a0 a1 a2 a3 a5 a6 x7 x8 y5 M2))
  else bi (x9 + 1) fun y4 => f_L_expand_b66 k58 n a0 a1 a2 a3 a5 a6 x7 x8 y4 M2))))
def f_L_expand_b58 : Nat → Nat → Nat → Nat → Nat → Nat → Nat → Int32 → Int32 → Mem → Option (Int32 × Mem)
  | 0, _, _, _, _, _, _, _, _, _ => none
  | n + 1, a0, a1, a2, a3, a5, a6, x7, x8, M => (if x8 < 0 then some (x7, M)
  else f_L_expand_b66 (f_L_expand_b58 n) FU a0 a1 a2 a3 a5 a6 x7 x8 0 M)
def f_L_expand_b9 : Nat → Nat → Nat → Nat → Nat → Int32 → Nat → Nat → Int32 → Int32 → Mem → Option (Int32 × Mem)
  | 0, _, _, _, _, _, _, _, _, _, _ => none
  | n + 1, a0, a1, a2, a3, x4, a5, a6, x7, x8, M => (if x7 ≤ x8 then bi (x4 - 1) fun y1 => f_L_expand_b58 FU a0 a1 a2 a3 a5 a6 x7 y1 M
  else gd (lx M a2 ((16 * x4) + x8)) (gd (lx M a5 x8) (bm (mset M a5 (ix x8) (M.1 a2 (ix ((16 * x4) + x8)))) fun M2 => gd (lx M2 a3 ((16 * x4) + x8)) (gd (lx M2 a6 x8) (bm (mset M2 a6 (ix x8) (M2.1 a3 (ix ((16 * x4) + x8)))) fun M3 => bi (x8 + 1) fun y4 => f_L_expand_b9 n a0 a1 a2 a3 x4 a5 a6 x7 y4 M3)))))
def f_L_expand (a0 : Nat) (a1 : Nat) (a2 : Nat) (a3 : Nat) (x4 : Int32) (a5 : Nat) (a6 : Nat) (M : Mem) : Option (Int32 × Mem) :=
  gd (lx M a1 x4) (bi (M.1 a1 (ix x4)) fun y1 => f_L_expand_b9 FU a0 a1 a2 a3 x4 a5 a6 y1 0 M)
def f_L_tell_b311 (k6 : Nat → Nat → Nat → Nat → Nat → Nat → Nat → Nat → Int32 → Mem → Option (Unit × Mem)) (a0 : Nat) (a1 : Nat) (a2 : Nat) (a3 : Nat) (a5 : Nat) (a6 : Nat) (a7 : Nat) (a8 : Nat) (x9 : Int32) (t0 : Int64) (M : Mem) : Option (Unit × Mem) :=
  (if (lg_cmp t0 99999) ≤ 0 then (if 0 ≤ (lg_cmp t0 (-99999)) then gd (lx M a8 x9) (bm (mset M a8 (ix x9) (Int64.toInt32 t0)) fun M1 => bi (x9 + (-1)) fun y2 => k6 a0 a1 a2 a3 a5 a6 a7 a8 y2 M1)
  else gd (lx M a8 x9) (bm (mset M a8 (ix x9) (-99999)) fun M3 => bi (x9 + (-1)) fun y4 => k6 a0 a1 a2 a3 a5 a6 a7 a8 y4 M3))
  else gd (lx M a8 x9) (bm (mset M a8 (ix x9) 99999) fun M5 => bi (x9 + (-1)) fun y6 => k6 a0 a1 a2 a3 a5 a6 a7 a8 y6 M5))
def f_L_tell_b232 (k6 : Nat → Nat → Nat → Nat → Nat → Nat → Nat → Nat → Int32 → Mem → Option (Unit × Mem)) (a0 : Nat) (a1 : Nat) (a2 : Nat) (a3 : Nat) (a5 : Nat) (a6 : Nat) (a7 : Nat) (a8 : Nat) (x9 : Int32) (x10 : Int32) (x11 : Int32) (t0 : Int32) (t1 : Int32) (t2 : Int32) (r3 : Nat) (M : Mem) : Option (Unit × Mem) :=
  gd (lx M r3 t2) (bm (mset M r3 (ix t2) (t1 + t0)) fun M1 => gd (lx M1 a2 x9) ((if (M1.1 a2 (ix x9)) = 3 then gd (lx M1 a8 x10) (f_L_tell_b311 k6 a0 a1 a2 a3 a5 a6 a7 a8 x9 (Int32.toInt64 (-(M1.1 a8 (ix x10)))) M1)
  else gd (lx M1 a2 x9) ((if (M1.1 a2 (ix x9)) = 4 then gd (lx M1 a8 x10) (gd (lx M1 a8 x11) (f_L_tell_b311 k6 a0 a1 a2 a3 a5 a6 a7 a8 x9 (Int32.toInt64 ((M1.1 a8 (ix x10)) + (M1.1 a8 (ix x11)))) M1))
  else gd (lx M1 a2 x9) ((if (M1.1 a2 (ix x9)) = 5 then gd (lx M1 a8 x10) (gd (lx M1 a8 x11) (f_L_tell_b311 k6 a0 a1 a2 a3 a5 a6 a7 a8 x9 (Int32.toInt64 ((M1.1 a8 (ix x10)) - (M1.1 a8 (ix x11)))) M1))
  else gd (lx M1 a8 x10) (gd (lx M1 a8 x11) (f_L_tell_b311 k6 a0 a1 a2 a3 a5 a6 a7 a8 x9 ((Int32.toInt64 (M1.1 a8 (ix x10))) * (Int32.toInt64 (M1.1 a8 (ix x11)))) M1)))))))))
def f_L_tell_b200 (k6 : Nat → Nat → Nat → Nat → Nat → Nat → Nat → Nat → Int32 → Mem → Option (Unit × Mem)) (a0 : Nat) (a1 : Nat) (a2 : Nat) (a3 : Nat) (a5 : Nat) (a6 : Nat) (a7 : Nat) (a8 : Nat) (x9 : Int32) (x10 : Int32) (x11 : Int32) (t0 : Int32) (t1 : Int32) (r2 : Nat) (M : Mem) : Option (Unit × Mem) :=
  gd (lx M r2 t1) (bm (mset M r2 (ix t1) t0) fun M1 => gd (lx M1 a7 x10) (gd (lx M1 a7 x11) ((if (M1.1 a7 (ix x10)) ≤ (M1.1 a7 (ix x11)) then gd (lx M1 a7 x11) (f_L_tell_b232 k6 a0 a1 a2 a3 a5 a6 a7 a8 x9 x10 x11 (M1.1 a7 (ix x11)) 1 x9 a7 M1)
  else gd (lx M1 a7 x10) (f_L_tell_b232 k6 a0 a1 a2 a3 a5 a6 a7 a8 x9 x10 x11 (M1.1 a7 (ix x10)) 1 x9 a7 M1)))))
def f_L_tell_b185 (k6 : Nat → Nat → Nat → Nat → Nat → Nat → Nat → Nat → Int32 → Mem → Option (Unit × Mem)) (a0 : Nat) (a1 : Nat) (a2 : Nat) (a3 : Nat) (a5 : Nat) (a6 : Nat) (a7 : Nat) (a8 : Nat) (x9 : Int32) (x10 : Int32) (x11 : Int32) (t0 : Int32) (r1 : Nat) (M : Mem) : Option (Unit × Mem) :=
  gd (lx M a6 x11) (f_L_tell_b200 k6 a0 a1 a2 a3 a5 a6 a7 a8 x9 x10 x11 (M.1 a6 (ix x11)) t0 r1 M)
def f_L_tell_b138 (k6 : Nat → Nat → Nat → Nat → Nat → Nat → Nat → Nat → Int32 → Mem → Option (Unit × Mem)) (a0 : Nat) (a1 : Nat) (a2 : Nat) (a3 : Nat) (a5 : Nat) (a6 : Nat) (a7 : Nat) (a8 : Nat) (x9 : Int32) (x10 : Int32) (x11 : Int32) (t0 : Int32) (t1 : Int32) (t2 : Int32) (r3 : Nat) (M : Mem) : Option (Unit × Mem) :=
  gd (lx M r3 t2) (bm (mset M r3 (ix t2) (t1 + t0)) fun M1 => gd (lx M1 a6 x10) (gd (lx M1 a6 x11) ((if (M1.1 a6 (ix x10)) ≤ (M1.1 a6 (ix x11)) then gd (lx M1 a6 x11) (gd (lx M1 a6 x10) ((if (M1.1 a6 (ix x10)) < (M1.1 a6 (ix x11)) then f_L_tell_b185 k6 a0 a1 a2 a3 a5 a6 a7 a8 x9 x10 x11 x9 a6 M1
  else (if x11 = x10 then f_L_tell_b185 k6 a0 a1 a2 a3 a5 a6 a7 a8 x9 x10 x11 x9 a6 M1
  else gd (lx M1 a6 x10) (f_L_tell_b200 k6 a0 a1 a2 a3 a5 a6 a7 a8 x9 x10 x11 ((M1.1 a6 (ix x10)) + 1) x9 a6 M1)))))
  else gd (lx M1 a6 x10) (f_L_tell_b200 k6 a0 a1 a2 a3 a5 a6 a7 a8 x9 x10 x11 (M1.1 a6 (ix x10)) x9 a6 M1)))))
def f_L_tell_b109 (k6 : Nat → Nat → Nat → Nat → Nat → Nat → Nat → Nat → Int32 → Mem → Option (Unit × Mem)) (a0 : Nat) (a1 : Nat) (a2 : Nat) (a3 : Nat) (a5 : Nat) (a6 : Nat) (a7 : Nat) (a8 : Nat) (x9 : Int32) (x10 : Int32) (t0 : Int32) (M : Mem) : Option (Unit × Mem) :=
  gd (lx M a5 x10) ((if t0 ≤ x10 then f_L_tell_b138 k6 a0 a1 a2 a3 a5 a6 a7 a8 x9 x10 t0 0 (1 + (M.1 a5 (ix x10))) x9 a5 M
  else gd (lx M a5 t0) (f_L_tell_b138 k6 a0 a1 a2 a3 a5 a6 a7 a8 x9 x10 t0 (M.1 a5 (ix t0)) (1 + (M.1 a5 (ix x10))) x9 a5 M)))
def f_L_tell_b6 : Nat → Nat → Nat → Nat → Nat → Nat → Nat → Nat → Nat → Int32 → Mem → Option (Unit × Mem)
  | 0, _, _, _, _, _, _, _, _, _, _ => none
  | n + 1, a0, a1, a2, a3, a5, a6, a7, a8, x9, M => (if x9 < 0 then some ((), M)
  else gd (lx M a2 x9) ((if 3 ≤ (M.1 a2 (ix x9)) then bi (x9 + 1) fun y1 => gd (lx M a2 x9) ((if (M.1 a2 (ix x9)) = 3 then f_L_tell_b109 (f_L_tell_b6 n) a0 a1 a2 a3 a5 a6 a7 a8 x9 y1 y1 M
  else gd (lx M a5 y1) (f_L_tell_b109 (f_L_tell_b6 n) a0 a1 a2 a3 a5 a6 a7 a8 x9 y1 (y1 + (M.1 a5 (ix y1))) M)))
  else gd (lx M a5 x9) (bm (mset M a5 (ix x9) 1) fun M2 => gd (lx M2 a6 x9) (bm (mset M2 a6 (ix x9) 1) fun M3 => gd (lx M3 a7 x9) (bm (mset M3 a7 (ix x9) 1) fun M4 => gd (lx M4 a2 x9) ((if (M4.1 a2 (ix x9)) = 0 then gd (lx M4 a3 x9) (gd (lx M4 a8 x9) (bm (mset M4 a8 (ix x9) (M4.1 a3 (ix x9))) fun M9 => bi (x9 + (-1)) fun y10 => f_L_tell_b6 n a0 a1 a2 a3 a5 a6 a7 a8 y10 M9))
  else gd (lx M4 a2 x9) ((if (M4.1 a2 (ix x9)) = 1 then gd (lx M4 a3 x9) (gd (lx M4 a0 (M4.1 a3 (ix x9))) (gd (lx M4 a8 x9) (bm (mset M4 a8 (ix x9) (M4.1 a0 (ix (M4.1 a3 (ix x9))))) fun M7 => bi (x9 + (-1)) fun y8 => f_L_tell_b6 n a0 a1 a2 a3 a5 a6 a7 a8 y8 M7)))
  else gd (lx M4 a3 x9) (gd (lx M4 a1 (M4.1 a3 (ix x9))) (gd (lx M4 a8 x9) (bm (mset M4 a8 (ix x9) (M4.1 a1 (ix (M4.1 a3 (ix x9))))) fun M5 => bi (x9 + (-1)) fun y6 => f_L_tell_b6 n a0 a1 a2 a3 a5 a6 a7 a8 y6 M5)))))))))))))
def f_L_tell (a0 : Nat) (a1 : Nat) (a2 : Nat) (a3 : Nat) (x4 : Int32) (a5 : Nat) (a6 : Nat) (a7 : Nat) (a8 : Nat) (M : Mem) : Option (Unit × Mem) :=
  bi (x4 - 1) fun y1 => f_L_tell_b6 FU a0 a1 a2 a3 a5 a6 a7 a8 y1 M
def f_L_worths_b3 : Nat → Nat → Nat → Nat → Nat → Nat → Nat → Int32 → Mem → Option (Unit × Mem)
  | 0, _, _, _, _, _, _, _, _ => none
  | n + 1, a0, a1, a2, a3, a4, a5, x6, M => gd (lx M a0 0) ((if (M.1 a0 (ix 0)) ≤ x6 then some ((), M)
  else bN M 64 fun b1 M1 => bN M1 64 fun b2 M2 => bN M2 64 fun b3 M3 => bN M3 64 fun b4 M4 => bd (f_L_expand a0 a2 a3 a4 x6 b1 b2 M4) fun r5 M5 => bN M5 64 fun b6 M6 => bN M6 64 fun b7 M7 => bd (f_L_tell a1 a5 b1 b2 r5 b3 b6 b7 b4 M7) fun _ M8 => gd (lx M8 b4 0) (gd (lx M8 a5 x6) (bm (mset M8 a5 (ix x6) (M8.1 b4 (ix 0))) fun M9 => bi (x6 + 1) fun y10 => f_L_worths_b3 n a0 a1 a2 a3 a4 a5 y10 M9))))
def f_L_worths (a0 : Nat) (a1 : Nat) (a2 : Nat) (a3 : Nat) (a4 : Nat) (a5 : Nat) (M : Mem) : Option (Unit × Mem) :=
  f_L_worths_b3 FU a0 a1 a2 a3 a4 a5 0 M
def f_L_put (a1 : Nat) (x2 : Int32) (M : Mem) : Option (Int32 × Mem) :=
  gd (lx M a1 0) (gd (lx M a1 0) (bm (mset M a1 (ix 0) ((M.1 a1 (ix 0)) + 1)) fun M1 => bk M1 (f_LP_append x2 M1) fun r2 M2 => gd (lx M2 a1 0) ((if r2 = (M2.1 a1 (ix 0)) then gd (isB 1) (some (1, M2))
  else gd (isB 0) (some (0, M2))))))
def f_L_grow_b170 (k3 : Nat → Nat → Int32 → Int32 → Int32 → Int32 → Mem → Option (Unit × Mem)) (a0 : Nat) (a1 : Nat) (x2 : Int32) (x3 : Int32) (x4 : Int32) (x5 : Int32) (x6 : Int32) (t0 : Int32) (t1 : Int32) (r2 : Nat) (M : Mem) : Option (Unit × Mem) :=
  gd (lx M r2 t1) (bm (mset M r2 (ix t1) t0) fun M1 => gd (lx M1 a0 x5) ((if (M1.1 a0 (ix x5)) = 0 then gd (lx M1 a1 x5) (bm (mset M1 a1 (ix x5) ((x6 / 10) - (x6 / 10) / 40 * 40)) fun M9 => bi (x5 + 1) fun y10 => k3 a0 a1 x2 x3 x4 y10 M9)
  else gd (lx M1 a0 x5) ((if (M1.1 a0 (ix x5)) = 1 then gd (lx M1 a1 x5) (bm (mset M1 a1 (ix x5) ((x6 / 10) - (x6 / 10) / 8 * 8)) fun M7 => bi (x5 + 1) fun y8 => k3 a0 a1 x2 x3 x4 y8 M7)
  else gd (lx M1 a0 x5) ((if (M1.1 a0 (ix x5)) = 2 then gd (nz x4) (gd (lx M1 a1 x5) (bm (mset M1 a1 (ix x5) ((x6 / 10) - (x6 / 10) / x4 * x4)) fun M4 => bi (x5 + 1) fun y5 => k3 a0 a1 x2 x3 x4 y5 M4))
  else gd (lx M1 a1 x5) (bm (mset M1 a1 (ix x5) (-1000009)) fun M2 => bi (x5 + 1) fun y3 => k3 a0 a1 x2 x3 x4 y3 M2))))))))
def f_L_grow_b166 (k3 : Nat → Nat → Int32 → Int32 → Int32 → Int32 → Mem → Option (Unit × Mem)) (a0 : Nat) (a1 : Nat) (x2 : Int32) (x3 : Int32) (x4 : Int32) (x5 : Int32) (x6 : Int32) (t0 : Int32) (r1 : Nat) (M : Mem) : Option (Unit × Mem) :=
  f_L_grow_b170 k3 a0 a1 x2 x3 x4 x5 x6 (x6 - x6 / 2 * 2) t0 r1 M
def f_L_grow_b104 (k3 : Nat → Nat → Int32 → Int32 → Int32 → Int32 → Mem → Option (Unit × Mem)) (a0 : Nat) (a1 : Nat) (x2 : Int32) (x3 : Int32) (x4 : Int32) (x5 : Int32) (x6 : Int32) (x8 : Int32) (t0 : Int32) (M : Mem) : Option (Unit × Mem) :=
  (if t0 = 0 then (if x4 ≤ 0 then f_L_grow_b166 k3 a0 a1 x2 x3 x4 x5 x6 x5 a0 M
  else (if (x6 - x6 / 4 * 4) = 1 then f_L_grow_b170 k3 a0 a1 x2 x3 x4 x5 x6 2 x5 a0 M
  else f_L_grow_b166 k3 a0 a1 x2 x3 x4 x5 x6 x5 a0 M))
  else (if 1 ≤ x8 then (if 3 ≤ x8 then (if 5 ≤ x8 then f_L_grow_b170 k3 a0 a1 x2 x3 x4 x5 x6 6 x5 a0 M
  else f_L_grow_b170 k3 a0 a1 x2 x3 x4 x5 x6 5 x5 a0 M)
  else f_L_grow_b170 k3 a0 a1 x2 x3 x4 x5 x6 4 x5 a0 M)
  else f_L_grow_b170 k3 a0 a1 x2 x3 x4 x5 x6 3 x5 a0 M))
def f_L_grow_b103 (k3 : Nat → Nat → Int32 → Int32 → Int32 → Int32 → Mem → Option (Unit × Mem)) (a0 : Nat) (a1 : Nat) (x2 : Int32) (x3 : Int32) (x4 : Int32) (x5 : Int32) (x6 : Int32) (x8 : Int32) (M : Mem) : Option (Unit × Mem) :=
  f_L_grow_b104 k3 a0 a1 x2 x3 x4 x5 x6 x8 0 M
def f_L_grow_b99 (k3 : Nat → Nat → Int32 → Int32 → Int32 → Int32 → Mem → Option (Unit × Mem)) (a0 : Nat) (a1 : Nat) (x2 : Int32) (x3 : Int32) (x4 : Int32) (x5 : Int32) (x6 : Int32) (x8 : Int32) (M : Mem) : Option (Unit × Mem) :=
  f_L_grow_b104 k3 a0 a1 x2 x3 x4 x5 x6 x8 1 M
def f_L_grow_b61 (k3 : Nat → Nat → Int32 → Int32 → Int32 → Int32 → Mem → Option (Unit × Mem)) (a0 : Nat) (a1 : Nat) (x2 : Int32) (x3 : Int32) (x4 : Int32) (x5 : Int32) (x6 : Int32) (t0 : Int32) (M : Mem) : Option (Unit × Mem) :=
  bi (x6 - x6 / 7 * 7) fun y1 => (if x3 ≤ t0 then f_L_grow_b103 k3 a0 a1 x2 x3 x4 x5 x6 y1 M
  else (if t0 = 0 then (if (x6 - x6 / 9 * 9) ≤ 0 then f_L_grow_b103 k3 a0 a1 x2 x3 x4 x5 x6 y1 M
  else f_L_grow_b99 k3 a0 a1 x2 x3 x4 x5 x6 y1 M)
  else (if (x6 - x6 / 3 * 3) ≤ 0 then f_L_grow_b103 k3 a0 a1 x2 x3 x4 x5 x6 y1 M
  else f_L_grow_b99 k3 a0 a1 x2 x3 x4 x5 x6 y1 M)))
def f_L_grow_b3 : Nat → Nat → Nat → Int32 → Int32 → Int32 → Int32 → Mem → Option (Unit × Mem)
  | 0, _, _, _, _, _, _, _ => none
  | n + 1, a0, a1, x2, x3, x4, x5, M => (if 15 ≤ x5 then some ((), M)
  else gd (nz (x5 + 3)) (bd (f_L_low ((x2 / (x5 + 3)) + (7919 * x5)) 100000 M) fun r1 M1 => (if x5 = 0 then f_L_grow_b61 (f_L_grow_b3 n) a0 a1 x2 x3 x4 x5 r1 0 M1
  else (if 3 ≤ x5 then (if 7 ≤ x5 then f_L_grow_b61 (f_L_grow_b3 n) a0 a1 x2 x3 x4 x5 r1 3 M1
  else f_L_grow_b61 (f_L_grow_b3 n) a0 a1 x2 x3 x4 x5 r1 2 M1)
  else f_L_grow_b61 (f_L_grow_b3 n) a0 a1 x2 x3 x4 x5 r1 1 M1))))
def f_L_grow (a0 : Nat) (a1 : Nat) (x2 : Int32) (x3 : Int32) (x4 : Int32) (M : Mem) : Option (Unit × Mem) :=
  f_L_grow_b3 FU a0 a1 x2 x3 x4 0 M
def f_L_types_b305 (k18 : Nat → Nat → Nat → Nat → Nat → Nat → Int32 → Nat → Int32 → Int32 → Mem → Option (Int32 × Mem)) (a1 : Nat) (a2 : Nat) (a3 : Nat) (a4 : Nat) (a5 : Nat) (a6 : Nat) (x7 : Int32) (a8 : Nat) (x9 : Int32) (x10 : Int32) (x11 : Int32) (t0 : Int32) (t1 : Int32) (t2 : Int32) (r3 : Nat) (M : Mem) : Option (Int32 × Mem) :=
  gd (lx M r3 t2) (bm (mset M r3 (ix t2) (t1 + t0)) fun M1 => gd (lx M1 a8 (x9 + 3)) (bm (mset M1 a8 (ix (x9 + 3)) ((2 * x11) + 1)) fun M2 => bi (x9 + 4) fun y3 => k18 a1 a2 a3 a4 a5 a6 x7 a8 y3 x10 M2))
def f_L_types_b192 (k18 : Nat → Nat → Nat → Nat → Nat → Nat → Int32 → Nat → Int32 → Int32 → Mem → Option (Int32 × Mem)) (a1 : Nat) (a2 : Nat) (a3 : Nat) (a4 : Nat) (a5 : Nat) (a6 : Nat) (x7 : Int32) (a8 : Nat) (x9 : Int32) (x11 : Int32) (t0 : Int32) (r1 : Nat) (M : Mem) : Option (Int32 × Mem) :=
  gd (lx M a3 x11) (bd (f_L_put r1 (t0 + (M.1 a3 (ix x11))) M) fun r1 M1 => k18 a1 a2 a3 a4 a5 a6 x7 a8 x9 r1 M1)
def f_L_types_b139 (k18 : Nat → Nat → Nat → Nat → Nat → Nat → Int32 → Nat → Int32 → Int32 → Mem → Option (Int32 × Mem)) (a1 : Nat) (a2 : Nat) (a3 : Nat) (a4 : Nat) (a5 : Nat) (a6 : Nat) (x7 : Int32) (a8 : Nat) (x9 : Int32) (x11 : Int32) (M : Mem) : Option (Int32 × Mem) :=
  gd (lx M a3 x11) (bd (f_L_put a1 (48 + ((M.1 a3 (ix x11)) - (M.1 a3 (ix x11)) / 10 * 10)) M) fun r1 M1 => (if r1 = 0 then k18 a1 a2 a3 a4 a5 a6 x7 a8 x9 0 M1
  else k18 a1 a2 a3 a4 a5 a6 x7 a8 x9 1 M1))
def f_L_types_b18 : Nat → Nat → Nat → Nat → Nat → Nat → Nat → Int32 → Nat → Int32 → Int32 → Mem → Option (Int32 × Mem)
  | 0, _, _, _, _, _, _, _, _, _, _, _ => none
  | n + 1, a1, a2, a3, a4, a5, a6, x7, a8, x9, x10, M => (if x9 ≤ 0 then gd (isB x10) (some (x10, M))
  else (if x10 = 0 then gd (isB x10) (some (x10, M))
  else bi (x9 + (-1)) fun y1 => gd (lx M a8 y1) (bi (M.1 a8 (ix y1)) fun y2 => (if y2 ≤ 99 then gd (lx M a4 x7) (gd (lx M a2 y2) (gd (lx M a5 ((16 * x7) + (M.1 a4 (ix x7)))) (bm (mset M a5 (ix ((16 * x7) + (M.1 a4 (ix x7)))) (M.1 a2 (ix y2))) fun M3 => gd (lx M3 a4 x7) (gd (lx M3 a3 y2) (gd (lx M3 a6 ((16 * x7) + (M3.1 a4 (ix x7)))) (bm (mset M3 a6 (ix ((16 * x7) + (M3.1 a4 (ix x7)))) (M3.1 a3 (ix y2))) fun M4 => gd (lx M4 a4 x7) (gd (lx M4 a4 x7) (bm (mset M4 a4 (ix x7) ((M4.1 a4 (ix x7)) + 1)) fun M5 => gd (lx M5 a2 y2) ((if (M5.1 a2 (ix y2)) = 0 then gd (lx M5 a3 y2) ((if (M5.1 a3 (ix y2)) < 10 then f_L_types_b139 (f_L_types_b18 n) a1 a2 a3 a4 a5 a6 x7 a8 y1 y2 M5
  else gd (lx M5 a3 y2) (bd (f_L_put a1 (48 + ((M5.1 a3 (ix y2)) / 10)) M5) fun r12 M12 => (if r12 = 0 then f_L_types_b18 n a1 a2 a3 a4 a5 a6 x7 a8 y1 0 M12
  else f_L_types_b139 (f_L_types_b18 n) a1 a2 a3 a4 a5 a6 x7 a8 y1 y2 M12))))
  else gd (lx M5 a2 y2) ((if 3 ≤ (M5.1 a2 (ix y2)) then gd (lx M5 a2 y2) ((if (M5.1 a2 (ix y2)) = 3 then bd (f_L_put a1 33 M5) fun r9 M9 => gd (lx M9 a8 y1) (bm (mset M9 a8 (ix y1) ((2 * y2) + 1)) fun M10 => bi (y1 + 1) fun y11 => f_L_types_b18 n a1 a2 a3 a4 a5 a6 x7 a8 y11 r9 M10)
  else bd (f_L_put a1 40 M5) fun r6 M6 => gd (lx M6 a8 y1) (bm (mset M6 a8 (ix y1) 141) fun M7 => gd (lx M7 a8 (y1 + 1)) (bm (mset M7 a8 (ix (y1 + 1)) ((2 * y2) + 2)) fun M8 => gd (lx M8 a2 y2) ((if (M8.1 a2 (ix y2)) = 4 then f_L_types_b305 (f_L_types_b18 n) a1 a2 a3 a4 a5 a6 x7 a8 y1 r6 y2 43 100 (y1 + 2) a8 M8
  else gd (lx M8 a2 y2) ((if (M8.1 a2 (ix y2)) = 5 then f_L_types_b305 (f_L_types_b18 n) a1 a2 a3 a4 a5 a6 x7 a8 y1 r6 y2 45 100 (y1 + 2) a8 M8
  else f_L_types_b305 (f_L_types_b18 n) a1 a2 a3 a4 a5 a6 x7 a8 y1 r6 y2 42 100 (y1 + 2) a8 M8))))))))
  else gd (lx M5 a2 y2) ((if (M5.1 a2 (ix y2)) = 1 then f_L_types_b192 (f_L_types_b18 n) a1 a2 a3 a4 a5 a6 x7 a8 y1 y2 97 a1 M5
  else f_L_types_b192 (f_L_types_b18 n) a1 a2 a3 a4 a5 a6 x7 a8 y1 y2 65 a1 M5))))))))))))))
  else bd (f_L_put a1 (y2 - 100) M) fun r13 M13 => f_L_types_b18 n a1 a2 a3 a4 a5 a6 x7 a8 y1 r13 M13))))
def f_L_types (a1 : Nat) (a2 : Nat) (a3 : Nat) (a4 : Nat) (a5 : Nat) (a6 : Nat) (x7 : Int32) (M : Mem) : Option (Int32 × Mem) :=
  bN M 64 fun b1 M1 => gd (lx M1 a4 x7) (bm (mset M1 a4 (ix x7) 0) fun M2 => f_L_types_b18 FU a1 a2 a3 a4 a5 a6 x7 b1 1 1 M2)
def f_L_reads_b198 (a1 : Nat) (a8 : Nat) (x9 : Int32) (x10 : Int32) (M : Mem) : Option (Int32 × Mem) :=
  gd (lx M a1 0) (bm (mset M a1 (ix 0) (x9 + 1)) fun M1 => (if x10 = 0 then gd (isB 0) (some (0, M1))
  else bk M1 (f_LP_count 6 M1) fun r2 M2 => gd (lx M2 a8 0) ((if r2 = (M2.1 a8 (ix 0)) then bk M2 (f_LP_read M2) fun r3 M3 => gd (lx M3 a1 0) ((if r3 = (M3.1 a1 (ix 0)) then gd (isB 1) (some (1, M3))
  else gd (isB 0) (some (0, M3))))
  else gd (isB 0) (some (0, M2))))))
def f_L_reads_b141 (k34 : Nat → Nat → Nat → Nat → Int32 → Nat → Nat → Nat → Int32 → Int32 → Int32 → Mem → Option (Int32 × Mem)) (a1 : Nat) (a2 : Nat) (a3 : Nat) (a4 : Nat) (x5 : Int32) (a6 : Nat) (a7 : Nat) (a8 : Nat) (x9 : Int32) (x11 : Int32) (t0 : Int32) (M : Mem) : Option (Int32 × Mem) :=
  (if t0 = 0 then bi (x11 + 1) fun y1 => k34 a1 a2 a3 a4 x5 a6 a7 a8 x9 0 y1 M
  else bd (f_L_types a8 a6 a7 a2 a3 a4 x11 M) fun r2 M2 => (if r2 = 0 then bi (x11 + 1) fun y3 => k34 a1 a2 a3 a4 x5 a6 a7 a8 x9 0 y3 M2
  else (if x11 = x9 then bi (x11 + 1) fun y4 => k34 a1 a2 a3 a4 x5 a6 a7 a8 x9 1 y4 M2
  else bd (f_L_put a8 59 M2) fun r5 M5 => (if r5 = 0 then bi (x11 + 1) fun y6 => k34 a1 a2 a3 a4 x5 a6 a7 a8 x9 0 y6 M5
  else bi (x11 + 1) fun y7 => k34 a1 a2 a3 a4 x5 a6 a7 a8 x9 1 y7 M5))))
def f_L_reads_b136 (k34 : Nat → Nat → Nat → Nat → Int32 → Nat → Nat → Nat → Int32 → Int32 → Int32 → Mem → Option (Int32 × Mem)) (a1 : Nat) (a2 : Nat) (a3 : Nat) (a4 : Nat) (x5 : Int32) (a6 : Nat) (a7 : Nat) (a8 : Nat) (x9 : Int32) (x11 : Int32) (M : Mem) : Option (Int32 × Mem) :=
  f_L_reads_b141 k34 a1 a2 a3 a4 x5 a6 a7 a8 x9 x11 1 M
def f_L_reads_b140 (k34 : Nat → Nat → Nat → Nat → Int32 → Nat → Nat → Nat → Int32 → Int32 → Int32 → Mem → Option (Int32 × Mem)) (a1 : Nat) (a2 : Nat) (a3 : Nat) (a4 : Nat) (x5 : Int32) (a6 : Nat) (a7 : Nat) (a8 : Nat) (x9 : Int32) (x11 : Int32) (M : Mem) : Option (Int32 × Mem) :=
  f_L_reads_b141 k34 a1 a2 a3 a4 x5 a6 a7 a8 x9 x11 0 M
def f_L_reads_b99 (k34 : Nat → Nat → Nat → Nat → Int32 → Nat → Nat → Nat → Int32 → Int32 → Int32 → Mem → Option (Int32 × Mem)) (a1 : Nat) (a2 : Nat) (a3 : Nat) (a4 : Nat) (x5 : Int32) (a6 : Nat) (a7 : Nat) (a8 : Nat) (x9 : Int32) (x11 : Int32) (t0 : Int32) (t1 : Int32) (r2 : Nat) (r3 : Nat) (M : Mem) : Option (Int32 × Mem) :=
  bd (f_L_grow r3 r2 t1 t0 x11 M) fun _ M1 => (if x11 = x9 then f_L_reads_b136 k34 a1 a2 a3 a4 x5 a6 a7 a8 x9 x11 M1
  else bd (f_L_put a8 (65 + x11) M1) fun r2 M2 => (if r2 = 0 then f_L_reads_b140 k34 a1 a2 a3 a4 x5 a6 a7 a8 x9 x11 M2
  else bd (f_L_put a8 61 M2) fun r3 M3 => (if r3 = 0 then f_L_reads_b140 k34 a1 a2 a3 a4 x5 a6 a7 a8 x9 x11 M3
  else f_L_reads_b136 k34 a1 a2 a3 a4 x5 a6 a7 a8 x9 x11 M3)))
def f_L_reads_b34 : Nat → Nat → Nat → Nat → Nat → Int32 → Nat → Nat → Nat → Int32 → Int32 → Int32 → Mem → Option (Int32 × Mem)
  | 0, _, _, _, _, _, _, _, _, _, _, _, _ => none
  | n + 1, a1, a2, a3, a4, x5, a6, a7, a8, x9, x10, x11, M => (if x9 < x11 then f_L_reads_b198 a1 a8 x9 x10 M
  else (if x10 = 0 then f_L_reads_b198 a1 a8 x9 x10 M
  else bd (f_L_low (x5 * ((2 * x11) + 3)) 100000000 M) fun r1 M1 => (if x9 ≤ x11 then (if 3 ≤ x9 then f_L_reads_b99 (f_L_reads_b34 n) a1 a2 a3 a4 x5 a6 a7 a8 x9 x11 2 r1 a7 a6 M1
  else f_L_reads_b99 (f_L_reads_b34 n) a1 a2 a3 a4 x5 a6 a7 a8 x9 x11 3 r1 a7 a6 M1)
  else (if ((x5 / 4) - (x5 / 4) / 4 * 4) = 0 then f_L_reads_b99 (f_L_reads_b34 n) a1 a2 a3 a4 x5 a6 a7 a8 x9 x11 2 r1 a7 a6 M1
  else f_L_reads_b99 (f_L_reads_b34 n) a1 a2 a3 a4 x5 a6 a7 a8 x9 x11 1 r1 a7 a6 M1))))
def f_L_reads (a1 : Nat) (a2 : Nat) (a3 : Nat) (a4 : Nat) (x5 : Int32) (M : Mem) : Option (Int32 × Mem) :=
  bN M 16 fun b1 M1 => bN M1 16 fun b2 M2 => bN M2 1 fun b3 M3 => bi (x5 - x5 / 4 * 4) fun y4 => bk M3 (f_LP_clearText M3) fun r5 M5 => f_L_reads_b34 FU a1 a2 a3 a4 x5 b1 b2 b3 y4 1 0 M5
def f_L_acts_b381 : Nat → Nat → Nat → Nat → Nat → Nat → Int32 → Int32 → Int32 → Int32 → Nat → Nat → Int32 → Mem → Option (Int32 × Mem)
  | 0, _, _, _, _, _, _, _, _, _, _, _, _, _ => none
  | n + 1, a1, a2, a3, a4, a5, x9, x10, x11, x13, a14, a15, x16, M => (if x13 ≤ x16 then bN M 64 fun b1 M1 => bd (f_L_expand a1 a3 a4 a5 x9 a14 a15 M1) fun r2 M2 => bN M2 8 fun b3 M3 => bN M3 64 fun b4 M4 => bN M4 64 fun b5 M5 => bN M5 64 fun b6 M6 => bd (f_L_tell a2 b3 a14 a15 r2 b4 b1 b5 b6 M6) fun _ M7 => bk M7 (f_LP_turn x9 x10 M7) fun r8 M8 => gd (lx M8 b1 0) ((if r8 = (M8.1 b1 (ix 0)) then gd (isB 1) (some (1, M8))
  else gd (isB 0) (some (0, M8))))
  else gd (lx M a14 x16) (gd (lx M a4 (x11 + x16)) (bm (mset M a4 (ix (x11 + x16)) (M.1 a14 (ix x16))) fun M9 => gd (lx M9 a15 x16) (gd (lx M9 a5 (x11 + x16)) (bm (mset M9 a5 (ix (x11 + x16)) (M9.1 a15 (ix x16))) fun M10 => bi (x16 + 1) fun y11 => f_L_acts_b381 n a1 a2 a3 a4 a5 x9 x10 x11 x13 a14 a15 y11 M10)))))
def f_L_acts_b341 (k306 : Nat → Nat → Nat → Nat → Nat → Int32 → Int32 → Int32 → Int32 → Int32 → Nat → Nat → Int32 → Mem → Option (Int32 × Mem)) (a1 : Nat) (a2 : Nat) (a3 : Nat) (a4 : Nat) (a5 : Nat) (x9 : Int32) (x10 : Int32) (x11 : Int32) (x12 : Int32) (x13 : Int32) (a14 : Nat) (a15 : Nat) (x16 : Int32) (t0 : Int32) (M : Mem) : Option (Int32 × Mem) :=
  gd (lx M a4 (x11 + x16)) (gd (lx M a14 t0) (bm (mset M a14 (ix t0) (M.1 a4 (ix (x11 + x16)))) fun M1 => gd (lx M1 a5 (x11 + x16)) (gd (lx M1 a15 t0) (bm (mset M1 a15 (ix t0) (M1.1 a5 (ix (x11 + x16)))) fun M2 => bi (x16 + 1) fun y3 => k306 a1 a2 a3 a4 a5 x9 x10 x11 x12 x13 a14 a15 y3 M2))))
def f_L_acts_b306 : Nat → Nat → Nat → Nat → Nat → Nat → Int32 → Int32 → Int32 → Int32 → Int32 → Nat → Nat → Int32 → Mem → Option (Int32 × Mem)
  | 0, _, _, _, _, _, _, _, _, _, _, _, _, _, _ => none
  | n + 1, a1, a2, a3, a4, a5, x9, x10, x11, x12, x13, a14, a15, x16, M => (if x13 ≤ x16 then bi (x10 + 1) fun y1 => f_L_acts_b381 FU a1 a2 a3 a4 a5 x9 x10 x11 x13 a14 a15 y1 M
  else (if x12 ≤ x16 then f_L_acts_b341 (f_L_acts_b306 n) a1 a2 a3 a4 a5 x9 x10 x11 x12 x13 a14 a15 x16 (((x16 - x12) + x10) + 1) M
  else f_L_acts_b341 (f_L_acts_b306 n) a1 a2 a3 a4 a5 x9 x10 x11 x12 x13 a14 a15 x16 ((x16 + x13) - x12) M))
def f_L_acts_b264 (a1 : Nat) (a2 : Nat) (a3 : Nat) (a4 : Nat) (a5 : Nat) (x9 : Int32) (x10 : Int32) (x11 : Int32) (M : Mem) : Option (Int32 × Mem) :=
  bd (f_L_part a4 x11 (x10 + 1) M) fun r1 M1 => bd (f_L_part a4 x11 r1 M1) fun r2 M2 => bN M2 64 fun b3 M3 => bN M3 64 fun b4 M4 => bi (x10 + 1) fun y5 => f_L_acts_b306 FU a1 a2 a3 a4 a5 x9 x10 x11 r1 r2 b3 b4 y5 M4
def f_L_acts_b130 (a1 : Nat) (x9 : Int32) (t0 : Int32) (t1 : Int32) (t2 : Int32) (t3 : Int32) (r4 : Nat) (M : Mem) : Option (Int32 × Mem) :=
  gd (nz t0) (gd (lx M r4 t3) (bm (mset M r4 (ix t3) (t2 + (t1 - t1 / t0 * t0))) fun M1 => gd (lx M1 a1 1) (bk M1 (f_LP_setPlaces (M1.1 a1 (ix 1)) M1) fun r2 M2 => (if r2 = x9 then gd (isB 1) (some (1, M2))
  else gd (isB 0) (some (0, M2))))))
def f_L_acts (a1 : Nat) (a2 : Nat) (a3 : Nat) (a4 : Nat) (a5 : Nat) (x6 : Int32) (M : Mem) : Option (Int32 × Mem) :=
  bd (f_L_low (x6 >>> (5 &&& 31)) 10000000 M) fun r1 M1 => bd (f_L_low x6 12 M1) fun r2 M2 => (if 3 ≤ r2 then (if 6 ≤ r2 then (if 8 ≤ r2 then gd (lx M2 a1 0) (gd (nz (M2.1 a1 (ix 0))) (bi (r1 - r1 / (M2.1 a1 (ix 0)) * (M2.1 a1 (ix 0))) fun y3 => gd (lx M2 a3 y3) (gd (nz ((M2.1 a3 (ix y3)) + 1)) (bi ((r1 / 4) - (r1 / 4) / ((M2.1 a3 (ix y3)) + 1) * ((M2.1 a3 (ix y3)) + 1)) fun y4 => gd (lx M2 a3 y3) ((if y4 = (M2.1 a3 (ix y3)) then bk M2 (f_LP_turn y3 y4 M2) fun r7 M7 => (if r7 = (-1000001) then gd (lx M7 a1 0) (bk M7 (f_LP_turn (M7.1 a1 (ix 0)) 0 M7) fun r8 M8 => (if r8 = (-1000001) then gd (isB 1) (some (1, M8))
  else gd (isB 0) (some (0, M8))))
  else gd (isB 0) (some (0, M7)))
  else bi (16 * y3) fun y5 => gd (lx M2 a4 (y5 + y4)) ((if (M2.1 a4 (ix (y5 + y4))) = 4 then f_L_acts_b264 a1 a2 a3 a4 a5 y3 y4 y5 M2
  else gd (lx M2 a4 (y5 + y4)) ((if (M2.1 a4 (ix (y5 + y4))) = 6 then f_L_acts_b264 a1 a2 a3 a4 a5 y3 y4 y5 M2
  else bk M2 (f_LP_turn y3 y4 M2) fun r6 M6 => (if r6 = (-1000002) then gd (isB 1) (some (1, M6))
  else gd (isB 0) (some (0, M6)))))))))))))
  else gd (lx M2 a1 1) (bi (M2.1 a1 (ix 1)) fun y11 => (if (r1 - r1 / 3 * 3) = 0 then f_L_acts_b130 a1 y11 7 (r1 - r1 / 7 * 7) 2 1 a1 M2
  else f_L_acts_b130 a1 y11 3 (r1 - r1 / 7 * 7) 2 1 a1 M2)))
  else bi (r1 - r1 / 8 * 8) fun y12 => gd (lx M2 a2 y12) (bi (M2.1 a2 (ix y12)) fun y13 => gd (lx M2 a2 y12) (bm (mset M2 a2 (ix y12) (((r1 / 8) - (r1 / 8) / 1999 * 1999) - 999)) fun M14 => gd (lx M14 a2 y12) (bk M14 (f_LP_setCell y12 (M14.1 a2 (ix y12)) M14) fun r15 M15 => (if r15 = y13 then gd (isB 1) (some (1, M15))
  else gd (isB 0) (some (0, M15)))))))
  else bd (f_L_reads a1 a3 a4 a5 r1 M2) fun r16 M16 => gd (isB r16) (some (r16, M16)))
def f_L_isFormula_b386 (x7 : Int32) (a11 : Nat) (x14 : Int32) (x15 : Int32) (M : Mem) : Option (Int32 × Mem) :=
  bk M (f_LP_proved x7 M) fun r1 M1 => (if x15 = 0 then gd (isB 0) (some (0, M1))
  else bk M1 (f_LP_node x7 x14 0 M1) fun r2 M2 => (if r2 = (-1000001) then bk M2 (f_LP_node x7 0 7 M2) fun r3 M3 => (if r3 = (-1000001) then bk M3 (f_LP_node x7 (-1) 0 M3) fun r4 M4 => (if r4 = (-1000001) then (if r1 = (-1000009) then gd (isB 1) (some (1, M4))
  else gd (lx M4 a11 0) ((if r1 = (M4.1 a11 (ix 0)) then gd (isB 1) (some (1, M4))
  else gd (isB 0) (some (0, M4)))))
  else gd (isB 0) (some (0, M4)))
  else gd (isB 0) (some (0, M3)))
  else gd (isB 0) (some (0, M2))))
def f_L_isFormula_b318 (k193 : Int32 → Nat → Nat → Nat → Nat → Nat → Int32 → Int32 → Int32 → Mem → Option (Int32 × Mem)) (x7 : Int32) (a8 : Nat) (a9 : Nat) (a10 : Nat) (a11 : Nat) (a13 : Nat) (x14 : Int32) (x16 : Int32) (t0 : Int32) (t1 : Int32) (M : Mem) : Option (Int32 × Mem) :=
  (if t1 = t0 then bk M (f_LP_node x7 x16 4 M) fun r2 M2 => gd (lx M2 a11 x16) ((if r2 = (M2.1 a11 (ix x16)) then bk M2 (f_LP_node x7 x16 5 M2) fun r4 M4 => gd (lx M4 a10 x16) ((if r4 = (M4.1 a10 (ix x16)) then bk M4 (f_LP_node x7 x16 6 M4) fun r6 M6 => gd (lx M6 a13 x16) ((if r6 = (M6.1 a13 (ix x16)) then bi (x16 + 1) fun y8 => k193 x7 a8 a9 a10 a11 a13 x14 1 y8 M6
  else bi (x16 + 1) fun y7 => k193 x7 a8 a9 a10 a11 a13 x14 0 y7 M6))
  else bi (x16 + 1) fun y5 => k193 x7 a8 a9 a10 a11 a13 x14 0 y5 M4))
  else bi (x16 + 1) fun y3 => k193 x7 a8 a9 a10 a11 a13 x14 0 y3 M2))
  else bi (x16 + 1) fun y1 => k193 x7 a8 a9 a10 a11 a13 x14 0 y1 M)
def f_L_isFormula_b280 (k193 : Int32 → Nat → Nat → Nat → Nat → Nat → Int32 → Int32 → Int32 → Mem → Option (Int32 × Mem)) (x7 : Int32) (a8 : Nat) (a9 : Nat) (a10 : Nat) (a11 : Nat) (a13 : Nat) (x14 : Int32) (x16 : Int32) (t0 : Int32) (t1 : Int32) (M : Mem) : Option (Int32 × Mem) :=
  (if t1 = t0 then bk M (f_LP_node x7 x16 3 M) fun r2 M2 => gd (lx M2 a8 x16) ((if 4 ≤ (M2.1 a8 (ix x16)) then gd (lx M2 a10 (x16 + 1)) (f_L_isFormula_b318 k193 x7 a8 a9 a10 a11 a13 x14 x16 ((x16 + 1) + (M2.1 a10 (ix (x16 + 1)))) r2 M2)
  else f_L_isFormula_b318 k193 x7 a8 a9 a10 a11 a13 x14 x16 (-1000009) r2 M2))
  else bi (x16 + 1) fun y1 => k193 x7 a8 a9 a10 a11 a13 x14 0 y1 M)
def f_L_isFormula_b250 (k193 : Int32 → Nat → Nat → Nat → Nat → Nat → Int32 → Int32 → Int32 → Mem → Option (Int32 × Mem)) (x7 : Int32) (a8 : Nat) (a9 : Nat) (a10 : Nat) (a11 : Nat) (a13 : Nat) (x14 : Int32) (x16 : Int32) (t0 : Int32) (t1 : Int32) (M : Mem) : Option (Int32 × Mem) :=
  (if t1 = t0 then bk M (f_LP_node x7 x16 2 M) fun r2 M2 => gd (lx M2 a8 x16) ((if 3 ≤ (M2.1 a8 (ix x16)) then f_L_isFormula_b280 k193 x7 a8 a9 a10 a11 a13 x14 x16 (x16 + 1) r2 M2
  else f_L_isFormula_b280 k193 x7 a8 a9 a10 a11 a13 x14 x16 (-1000009) r2 M2))
  else bi (x16 + 1) fun y1 => k193 x7 a8 a9 a10 a11 a13 x14 0 y1 M)
def f_L_isFormula_b193 : Nat → Int32 → Nat → Nat → Nat → Nat → Nat → Int32 → Int32 → Int32 → Mem → Option (Int32 × Mem)
  | 0, _, _, _, _, _, _, _, _, _, _ => none
  | n + 1, x7, a8, a9, a10, a11, a13, x14, x15, x16, M => (if x14 ≤ x16 then f_L_isFormula_b386 x7 a11 x14 x15 M
  else (if x15 = 0 then f_L_isFormula_b386 x7 a11 x14 x15 M
  else bk M (f_LP_node x7 x16 0 M) fun r1 M1 => gd (lx M1 a8 x16) ((if r1 = (M1.1 a8 (ix x16)) then bk M1 (f_LP_node x7 x16 1 M1) fun r3 M3 => gd (lx M3 a8 x16) ((if 3 ≤ (M3.1 a8 (ix x16)) then f_L_isFormula_b250 (f_L_isFormula_b193 n) x7 a8 a9 a10 a11 a13 x14 x16 (-1000009) r3 M3
  else gd (lx M3 a9 x16) (f_L_isFormula_b250 (f_L_isFormula_b193 n) x7 a8 a9 a10 a11 a13 x14 x16 (M3.1 a9 (ix x16)) r3 M3)))
  else bi (x16 + 1) fun y2 => f_L_isFormula_b193 n x7 a8 a9 a10 a11 a13 x14 0 y2 M1))))
def f_L_isFormula_b188 (x7 : Int32) (a8 : Nat) (a9 : Nat) (a10 : Nat) (a11 : Nat) (a13 : Nat) (x14 : Int32) (t0 : Int32) (M : Mem) : Option (Int32 × Mem) :=
  f_L_isFormula_b193 FU x7 a8 a9 a10 a11 a13 x14 t0 0 M
def f_L_isFormula_b187 (x7 : Int32) (a8 : Nat) (a9 : Nat) (a10 : Nat) (a11 : Nat) (a13 : Nat) (x14 : Int32) (M : Mem) : Option (Int32 × Mem) :=
  f_L_isFormula_b188 x7 a8 a9 a10 a11 a13 x14 0 M
def f_L_isFormula_b139 (x7 : Int32) (a8 : Nat) (a9 : Nat) (a10 : Nat) (a11 : Nat) (a12 : Nat) (a13 : Nat) (x14 : Int32) (t0 : Int32) (t1 : Int32) (M : Mem) : Option (Int32 × Mem) :=
  (if t1 = t0 then bk M (f_LP_formula x7 4 M) fun r1 M1 => gd (lx M1 a13 0) ((if r1 = (M1.1 a13 (ix 0)) then bk M1 (f_LP_formula x7 5 M1) fun r2 M2 => gd (lx M2 a12 0) ((if r2 = (M2.1 a12 (ix 0)) then bk M2 (f_LP_formula x7 7 M2) fun r3 M3 => (if r3 = (-1000001) then f_L_isFormula_b188 x7 a8 a9 a10 a11 a13 x14 1 M3
  else f_L_isFormula_b187 x7 a8 a9 a10 a11 a13 x14 M3)
  else f_L_isFormula_b187 x7 a8 a9 a10 a11 a13 x14 M2))
  else f_L_isFormula_b187 x7 a8 a9 a10 a11 a13 x14 M1))
  else f_L_isFormula_b187 x7 a8 a9 a10 a11 a13 x14 M)
def f_L_isFormula (a1 : Nat) (a2 : Nat) (a3 : Nat) (a4 : Nat) (a5 : Nat) (a6 : Nat) (x7 : Int32) (M : Mem) : Option (Int32 × Mem) :=
  bN M 64 fun b1 M1 => bN M1 64 fun b2 M2 => bN M2 64 fun b3 M3 => bN M3 64 fun b4 M4 => bN M4 64 fun b5 M5 => bN M5 64 fun b6 M6 => bd (f_L_expand a1 a3 a4 a5 x7 b1 b2 M6) fun r7 M7 => bd (f_L_tell a2 a6 b1 b2 r7 b3 b4 b5 b6 M7) fun _ M8 => bk M8 (f_LP_formula x7 0 M8) fun r9 M9 => gd (lx M9 a3 x7) ((if r9 = (M9.1 a3 (ix x7)) then bk M9 (f_LP_formula x7 1 M9) fun r10 M10 => (if r10 = r7 then bk M10 (f_LP_formula x7 2 M10) fun r11 M11 => gd (lx M11 b4 0) ((if r11 = (M11.1 b4 (ix 0)) then bk M11 (f_LP_formula x7 3 M11) fun r12 M12 => bd (f_L_isCheap a1 a3 a4 a5 x7 M12) fun r13 M13 => (if r13 = 0 then f_L_isFormula_b139 x7 b1 b2 b3 b4 b5 b6 r7 0 r12 M13
  else f_L_isFormula_b139 x7 b1 b2 b3 b4 b5 b6 r7 1 r12 M13)
  else f_L_isFormula_b187 x7 b1 b2 b3 b4 b6 r7 M11))
  else f_L_isFormula_b187 x7 b1 b2 b3 b4 b6 r7 M10)
  else f_L_isFormula_b187 x7 b1 b2 b3 b4 b6 r7 M9))
def f_L_isSo_b331 (a1 : Nat) (x8 : Int32) (x9 : Int32) (x10 : Int32) (x11 : Int32) (M : Mem) : Option (Int32 × Mem) :=
  (if x11 = 0 then gd (isB 0) (some (0, M))
  else bk M (f_LP_count 0 M) fun r1 M1 => gd (lx M1 a1 0) ((if r1 = (M1.1 a1 (ix 0)) then bk M1 (f_LP_count 1 M1) fun r2 M2 => (if r2 = x8 then bk M2 (f_LP_count 2 M2) fun r3 M3 => (if r3 = x9 then bk M3 (f_LP_count 3 M3) fun r4 M4 => gd (lx M4 a1 1) ((if r4 = (M4.1 a1 (ix 1)) then bk M4 (f_LP_count 4 M4) fun r5 M5 => (if r5 = x10 then gd (lx M5 a1 0) (bk M5 (f_LP_formula (M5.1 a1 (ix 0)) 0 M5) fun r6 M6 => (if r6 = (-1000001) then gd (lx M6 a1 0) (bk M6 (f_LP_node (M6.1 a1 (ix 0)) 0 0 M6) fun r7 M7 => (if r7 = (-1000001) then bk M7 (f_LP_cell 8 M7) fun r8 M8 => (if r8 = (-1000001) then gd (isB 1) (some (1, M8))
  else gd (isB 0) (some (0, M8)))
  else gd (isB 0) (some (0, M7))))
  else gd (isB 0) (some (0, M6))))
  else gd (isB 0) (some (0, M5)))
  else gd (isB 0) (some (0, M4))))
  else gd (isB 0) (some (0, M3)))
  else gd (isB 0) (some (0, M2)))
  else gd (isB 0) (some (0, M1)))))
def f_L_isSo_b293 : Nat → Nat → Nat → Int32 → Int32 → Int32 → Int32 → Int32 → Mem → Option (Int32 × Mem)
  | 0, _, _, _, _, _, _, _, _ => none
  | n + 1, a1, a2, x8, x9, x10, x11, x12, M => (if 8 ≤ x12 then f_L_isSo_b331 a1 x8 x9 x10 x11 M
  else (if x11 = 0 then f_L_isSo_b331 a1 x8 x9 x10 x11 M
  else bk M (f_LP_cell x12 M) fun r1 M1 => gd (lx M1 a2 x12) ((if r1 = (M1.1 a2 (ix x12)) then bi (x12 + 1) fun y3 => f_L_isSo_b293 n a1 a2 x8 x9 x10 1 y3 M1
  else bi (x12 + 1) fun y2 => f_L_isSo_b293 n a1 a2 x8 x9 x10 0 y2 M1))))
def f_L_isSo_b290 (a1 : Nat) (a2 : Nat) (x8 : Int32) (x9 : Int32) (x10 : Int32) (x11 : Int32) (M : Mem) : Option (Int32 × Mem) :=
  f_L_isSo_b293 FU a1 a2 x8 x9 x10 x11 0 M
def f_L_isSo_b248 : Nat → Nat → Nat → Nat → Int32 → Int32 → Int32 → Int32 → Int32 → Mem → Option (Int32 × Mem)
  | 0, _, _, _, _, _, _, _, _, _ => none
  | n + 1, a1, a2, a7, x8, x9, x10, x11, x12, M => gd (lx M a1 0) ((if (M.1 a1 (ix 0)) ≤ x12 then f_L_isSo_b290 a1 a2 x8 x9 x10 x11 M
  else (if x11 = 0 then f_L_isSo_b290 a1 a2 x8 x9 x10 x11 M
  else bk M (f_LP_formula x12 6 M) fun r1 M1 => gd (lx M1 a7 x12) ((if r1 = (M1.1 a7 (ix x12)) then bi (x12 + 1) fun y3 => f_L_isSo_b248 n a1 a2 a7 x8 x9 x10 1 y3 M1
  else bi (x12 + 1) fun y2 => f_L_isSo_b248 n a1 a2 a7 x8 x9 x10 0 y2 M1)))))
def f_L_isSo_b245 (a1 : Nat) (a2 : Nat) (a7 : Nat) (x8 : Int32) (x9 : Int32) (x10 : Int32) (x11 : Int32) (M : Mem) : Option (Int32 × Mem) :=
  f_L_isSo_b248 FU a1 a2 a7 x8 x9 x10 x11 0 M
def f_L_isSo_b220 (k39 : Nat → Nat → Nat → Nat → Nat → Nat → Nat → Int32 → Int32 → Int32 → Int32 → Int32 → Mem → Option (Int32 × Mem)) (a1 : Nat) (a2 : Nat) (a3 : Nat) (a4 : Nat) (a5 : Nat) (a6 : Nat) (a7 : Nat) (x8 : Int32) (x9 : Int32) (x12 : Int32) (t0 : Int32) (M : Mem) : Option (Int32 × Mem) :=
  bd (f_L_isFormula a1 a2 a3 a4 a5 a6 x12 M) fun r1 M1 => bi (x12 + 1) fun y2 => k39 a1 a2 a3 a4 a5 a6 a7 x8 x9 t0 r1 y2 M1
def f_L_isSo_b218 (k39 : Nat → Nat → Nat → Nat → Nat → Nat → Nat → Int32 → Int32 → Int32 → Int32 → Int32 → Mem → Option (Int32 × Mem)) (a1 : Nat) (a2 : Nat) (a3 : Nat) (a4 : Nat) (a5 : Nat) (a6 : Nat) (a7 : Nat) (x8 : Int32) (x9 : Int32) (x10 : Int32) (x12 : Int32) (M : Mem) : Option (Int32 × Mem) :=
  f_L_isSo_b220 k39 a1 a2 a3 a4 a5 a6 a7 x8 x9 x12 x10 M
def f_L_isSo_b185 (k39 : Nat → Nat → Nat → Nat → Nat → Nat → Nat → Int32 → Int32 → Int32 → Int32 → Int32 → Mem → Option (Int32 × Mem)) (a1 : Nat) (a2 : Nat) (a3 : Nat) (a4 : Nat) (a5 : Nat) (a6 : Nat) (a7 : Nat) (x9 : Int32) (x10 : Int32) (x12 : Int32) (a15 : Nat) (x17 : Int32) (t0 : Int32) (t1 : Int32) (M : Mem) : Option (Int32 × Mem) :=
  bi (t1 + t0) fun y1 => gd (lx M a3 x12) (bi (x9 + (M.1 a3 (ix x12))) fun y2 => (if x17 = 0 then gd (lx M a15 0) ((if (M.1 a15 (ix 0)) ≤ x10 then f_L_isSo_b218 k39 a1 a2 a3 a4 a5 a6 a7 y1 y2 x10 x12 M
  else gd (lx M a15 0) (f_L_isSo_b220 k39 a1 a2 a3 a4 a5 a6 a7 y1 y2 x12 (M.1 a15 (ix 0)) M)))
  else f_L_isSo_b218 k39 a1 a2 a3 a4 a5 a6 a7 y1 y2 x10 x12 M))
def f_L_isSo_b173 (k39 : Nat → Nat → Nat → Nat → Nat → Nat → Nat → Int32 → Int32 → Int32 → Int32 → Int32 → Mem → Option (Int32 × Mem)) (a1 : Nat) (a2 : Nat) (a3 : Nat) (a4 : Nat) (a5 : Nat) (a6 : Nat) (a7 : Nat) (x8 : Int32) (x9 : Int32) (x10 : Int32) (x12 : Int32) (a15 : Nat) (x17 : Int32) (M : Mem) : Option (Int32 × Mem) :=
  (if x17 = 0 then f_L_isSo_b185 k39 a1 a2 a3 a4 a5 a6 a7 x9 x10 x12 a15 x17 0 x8 M
  else f_L_isSo_b185 k39 a1 a2 a3 a4 a5 a6 a7 x9 x10 x12 a15 x17 1 x8 M)
def f_L_isSo_b129 (k39 : Nat → Nat → Nat → Nat → Nat → Nat → Nat → Int32 → Int32 → Int32 → Int32 → Int32 → Mem → Option (Int32 × Mem)) : Nat → Nat → Nat → Nat → Nat → Nat → Nat → Nat → Int32 → Int32 → Int32 → Int32 → Nat → Nat → Nat → Int32 → Int32 → Int32 → Mem → Option (Int32 × Mem)
  | 0, _, _, _, _, _, _, _, _, _, _, _, _, _, _, _, _, _, _ => none
  | n + 1, a1, a2, a3, a4, a5, a6, a7, x8, x9, x10, x12, a13, a14, a15, x16, x17, x18, M => (if x16 ≤ x18 then f_L_isSo_b173 k39 a1 a2 a3 a4 a5 a6 a7 x8 x9 x10 x12 a15 x17 M
  else (if x17 = 0 then gd (lx M a13 x18) ((if (M.1 a13 (ix x18)) = 2 then gd (lx M a14 x18) (gd (lx M a7 (M.1 a14 (ix x18))) (gd (lx M a7 (M.1 a14 (ix x18))) (bm (mset M a7 (ix (M.1 a14 (ix x18))) ((M.1 a7 (ix (M.1 a14 (ix x18)))) + 1)) fun M3 => bi (x18 + 1) fun y4 => f_L_isSo_b129 k39 n a1 a2 a3 a4 a5 a6 a7 x8 x9 x10 x12 a13 a14 a15 x16 x17 y4 M3)))
  else gd (lx M a7 7) (gd (lx M a7 7) (bm (mset M a7 (ix 7) ((M.1 a7 (ix 7)) + 1)) fun M1 => bi (x18 + 1) fun y2 => f_L_isSo_b129 k39 n a1 a2 a3 a4 a5 a6 a7 x8 x9 x10 x12 a13 a14 a15 x16 x17 y2 M1))))
  else f_L_isSo_b173 k39 a1 a2 a3 a4 a5 a6 a7 x8 x9 x10 x12 a15 x17 M))
def f_L_isSo_b39 : Nat → Nat → Nat → Nat → Nat → Nat → Nat → Nat → Int32 → Int32 → Int32 → Int32 → Int32 → Mem → Option (Int32 × Mem)
  | 0, _, _, _, _, _, _, _, _, _, _, _, _, _ => none
  | n + 1, a1, a2, a3, a4, a5, a6, a7, x8, x9, x10, x11, x12, M => gd (lx M a1 0) ((if (M.1 a1 (ix 0)) ≤ x12 then f_L_isSo_b245 a1 a2 a7 x8 x9 x10 x11 M
  else (if x11 = 0 then f_L_isSo_b245 a1 a2 a7 x8 x9 x10 x11 M
  else bN M 64 fun b1 M1 => bN M1 64 fun b2 M2 => bN M2 64 fun b3 M3 => bd (f_L_expand a1 a3 a4 a5 x12 b1 b2 M3) fun r4 M4 => bd (f_L_isCheap a1 a3 a4 a5 x12 M4) fun r5 M5 => bN M5 64 fun b6 M6 => bN M6 64 fun b7 M7 => bN M7 64 fun b8 M8 => bd (f_L_tell a2 a6 b1 b2 r4 b6 b3 b7 b8 M8) fun _ M9 => f_L_isSo_b129 (f_L_isSo_b39 n) FU a1 a2 a3 a4 a5 a6 a7 x8 x9 x10 x12 b1 b2 b3 r4 r5 0 M9)))
def f_L_isSo (a1 : Nat) (a2 : Nat) (a3 : Nat) (a4 : Nat) (a5 : Nat) (M : Mem) : Option (Int32 × Mem) :=
  bN M 8 fun b1 M1 => bN M1 8 fun b2 M2 => bd (f_L_worths a1 a2 a3 a4 a5 b1 M2) fun _ M3 => f_L_isSo_b39 FU a1 a2 a3 a4 a5 b1 b2 0 0 0 1 0 M3
