set_option maxRecDepth 100000 in
set_option maxHeartbeats 4000000 in
theorem f_L_isSo_b331_ok {X : XT} {G : GT} {Z : ZT} (hZ : 7 ≤ Z.1) (a1 : Nat) (x8 : Int32) (x9 : Int32) (x10 : Int32) (x11 : Int32) (M : Mem) : U X G Z cL_isSo (some .boolean) (QM X G Z vI) 19 331 [(0, .ref (G.2 + 0)), (1, .ref (G.2 + a1)), (8, .int x8), (9, .int x9), (10, .int x10), (11, .int x11)] [] M (f_L_isSo_b331 a1 x8 x9 x10 x11 M) := by
  unfold f_L_isSo_b331
  refine U_iload 11 5 rfl dL_isSo_331 ?_
  refine U_ifeq 430 dL_isSo_333 (by decide) (fun _ => ?_) (fun _ => ?_)
  · refine U_iconst dL_isSo_430 ic_0 ?_
    exact U_zret dL_isSo_431
  · refine U_aload_n 0 rfl 0 rfl dL_isSo_336 ?_
    refine U_iconst dL_isSo_337 ic_0 ?_
    refine kL_58 (Nat.lt_of_lt_of_le (Nat.le_of_ble_eq_true rfl : 3 + 1 ≤ 7) hZ) (fun lq rq Mq hh => mc_f_LP_count lq 0 M rq Mq hh) (Nat.le_of_ble_eq_true rfl) dL_isSo_338 (fun r1 M1 => ?_)
    refine U_aload_n 1 rfl 1 rfl dL_isSo_341 ?_
    refine U_iconst dL_isSo_342 ic_0 ?_
    refine U_iald dL_isSo_343 ?_
    refine U_icmpne 430 dL_isSo_344 (by decide) (fun _ => ?_) (fun _ => ?_)
    · refine U_iconst dL_isSo_430 ic_0 ?_
      exact U_zret dL_isSo_431
    · refine U_aload_n 0 rfl 0 rfl dL_isSo_347 ?_
      refine U_iconst dL_isSo_348 ic_1 ?_
      refine kL_58 (Nat.lt_of_lt_of_le (Nat.le_of_ble_eq_true rfl : 3 + 1 ≤ 7) hZ) (fun lq rq Mq hh => mc_f_LP_count lq 1 M1 rq Mq hh) (Nat.le_of_ble_eq_true rfl) dL_isSo_349 (fun r2 M2 => ?_)
      refine U_iload 8 2 rfl dL_isSo_352 ?_
      refine U_icmpne 430 dL_isSo_354 (by decide) (fun _ => ?_) (fun _ => ?_)
      · refine U_iconst dL_isSo_430 ic_0 ?_
        exact U_zret dL_isSo_431
      · refine U_aload_n 0 rfl 0 rfl dL_isSo_357 ?_
        refine U_iconst dL_isSo_358 ic_2 ?_
        refine kL_58 (Nat.lt_of_lt_of_le (Nat.le_of_ble_eq_true rfl : 3 + 1 ≤ 7) hZ) (fun lq rq Mq hh => mc_f_LP_count lq 2 M2 rq Mq hh) (Nat.le_of_ble_eq_true rfl) dL_isSo_359 (fun r3 M3 => ?_)
        refine U_iload 9 3 rfl dL_isSo_362 ?_
        refine U_icmpne 430 dL_isSo_364 (by decide) (fun _ => ?_) (fun _ => ?_)
        · refine U_iconst dL_isSo_430 ic_0 ?_
          exact U_zret dL_isSo_431
        · refine U_aload_n 0 rfl 0 rfl dL_isSo_367 ?_
          refine U_iconst dL_isSo_368 ic_3 ?_
          refine kL_58 (Nat.lt_of_lt_of_le (Nat.le_of_ble_eq_true rfl : 3 + 1 ≤ 7) hZ) (fun lq rq Mq hh => mc_f_LP_count lq 3 M3 rq Mq hh) (Nat.le_of_ble_eq_true rfl) dL_isSo_369 (fun r4 M4 => ?_)
          refine U_aload_n 1 rfl 1 rfl dL_isSo_372 ?_
          refine U_iconst dL_isSo_373 ic_1 ?_
          refine U_iald dL_isSo_374 ?_
          refine U_icmpne 430 dL_isSo_375 (by decide) (fun _ => ?_) (fun _ => ?_)
          · refine U_iconst dL_isSo_430 ic_0 ?_
            exact U_zret dL_isSo_431
          · refine U_aload_n 0 rfl 0 rfl dL_isSo_378 ?_
            refine U_iconst dL_isSo_379 ic_4 ?_
            refine kL_58 (Nat.lt_of_lt_of_le (Nat.le_of_ble_eq_true rfl : 3 + 1 ≤ 7) hZ) (fun lq rq Mq hh => mc_f_LP_count lq 4 M4 rq Mq hh) (Nat.le_of_ble_eq_true rfl) dL_isSo_380 (fun r5 M5 => ?_)
            refine U_iload 10 4 rfl dL_isSo_383 ?_
            refine U_icmpne 430 dL_isSo_385 (by decide) (fun _ => ?_) (fun _ => ?_)
            · refine U_iconst dL_isSo_430 ic_0 ?_
              exact U_zret dL_isSo_431
            · refine U_aload_n 0 rfl 0 rfl dL_isSo_388 ?_
              refine U_aload_n 1 rfl 1 rfl dL_isSo_389 ?_
              refine U_iconst dL_isSo_390 ic_0 ?_
              refine U_iald dL_isSo_391 ?_
              refine U_iconst dL_isSo_392 ic_0 ?_
              refine kL_84 (Nat.lt_of_lt_of_le (Nat.le_of_ble_eq_true rfl : 3 + 1 ≤ 7) hZ) (fun lq rq Mq hh => mc_f_LP_formula lq (M5.1 a1 (ix 0)) 0 M5 rq Mq hh) (Nat.le_of_ble_eq_true rfl) dL_isSo_393 (fun r6 M6 => ?_)
              refine U_ldc wkL_78 dL_isSo_396 ?_
              refine U_icmpne 430 dL_isSo_398 (by decide) (fun _ => ?_) (fun _ => ?_)
              · refine U_iconst dL_isSo_430 ic_0 ?_
                exact U_zret dL_isSo_431
              · refine U_aload_n 0 rfl 0 rfl dL_isSo_401 ?_
                refine U_aload_n 1 rfl 1 rfl dL_isSo_402 ?_
                refine U_iconst dL_isSo_403 ic_0 ?_
                refine U_iald dL_isSo_404 ?_
                refine U_iconst dL_isSo_405 ic_0 ?_
                refine U_iconst dL_isSo_406 ic_0 ?_
                refine kL_87 (Nat.lt_of_lt_of_le (Nat.le_of_ble_eq_true rfl : 3 + 1 ≤ 7) hZ) (fun lq rq Mq hh => mc_f_LP_node lq (M6.1 a1 (ix 0)) 0 0 M6 rq Mq hh) (Nat.le_of_ble_eq_true rfl) dL_isSo_407 (fun r7 M7 => ?_)
                refine U_ldc wkL_78 dL_isSo_410 ?_
                refine U_icmpne 430 dL_isSo_412 (by decide) (fun _ => ?_) (fun _ => ?_)
                · refine U_iconst dL_isSo_430 ic_0 ?_
                  exact U_zret dL_isSo_431
                · refine U_aload_n 0 rfl 0 rfl dL_isSo_415 ?_
                  refine U_bipush dL_isSo_416 bp_8 ?_
                  refine kL_101 (Nat.lt_of_lt_of_le (Nat.le_of_ble_eq_true rfl : 1 + 1 ≤ 7) hZ) (fun lq rq Mq hh => mc_f_LP_cell lq 8 M7 rq Mq hh) (Nat.le_of_ble_eq_true rfl) dL_isSo_418 (fun r8 M8 => ?_)
                  refine U_ldc wkL_78 dL_isSo_421 ?_
                  refine U_icmpne 430 dL_isSo_423 (by decide) (fun _ => ?_) (fun _ => ?_)
                  · refine U_iconst dL_isSo_430 ic_0 ?_
                    exact U_zret dL_isSo_431
                  · refine U_iconst dL_isSo_426 ic_1 ?_
                    refine U_goto 431 dL_isSo_427 (by decide) ?_
                    exact U_zret dL_isSo_431
set_option maxRecDepth 100000 in
set_option maxHeartbeats 4000000 in
theorem f_L_isSo_b293_ok {X : XT} {G : GT} {Z : ZT} (hZ : 7 ≤ Z.1) : ∀ (n : Nat) (a1 : Nat) (a2 : Nat) (x8 : Int32) (x9 : Int32) (x10 : Int32) (x11 : Int32) (x12 : Int32) (M : Mem), U X G Z cL_isSo (some .boolean) (QM X G Z vI) 19 293 [(0, .ref (G.2 + 0)), (1, .ref (G.2 + a1)), (2, .ref (G.2 + a2)), (8, .int x8), (9, .int x9), (10, .int x10), (11, .int x11), (12, .int x12)] [] M (f_L_isSo_b293 n a1 a2 x8 x9 x10 x11 x12 M) := by
  intro n
  induction n with
  | zero =>
    intros
    rw [f_L_isSo_b293]
    exact U_none
  | succ n ih =>
    intro a1 a2 x8 x9 x10 x11 x12 M
    rw [f_L_isSo_b293]
    refine U_iload 12 7 rfl dL_isSo_293 ?_
    refine U_bipush dL_isSo_295 bp_8 ?_
    refine U_icmpge 331 dL_isSo_297 (by decide) (fun _ => ?_) (fun _ => ?_)
    · exact U_sub [0, 1, 3, 4, 5, 6] rfl (f_L_isSo_b331_ok hZ a1 x8 x9 x10 x11 M)
    · refine U_iload 11 6 rfl dL_isSo_300 ?_
      refine U_ifeq 331 dL_isSo_302 (by decide) (fun _ => ?_) (fun _ => ?_)
      · exact U_sub [0, 1, 3, 4, 5, 6] rfl (f_L_isSo_b331_ok hZ a1 x8 x9 x10 x11 M)
      · refine U_aload_n 0 rfl 0 rfl dL_isSo_305 ?_
        refine U_iload 12 7 rfl dL_isSo_306 ?_
        refine kL_101 (Nat.lt_of_lt_of_le (Nat.le_of_ble_eq_true rfl : 1 + 1 ≤ 7) hZ) (fun lq rq Mq hh => mc_f_LP_cell lq x12 M rq Mq hh) (Nat.le_of_ble_eq_true rfl) dL_isSo_308 (fun r1 M1 => ?_)
        refine U_aload_n 2 rfl 2 rfl dL_isSo_311 ?_
        refine U_iload 12 7 rfl dL_isSo_312 ?_
        refine U_iald dL_isSo_314 ?_
        refine U_icmpne 322 dL_isSo_315 (by decide) (fun _ => ?_) (fun _ => ?_)
        · refine U_iconst dL_isSo_322 ic_0 ?_
          refine U_istore 11 [(11, .int 0), (0, .ref (G.2 + 0)), (1, .ref (G.2 + a1)), (2, .ref (G.2 + a2)), (8, .int x8), (9, .int x9), (10, .int x10), (12, .int x12)] (by decide) rfl dL_isSo_323 ?_
          refine U_iincB 12 7 (fun y2 => [(12, .int y2), (11, .int 0), (0, .ref (G.2 + 0)), (1, .ref (G.2 + a1)), (2, .ref (G.2 + a2)), (8, .int x8), (9, .int x9), (10, .int x10)]) rfl ic_1 (by decide) (fun _ => rfl) dL_isSo_325 (fun y2 => ?_)
          refine U_goto 293 dL_isSo_328 (by decide) ?_
          exact U_sub [2, 3, 4, 5, 6, 7, 1, 0] rfl (ih a1 a2 x8 x9 x10 0 y2 M1)
        · refine U_iconst dL_isSo_318 ic_1 ?_
          refine U_goto 323 dL_isSo_319 (by decide) ?_
          refine U_istore 11 [(11, .int 1), (0, .ref (G.2 + 0)), (1, .ref (G.2 + a1)), (2, .ref (G.2 + a2)), (8, .int x8), (9, .int x9), (10, .int x10), (12, .int x12)] (by decide) rfl dL_isSo_323 ?_
          refine U_iincB 12 7 (fun y3 => [(12, .int y3), (11, .int 1), (0, .ref (G.2 + 0)), (1, .ref (G.2 + a1)), (2, .ref (G.2 + a2)), (8, .int x8), (9, .int x9), (10, .int x10)]) rfl ic_1 (by decide) (fun _ => rfl) dL_isSo_325 (fun y3 => ?_)
          refine U_goto 293 dL_isSo_328 (by decide) ?_
          exact U_sub [2, 3, 4, 5, 6, 7, 1, 0] rfl (ih a1 a2 x8 x9 x10 1 y3 M1)
set_option maxRecDepth 100000 in
set_option maxHeartbeats 4000000 in
theorem f_L_isSo_b290_ok {X : XT} {G : GT} {Z : ZT} (hZ : 7 ≤ Z.1) (a1 : Nat) (a2 : Nat) (x8 : Int32) (x9 : Int32) (x10 : Int32) (x11 : Int32) (M : Mem) : U X G Z cL_isSo (some .boolean) (QM X G Z vI) 19 290 [(0, .ref (G.2 + 0)), (1, .ref (G.2 + a1)), (2, .ref (G.2 + a2)), (8, .int x8), (9, .int x9), (10, .int x10), (11, .int x11)] [] M (f_L_isSo_b290 a1 a2 x8 x9 x10 x11 M) := by
  unfold f_L_isSo_b290
  refine U_iconst dL_isSo_290 ic_0 ?_
  refine U_istore 12 [(12, .int 0), (0, .ref (G.2 + 0)), (1, .ref (G.2 + a1)), (2, .ref (G.2 + a2)), (8, .int x8), (9, .int x9), (10, .int x10), (11, .int x11)] (by decide) rfl dL_isSo_291 ?_
  exact U_sub [1, 2, 3, 4, 5, 6, 7, 0] rfl (f_L_isSo_b293_ok hZ FU a1 a2 x8 x9 x10 x11 0 M)
set_option maxRecDepth 100000 in
set_option maxHeartbeats 4000000 in
theorem f_L_isSo_b248_ok {X : XT} {G : GT} {Z : ZT} (hZ : 7 ≤ Z.1) : ∀ (n : Nat) (a1 : Nat) (a2 : Nat) (a7 : Nat) (x8 : Int32) (x9 : Int32) (x10 : Int32) (x11 : Int32) (x12 : Int32) (M : Mem), U X G Z cL_isSo (some .boolean) (QM X G Z vI) 19 248 [(0, .ref (G.2 + 0)), (1, .ref (G.2 + a1)), (2, .ref (G.2 + a2)), (7, .ref (G.2 + a7)), (8, .int x8), (9, .int x9), (10, .int x10), (11, .int x11), (12, .int x12)] [] M (f_L_isSo_b248 n a1 a2 a7 x8 x9 x10 x11 x12 M) := by
  intro n
  induction n with
  | zero =>
    intros
    rw [f_L_isSo_b248]
    exact U_none
  | succ n ih =>
    intro a1 a2 a7 x8 x9 x10 x11 x12 M
    rw [f_L_isSo_b248]
    refine U_iload 12 8 rfl dL_isSo_248 ?_
    refine U_aload_n 1 rfl 1 rfl dL_isSo_250 ?_
    refine U_iconst dL_isSo_251 ic_0 ?_
    refine U_iald dL_isSo_252 ?_
    refine U_icmpge 290 dL_isSo_253 (by decide) (fun _ => ?_) (fun _ => ?_)
    · exact U_sub [0, 1, 2, 4, 5, 6, 7] rfl (f_L_isSo_b290_ok hZ a1 a2 x8 x9 x10 x11 M)
    · refine U_iload 11 7 rfl dL_isSo_256 ?_
      refine U_ifeq 290 dL_isSo_258 (by decide) (fun _ => ?_) (fun _ => ?_)
      · exact U_sub [0, 1, 2, 4, 5, 6, 7] rfl (f_L_isSo_b290_ok hZ a1 a2 x8 x9 x10 x11 M)
      · refine U_aload_n 0 rfl 0 rfl dL_isSo_261 ?_
        refine U_iload 12 8 rfl dL_isSo_262 ?_
        refine U_bipush dL_isSo_264 bp_6 ?_
        refine kL_84 (Nat.lt_of_lt_of_le (Nat.le_of_ble_eq_true rfl : 3 + 1 ≤ 7) hZ) (fun lq rq Mq hh => mc_f_LP_formula lq x12 6 M rq Mq hh) (Nat.le_of_ble_eq_true rfl) dL_isSo_266 (fun r1 M1 => ?_)
        refine U_aload 7 3 rfl dL_isSo_269 ?_
        refine U_iload 12 8 rfl dL_isSo_271 ?_
        refine U_iald dL_isSo_273 ?_
        refine U_icmpne 281 dL_isSo_274 (by decide) (fun _ => ?_) (fun _ => ?_)
        · refine U_iconst dL_isSo_281 ic_0 ?_
          refine U_istore 11 [(11, .int 0), (0, .ref (G.2 + 0)), (1, .ref (G.2 + a1)), (2, .ref (G.2 + a2)), (7, .ref (G.2 + a7)), (8, .int x8), (9, .int x9), (10, .int x10), (12, .int x12)] (by decide) rfl dL_isSo_282 ?_
          refine U_iincB 12 8 (fun y2 => [(12, .int y2), (11, .int 0), (0, .ref (G.2 + 0)), (1, .ref (G.2 + a1)), (2, .ref (G.2 + a2)), (7, .ref (G.2 + a7)), (8, .int x8), (9, .int x9), (10, .int x10)]) rfl ic_1 (by decide) (fun _ => rfl) dL_isSo_284 (fun y2 => ?_)
          refine U_goto 248 dL_isSo_287 (by decide) ?_
          exact U_sub [2, 3, 4, 5, 6, 7, 8, 1, 0] rfl (ih a1 a2 a7 x8 x9 x10 0 y2 M1)
        · refine U_iconst dL_isSo_277 ic_1 ?_
          refine U_goto 282 dL_isSo_278 (by decide) ?_
          refine U_istore 11 [(11, .int 1), (0, .ref (G.2 + 0)), (1, .ref (G.2 + a1)), (2, .ref (G.2 + a2)), (7, .ref (G.2 + a7)), (8, .int x8), (9, .int x9), (10, .int x10), (12, .int x12)] (by decide) rfl dL_isSo_282 ?_
          refine U_iincB 12 8 (fun y3 => [(12, .int y3), (11, .int 1), (0, .ref (G.2 + 0)), (1, .ref (G.2 + a1)), (2, .ref (G.2 + a2)), (7, .ref (G.2 + a7)), (8, .int x8), (9, .int x9), (10, .int x10)]) rfl ic_1 (by decide) (fun _ => rfl) dL_isSo_284 (fun y3 => ?_)
          refine U_goto 248 dL_isSo_287 (by decide) ?_
          exact U_sub [2, 3, 4, 5, 6, 7, 8, 1, 0] rfl (ih a1 a2 a7 x8 x9 x10 1 y3 M1)
set_option maxRecDepth 100000 in
set_option maxHeartbeats 4000000 in
theorem f_L_isSo_b245_ok {X : XT} {G : GT} {Z : ZT} (hZ : 7 ≤ Z.1) (a1 : Nat) (a2 : Nat) (a7 : Nat) (x8 : Int32) (x9 : Int32) (x10 : Int32) (x11 : Int32) (M : Mem) : U X G Z cL_isSo (some .boolean) (QM X G Z vI) 19 245 [(0, .ref (G.2 + 0)), (1, .ref (G.2 + a1)), (2, .ref (G.2 + a2)), (7, .ref (G.2 + a7)), (8, .int x8), (9, .int x9), (10, .int x10), (11, .int x11)] [] M (f_L_isSo_b245 a1 a2 a7 x8 x9 x10 x11 M) := by
  unfold f_L_isSo_b245
  refine U_iconst dL_isSo_245 ic_0 ?_
  refine U_istore 12 [(12, .int 0), (0, .ref (G.2 + 0)), (1, .ref (G.2 + a1)), (2, .ref (G.2 + a2)), (7, .ref (G.2 + a7)), (8, .int x8), (9, .int x9), (10, .int x10), (11, .int x11)] (by decide) rfl dL_isSo_246 ?_
  exact U_sub [1, 2, 3, 4, 5, 6, 7, 8, 0] rfl (f_L_isSo_b248_ok hZ FU a1 a2 a7 x8 x9 x10 x11 0 M)
set_option maxRecDepth 100000 in
set_option maxHeartbeats 4000000 in
theorem f_L_isSo_b220_ok {X : XT} {G : GT} {Z : ZT} (hZ : 7 ≤ Z.1) (k39 : Nat → Nat → Nat → Nat → Nat → Nat → Nat → Int32 → Int32 → Int32 → Int32 → Int32 → Mem → Option (Int32 × Mem)) (hk39 : ∀ (a1 : Nat) (a2 : Nat) (a3 : Nat) (a4 : Nat) (a5 : Nat) (a6 : Nat) (a7 : Nat) (x8 : Int32) (x9 : Int32) (x10 : Int32) (x11 : Int32) (x12 : Int32) (M : Mem), U X G Z cL_isSo (some .boolean) (QM X G Z vI) 19 39 [(0, .ref (G.2 + 0)), (1, .ref (G.2 + a1)), (2, .ref (G.2 + a2)), (3, .ref (G.2 + a3)), (4, .ref (G.2 + a4)), (5, .ref (G.2 + a5)), (6, .ref (G.2 + a6)), (7, .ref (G.2 + a7)), (8, .int x8), (9, .int x9), (10, .int x10), (11, .int x11), (12, .int x12)] [] M (k39 a1 a2 a3 a4 a5 a6 a7 x8 x9 x10 x11 x12 M)) (a1 : Nat) (a2 : Nat) (a3 : Nat) (a4 : Nat) (a5 : Nat) (a6 : Nat) (a7 : Nat) (x8 : Int32) (x9 : Int32) (x12 : Int32) (t0 : Int32) (M : Mem) : U X G Z cL_isSo (some .boolean) (QM X G Z vI) 19 220 [(0, .ref (G.2 + 0)), (1, .ref (G.2 + a1)), (2, .ref (G.2 + a2)), (3, .ref (G.2 + a3)), (4, .ref (G.2 + a4)), (5, .ref (G.2 + a5)), (6, .ref (G.2 + a6)), (7, .ref (G.2 + a7)), (8, .int x8), (9, .int x9), (12, .int x12)] [.int t0] M (f_L_isSo_b220 k39 a1 a2 a3 a4 a5 a6 a7 x8 x9 x12 t0 M) := by
  unfold f_L_isSo_b220
  refine U_istore 10 [(10, .int t0), (0, .ref (G.2 + 0)), (1, .ref (G.2 + a1)), (2, .ref (G.2 + a2)), (3, .ref (G.2 + a3)), (4, .ref (G.2 + a4)), (5, .ref (G.2 + a5)), (6, .ref (G.2 + a6)), (7, .ref (G.2 + a7)), (8, .int x8), (9, .int x9), (12, .int x12)] (by decide) rfl dL_isSo_220 ?_
  refine U_aload_n 0 rfl 1 rfl dL_isSo_222 ?_
  refine U_aload_n 1 rfl 2 rfl dL_isSo_223 ?_
  refine U_aload_n 2 rfl 3 rfl dL_isSo_224 ?_
  refine U_aload_n 3 rfl 4 rfl dL_isSo_225 ?_
  refine U_aload 4 5 rfl dL_isSo_226 ?_
  refine U_aload 5 6 rfl dL_isSo_228 ?_
  refine U_aload 6 7 rfl dL_isSo_230 ?_
  refine U_iload 12 11 rfl dL_isSo_232 ?_
  refine kL_98 (Nat.lt_of_lt_of_le (Nat.le_of_ble_eq_true rfl : 6 + 1 ≤ 7) hZ) (fun lq rq Mq hh => mc_f_L_isFormula lq a1 a2 a3 a4 a5 a6 x12 M rq Mq hh) (fun rq Mq hh => (u_f_L_isFormula (X := (X.1, X.2.1, X.2.2.1, X.2.2.2.1, X.2.2.2.2.1, X.2.2.2.2.2.1, X.2.2.2.2.2.2.1, X.2.2.2.2.2.2.2.1, X.2.2.2.2.2.2.2.2)) (G := G) (Z := (6, Z.2)) (Nat.le_refl _) a1 a2 a3 a4 a5 a6 x12 M rq Mq hh).1) (Nat.le_of_ble_eq_true rfl) dL_isSo_234 (fun r1 M1 => ?_)
  refine U_istore 11 [(11, .int r1), (10, .int t0), (0, .ref (G.2 + 0)), (1, .ref (G.2 + a1)), (2, .ref (G.2 + a2)), (3, .ref (G.2 + a3)), (4, .ref (G.2 + a4)), (5, .ref (G.2 + a5)), (6, .ref (G.2 + a6)), (7, .ref (G.2 + a7)), (8, .int x8), (9, .int x9), (12, .int x12)] (by decide) rfl dL_isSo_237 ?_
  refine U_iincB 12 12 (fun y2 => [(12, .int y2), (11, .int r1), (10, .int t0), (0, .ref (G.2 + 0)), (1, .ref (G.2 + a1)), (2, .ref (G.2 + a2)), (3, .ref (G.2 + a3)), (4, .ref (G.2 + a4)), (5, .ref (G.2 + a5)), (6, .ref (G.2 + a6)), (7, .ref (G.2 + a7)), (8, .int x8), (9, .int x9)]) rfl ic_1 (by decide) (fun _ => rfl) dL_isSo_239 (fun y2 => ?_)
  refine U_goto 39 dL_isSo_242 (by decide) ?_
  exact U_sub [3, 4, 5, 6, 7, 8, 9, 10, 11, 12, 2, 1, 0] rfl (hk39 a1 a2 a3 a4 a5 a6 a7 x8 x9 t0 r1 y2 M1)
set_option maxRecDepth 100000 in
set_option maxHeartbeats 4000000 in
theorem f_L_isSo_b218_ok {X : XT} {G : GT} {Z : ZT} (hZ : 7 ≤ Z.1) (k39 : Nat → Nat → Nat → Nat → Nat → Nat → Nat → Int32 → Int32 → Int32 → Int32 → Int32 → Mem → Option (Int32 × Mem)) (hk39 : ∀ (a1 : Nat) (a2 : Nat) (a3 : Nat) (a4 : Nat) (a5 : Nat) (a6 : Nat) (a7 : Nat) (x8 : Int32) (x9 : Int32) (x10 : Int32) (x11 : Int32) (x12 : Int32) (M : Mem), U X G Z cL_isSo (some .boolean) (QM X G Z vI) 19 39 [(0, .ref (G.2 + 0)), (1, .ref (G.2 + a1)), (2, .ref (G.2 + a2)), (3, .ref (G.2 + a3)), (4, .ref (G.2 + a4)), (5, .ref (G.2 + a5)), (6, .ref (G.2 + a6)), (7, .ref (G.2 + a7)), (8, .int x8), (9, .int x9), (10, .int x10), (11, .int x11), (12, .int x12)] [] M (k39 a1 a2 a3 a4 a5 a6 a7 x8 x9 x10 x11 x12 M)) (a1 : Nat) (a2 : Nat) (a3 : Nat) (a4 : Nat) (a5 : Nat) (a6 : Nat) (a7 : Nat) (x8 : Int32) (x9 : Int32) (x10 : Int32) (x12 : Int32) (M : Mem) : U X G Z cL_isSo (some .boolean) (QM X G Z vI) 19 218 [(0, .ref (G.2 + 0)), (1, .ref (G.2 + a1)), (2, .ref (G.2 + a2)), (3, .ref (G.2 + a3)), (4, .ref (G.2 + a4)), (5, .ref (G.2 + a5)), (6, .ref (G.2 + a6)), (7, .ref (G.2 + a7)), (8, .int x8), (9, .int x9), (10, .int x10), (12, .int x12)] [] M (f_L_isSo_b218 k39 a1 a2 a3 a4 a5 a6 a7 x8 x9 x10 x12 M) := by
  unfold f_L_isSo_b218
  refine U_iload 10 10 rfl dL_isSo_218 ?_
  exact U_sub [0, 1, 2, 3, 4, 5, 6, 7, 8, 9, 11] rfl (f_L_isSo_b220_ok hZ k39 hk39 a1 a2 a3 a4 a5 a6 a7 x8 x9 x12 x10 M)
set_option maxRecDepth 100000 in
set_option maxHeartbeats 4000000 in
theorem f_L_isSo_b185_ok {X : XT} {G : GT} {Z : ZT} (hZ : 7 ≤ Z.1) (k39 : Nat → Nat → Nat → Nat → Nat → Nat → Nat → Int32 → Int32 → Int32 → Int32 → Int32 → Mem → Option (Int32 × Mem)) (hk39 : ∀ (a1 : Nat) (a2 : Nat) (a3 : Nat) (a4 : Nat) (a5 : Nat) (a6 : Nat) (a7 : Nat) (x8 : Int32) (x9 : Int32) (x10 : Int32) (x11 : Int32) (x12 : Int32) (M : Mem), U X G Z cL_isSo (some .boolean) (QM X G Z vI) 19 39 [(0, .ref (G.2 + 0)), (1, .ref (G.2 + a1)), (2, .ref (G.2 + a2)), (3, .ref (G.2 + a3)), (4, .ref (G.2 + a4)), (5, .ref (G.2 + a5)), (6, .ref (G.2 + a6)), (7, .ref (G.2 + a7)), (8, .int x8), (9, .int x9), (10, .int x10), (11, .int x11), (12, .int x12)] [] M (k39 a1 a2 a3 a4 a5 a6 a7 x8 x9 x10 x11 x12 M)) (a1 : Nat) (a2 : Nat) (a3 : Nat) (a4 : Nat) (a5 : Nat) (a6 : Nat) (a7 : Nat) (x9 : Int32) (x10 : Int32) (x12 : Int32) (a15 : Nat) (x17 : Int32) (t0 : Int32) (t1 : Int32) (M : Mem) : U X G Z cL_isSo (some .boolean) (QM X G Z vI) 19 185 [(0, .ref (G.2 + 0)), (1, .ref (G.2 + a1)), (2, .ref (G.2 + a2)), (3, .ref (G.2 + a3)), (4, .ref (G.2 + a4)), (5, .ref (G.2 + a5)), (6, .ref (G.2 + a6)), (7, .ref (G.2 + a7)), (9, .int x9), (10, .int x10), (12, .int x12), (15, .ref (G.2 + a15)), (17, .int x17)] [.int t0, .int t1] M (f_L_isSo_b185 k39 a1 a2 a3 a4 a5 a6 a7 x9 x10 x12 a15 x17 t0 t1 M) := by
  unfold f_L_isSo_b185
  refine U_iadd dL_isSo_185 ?_
  refine U_bi (fun y1 => ?_)
  refine U_istore 8 [(8, .int y1), (0, .ref (G.2 + 0)), (1, .ref (G.2 + a1)), (2, .ref (G.2 + a2)), (3, .ref (G.2 + a3)), (4, .ref (G.2 + a4)), (5, .ref (G.2 + a5)), (6, .ref (G.2 + a6)), (7, .ref (G.2 + a7)), (9, .int x9), (10, .int x10), (12, .int x12), (15, .ref (G.2 + a15)), (17, .int x17)] (by decide) rfl dL_isSo_186 ?_
  refine U_iload 9 9 rfl dL_isSo_188 ?_
  refine U_aload_n 3 rfl 4 rfl dL_isSo_190 ?_
  refine U_iload 12 11 rfl dL_isSo_191 ?_
  refine U_iald dL_isSo_193 ?_
  refine U_iadd dL_isSo_194 ?_
  refine U_bi (fun y2 => ?_)
  refine U_istore 9 [(9, .int y2), (8, .int y1), (0, .ref (G.2 + 0)), (1, .ref (G.2 + a1)), (2, .ref (G.2 + a2)), (3, .ref (G.2 + a3)), (4, .ref (G.2 + a4)), (5, .ref (G.2 + a5)), (6, .ref (G.2 + a6)), (7, .ref (G.2 + a7)), (10, .int x10), (12, .int x12), (15, .ref (G.2 + a15)), (17, .int x17)] (by decide) rfl dL_isSo_195 ?_
  refine U_iload 17 13 rfl dL_isSo_197 ?_
  refine U_ifne 218 dL_isSo_199 (by decide) (fun _ => ?_) (fun _ => ?_)
  · exact U_sub [2, 3, 4, 5, 6, 7, 8, 9, 1, 0, 10, 11] rfl (f_L_isSo_b218_ok hZ k39 hk39 a1 a2 a3 a4 a5 a6 a7 y1 y2 x10 x12 M)
  · refine U_aload 15 12 rfl dL_isSo_202 ?_
    refine U_iconst dL_isSo_204 ic_0 ?_
    refine U_iald dL_isSo_205 ?_
    refine U_iload 10 10 rfl dL_isSo_206 ?_
    refine U_icmple 218 dL_isSo_208 (by decide) (fun _ => ?_) (fun _ => ?_)
    · exact U_sub [2, 3, 4, 5, 6, 7, 8, 9, 1, 0, 10, 11] rfl (f_L_isSo_b218_ok hZ k39 hk39 a1 a2 a3 a4 a5 a6 a7 y1 y2 x10 x12 M)
    · refine U_aload 15 12 rfl dL_isSo_211 ?_
      refine U_iconst dL_isSo_213 ic_0 ?_
      refine U_iald dL_isSo_214 ?_
      refine U_goto 220 dL_isSo_215 (by decide) ?_
      exact U_sub [2, 3, 4, 5, 6, 7, 8, 9, 1, 0, 11] rfl (f_L_isSo_b220_ok hZ k39 hk39 a1 a2 a3 a4 a5 a6 a7 y1 y2 x12 (M.1 a15 (ix 0)) M)
set_option maxRecDepth 100000 in
set_option maxHeartbeats 4000000 in
theorem f_L_isSo_b173_ok {X : XT} {G : GT} {Z : ZT} (hZ : 7 ≤ Z.1) (k39 : Nat → Nat → Nat → Nat → Nat → Nat → Nat → Int32 → Int32 → Int32 → Int32 → Int32 → Mem → Option (Int32 × Mem)) (hk39 : ∀ (a1 : Nat) (a2 : Nat) (a3 : Nat) (a4 : Nat) (a5 : Nat) (a6 : Nat) (a7 : Nat) (x8 : Int32) (x9 : Int32) (x10 : Int32) (x11 : Int32) (x12 : Int32) (M : Mem), U X G Z cL_isSo (some .boolean) (QM X G Z vI) 19 39 [(0, .ref (G.2 + 0)), (1, .ref (G.2 + a1)), (2, .ref (G.2 + a2)), (3, .ref (G.2 + a3)), (4, .ref (G.2 + a4)), (5, .ref (G.2 + a5)), (6, .ref (G.2 + a6)), (7, .ref (G.2 + a7)), (8, .int x8), (9, .int x9), (10, .int x10), (11, .int x11), (12, .int x12)] [] M (k39 a1 a2 a3 a4 a5 a6 a7 x8 x9 x10 x11 x12 M)) (a1 : Nat) (a2 : Nat) (a3 : Nat) (a4 : Nat) (a5 : Nat) (a6 : Nat) (a7 : Nat) (x8 : Int32) (x9 : Int32) (x10 : Int32) (x12 : Int32) (a15 : Nat) (x17 : Int32) (M : Mem) : U X G Z cL_isSo (some .boolean) (QM X G Z vI) 19 173 [(0, .ref (G.2 + 0)), (1, .ref (G.2 + a1)), (2, .ref (G.2 + a2)), (3, .ref (G.2 + a3)), (4, .ref (G.2 + a4)), (5, .ref (G.2 + a5)), (6, .ref (G.2 + a6)), (7, .ref (G.2 + a7)), (8, .int x8), (9, .int x9), (10, .int x10), (12, .int x12), (15, .ref (G.2 + a15)), (17, .int x17)] [] M (f_L_isSo_b173 k39 a1 a2 a3 a4 a5 a6 a7 x8 x9 x10 x12 a15 x17 M) := by
  unfold f_L_isSo_b173
  refine U_iload 8 8 rfl dL_isSo_173 ?_
  refine U_iload 17 13 rfl dL_isSo_175 ?_
  refine U_ifeq 184 dL_isSo_177 (by decide) (fun _ => ?_) (fun _ => ?_)
  · refine U_iconst dL_isSo_184 ic_0 ?_
    exact U_sub [0, 1, 2, 3, 4, 5, 6, 7, 9, 10, 11, 12, 13] rfl (f_L_isSo_b185_ok hZ k39 hk39 a1 a2 a3 a4 a5 a6 a7 x9 x10 x12 a15 x17 0 x8 M)
  · refine U_iconst dL_isSo_180 ic_1 ?_
    refine U_goto 185 dL_isSo_181 (by decide) ?_
    exact U_sub [0, 1, 2, 3, 4, 5, 6, 7, 9, 10, 11, 12, 13] rfl (f_L_isSo_b185_ok hZ k39 hk39 a1 a2 a3 a4 a5 a6 a7 x9 x10 x12 a15 x17 1 x8 M)
set_option maxRecDepth 100000 in
set_option maxHeartbeats 4000000 in
theorem f_L_isSo_b129_ok {X : XT} {G : GT} {Z : ZT} (hZ : 7 ≤ Z.1) (k39 : Nat → Nat → Nat → Nat → Nat → Nat → Nat → Int32 → Int32 → Int32 → Int32 → Int32 → Mem → Option (Int32 × Mem)) (hk39 : ∀ (a1 : Nat) (a2 : Nat) (a3 : Nat) (a4 : Nat) (a5 : Nat) (a6 : Nat) (a7 : Nat) (x8 : Int32) (x9 : Int32) (x10 : Int32) (x11 : Int32) (x12 : Int32) (M : Mem), U X G Z cL_isSo (some .boolean) (QM X G Z vI) 19 39 [(0, .ref (G.2 + 0)), (1, .ref (G.2 + a1)), (2, .ref (G.2 + a2)), (3, .ref (G.2 + a3)), (4, .ref (G.2 + a4)), (5, .ref (G.2 + a5)), (6, .ref (G.2 + a6)), (7, .ref (G.2 + a7)), (8, .int x8), (9, .int x9), (10, .int x10), (11, .int x11), (12, .int x12)] [] M (k39 a1 a2 a3 a4 a5 a6 a7 x8 x9 x10 x11 x12 M)) : ∀ (n : Nat) (a1 : Nat) (a2 : Nat) (a3 : Nat) (a4 : Nat) (a5 : Nat) (a6 : Nat) (a7 : Nat) (x8 : Int32) (x9 : Int32) (x10 : Int32) (x12 : Int32) (a13 : Nat) (a14 : Nat) (a15 : Nat) (x16 : Int32) (x17 : Int32) (x18 : Int32) (M : Mem), U X G Z cL_isSo (some .boolean) (QM X G Z vI) 19 129 [(0, .ref (G.2 + 0)), (1, .ref (G.2 + a1)), (2, .ref (G.2 + a2)), (3, .ref (G.2 + a3)), (4, .ref (G.2 + a4)), (5, .ref (G.2 + a5)), (6, .ref (G.2 + a6)), (7, .ref (G.2 + a7)), (8, .int x8), (9, .int x9), (10, .int x10), (12, .int x12), (13, .ref (G.2 + a13)), (14, .ref (G.2 + a14)), (15, .ref (G.2 + a15)), (16, .int x16), (17, .int x17), (18, .int x18)] [] M (f_L_isSo_b129 k39 n a1 a2 a3 a4 a5 a6 a7 x8 x9 x10 x12 a13 a14 a15 x16 x17 x18 M) := by
  intro n
  induction n with
  | zero =>
    intros
    rw [f_L_isSo_b129]
    exact U_none
  | succ n ih =>
    intro a1 a2 a3 a4 a5 a6 a7 x8 x9 x10 x12 a13 a14 a15 x16 x17 x18 M
    rw [f_L_isSo_b129]
    refine U_iload 18 17 rfl dL_isSo_129 ?_
    refine U_iload 16 15 rfl dL_isSo_131 ?_
    refine U_icmpge 173 dL_isSo_133 (by decide) (fun _ => ?_) (fun _ => ?_)
    · exact U_sub [0, 1, 2, 3, 4, 5, 6, 7, 8, 9, 10, 11, 14, 16] rfl (f_L_isSo_b173_ok hZ k39 hk39 a1 a2 a3 a4 a5 a6 a7 x8 x9 x10 x12 a15 x17 M)
    · refine U_iload 17 16 rfl dL_isSo_136 ?_
      refine U_ifne 173 dL_isSo_138 (by decide) (fun _ => ?_) (fun _ => ?_)
      · exact U_sub [0, 1, 2, 3, 4, 5, 6, 7, 8, 9, 10, 11, 14, 16] rfl (f_L_isSo_b173_ok hZ k39 hk39 a1 a2 a3 a4 a5 a6 a7 x8 x9 x10 x12 a15 x17 M)
      · refine U_aload 7 7 rfl dL_isSo_141 ?_
        refine U_aload 13 12 rfl dL_isSo_143 ?_
        refine U_iload 18 17 rfl dL_isSo_145 ?_
        refine U_iald dL_isSo_147 ?_
        refine U_iconst dL_isSo_148 ic_2 ?_
        refine U_icmpne 160 dL_isSo_149 (by decide) (fun _ => ?_) (fun _ => ?_)
        · refine U_bipush dL_isSo_160 bp_7 ?_
          refine U_dup2 rfl rfl dL_isSo_162 ?_
          refine U_iald dL_isSo_163 ?_
          refine U_iconst dL_isSo_164 ic_1 ?_
          refine U_iadd dL_isSo_165 ?_
          refine U_iast dL_isSo_166 (fun M1 => ?_)
          refine U_iincB 18 17 (fun y2 => [(18, .int y2), (0, .ref (G.2 + 0)), (1, .ref (G.2 + a1)), (2, .ref (G.2 + a2)), (3, .ref (G.2 + a3)), (4, .ref (G.2 + a4)), (5, .ref (G.2 + a5)), (6, .ref (G.2 + a6)), (7, .ref (G.2 + a7)), (8, .int x8), (9, .int x9), (10, .int x10), (12, .int x12), (13, .ref (G.2 + a13)), (14, .ref (G.2 + a14)), (15, .ref (G.2 + a15)), (16, .int x16), (17, .int x17)]) rfl ic_1 (by decide) (fun _ => rfl) dL_isSo_167 (fun y2 => ?_)
          refine U_goto 129 dL_isSo_170 (by decide) ?_
          exact U_sub [1, 2, 3, 4, 5, 6, 7, 8, 9, 10, 11, 12, 13, 14, 15, 16, 17, 0] rfl (ih a1 a2 a3 a4 a5 a6 a7 x8 x9 x10 x12 a13 a14 a15 x16 x17 y2 M1)
        · refine U_aload 14 13 rfl dL_isSo_152 ?_
          refine U_iload 18 17 rfl dL_isSo_154 ?_
          refine U_iald dL_isSo_156 ?_
          refine U_goto 162 dL_isSo_157 (by decide) ?_
          refine U_dup2 rfl rfl dL_isSo_162 ?_
          refine U_iald dL_isSo_163 ?_
          refine U_iconst dL_isSo_164 ic_1 ?_
          refine U_iadd dL_isSo_165 ?_
          refine U_iast dL_isSo_166 (fun M3 => ?_)
          refine U_iincB 18 17 (fun y4 => [(18, .int y4), (0, .ref (G.2 + 0)), (1, .ref (G.2 + a1)), (2, .ref (G.2 + a2)), (3, .ref (G.2 + a3)), (4, .ref (G.2 + a4)), (5, .ref (G.2 + a5)), (6, .ref (G.2 + a6)), (7, .ref (G.2 + a7)), (8, .int x8), (9, .int x9), (10, .int x10), (12, .int x12), (13, .ref (G.2 + a13)), (14, .ref (G.2 + a14)), (15, .ref (G.2 + a15)), (16, .int x16), (17, .int x17)]) rfl ic_1 (by decide) (fun _ => rfl) dL_isSo_167 (fun y4 => ?_)
          refine U_goto 129 dL_isSo_170 (by decide) ?_
          exact U_sub [1, 2, 3, 4, 5, 6, 7, 8, 9, 10, 11, 12, 13, 14, 15, 16, 17, 0] rfl (ih a1 a2 a3 a4 a5 a6 a7 x8 x9 x10 x12 a13 a14 a15 x16 x17 y4 M3)
set_option maxRecDepth 100000 in
set_option maxHeartbeats 4000000 in
theorem f_L_isSo_b39_ok {X : XT} {G : GT} {Z : ZT} (hZ : 7 ≤ Z.1) : ∀ (n : Nat) (a1 : Nat) (a2 : Nat) (a3 : Nat) (a4 : Nat) (a5 : Nat) (a6 : Nat) (a7 : Nat) (x8 : Int32) (x9 : Int32) (x10 : Int32) (x11 : Int32) (x12 : Int32) (M : Mem), U X G Z cL_isSo (some .boolean) (QM X G Z vI) 19 39 [(0, .ref (G.2 + 0)), (1, .ref (G.2 + a1)), (2, .ref (G.2 + a2)), (3, .ref (G.2 + a3)), (4, .ref (G.2 + a4)), (5, .ref (G.2 + a5)), (6, .ref (G.2 + a6)), (7, .ref (G.2 + a7)), (8, .int x8), (9, .int x9), (10, .int x10), (11, .int x11), (12, .int x12)] [] M (f_L_isSo_b39 n a1 a2 a3 a4 a5 a6 a7 x8 x9 x10 x11 x12 M) := by
  intro n
  induction n with
  | zero =>
    intros
    rw [f_L_isSo_b39]
    exact U_none
  | succ n ih =>
    intro a1 a2 a3 a4 a5 a6 a7 x8 x9 x10 x11 x12 M
    rw [f_L_isSo_b39]
    refine U_iload 12 12 rfl dL_isSo_39 ?_
    refine U_aload_n 1 rfl 1 rfl dL_isSo_41 ?_
    refine U_iconst dL_isSo_42 ic_0 ?_
    refine U_iald dL_isSo_43 ?_
    refine U_icmpge 245 dL_isSo_44 (by decide) (fun _ => ?_) (fun _ => ?_)
    · exact U_sub [0, 1, 2, 7, 8, 9, 10, 11] rfl (f_L_isSo_b245_ok hZ a1 a2 a7 x8 x9 x10 x11 M)
    · refine U_iload 11 11 rfl dL_isSo_47 ?_
      refine U_ifeq 245 dL_isSo_49 (by decide) (fun _ => ?_) (fun _ => ?_)
      · exact U_sub [0, 1, 2, 7, 8, 9, 10, 11] rfl (f_L_isSo_b245_ok hZ a1 a2 a7 x8 x9 x10 x11 M)
      · refine U_bipush dL_isSo_52 bp_64 ?_
        refine U_newa xa_i dL_isSo_54 (fun b1 M1 => ?_)
        refine U_astore 13 [(13, .ref (G.2 + b1)), (0, .ref (G.2 + 0)), (1, .ref (G.2 + a1)), (2, .ref (G.2 + a2)), (3, .ref (G.2 + a3)), (4, .ref (G.2 + a4)), (5, .ref (G.2 + a5)), (6, .ref (G.2 + a6)), (7, .ref (G.2 + a7)), (8, .int x8), (9, .int x9), (10, .int x10), (11, .int x11), (12, .int x12)] (by decide) rfl dL_isSo_56 ?_
        refine U_bipush dL_isSo_58 bp_64 ?_
        refine U_newa xa_i dL_isSo_60 (fun b2 M2 => ?_)
        refine U_astore 14 [(14, .ref (G.2 + b2)), (13, .ref (G.2 + b1)), (0, .ref (G.2 + 0)), (1, .ref (G.2 + a1)), (2, .ref (G.2 + a2)), (3, .ref (G.2 + a3)), (4, .ref (G.2 + a4)), (5, .ref (G.2 + a5)), (6, .ref (G.2 + a6)), (7, .ref (G.2 + a7)), (8, .int x8), (9, .int x9), (10, .int x10), (11, .int x11), (12, .int x12)] (by decide) rfl dL_isSo_62 ?_
        refine U_bipush dL_isSo_64 bp_64 ?_
        refine U_newa xa_i dL_isSo_66 (fun b3 M3 => ?_)
        refine U_astore 15 [(15, .ref (G.2 + b3)), (14, .ref (G.2 + b2)), (13, .ref (G.2 + b1)), (0, .ref (G.2 + 0)), (1, .ref (G.2 + a1)), (2, .ref (G.2 + a2)), (3, .ref (G.2 + a3)), (4, .ref (G.2 + a4)), (5, .ref (G.2 + a5)), (6, .ref (G.2 + a6)), (7, .ref (G.2 + a7)), (8, .int x8), (9, .int x9), (10, .int x10), (11, .int x11), (12, .int x12)] (by decide) rfl dL_isSo_68 ?_
        refine U_aload_n 1 rfl 4 rfl dL_isSo_70 ?_
        refine U_aload_n 3 rfl 6 rfl dL_isSo_71 ?_
        refine U_aload 4 7 rfl dL_isSo_72 ?_
        refine U_aload 5 8 rfl dL_isSo_74 ?_
        refine U_iload 12 15 rfl dL_isSo_76 ?_
        refine U_aload 13 2 rfl dL_isSo_78 ?_
        refine U_aload 14 1 rfl dL_isSo_80 ?_
        refine kL_21 (Nat.lt_of_lt_of_le (Nat.le_of_ble_eq_true rfl : 1 + 1 ≤ 7) hZ) (fun lq rq Mq hh => mc_f_L_expand lq a1 a3 a4 a5 x12 b1 b2 M3 rq Mq hh) (fun rq Mq hh => (u_f_L_expand (X := (X.1, X.2.1, X.2.2.1, X.2.2.2.1, X.2.2.2.2.1, X.2.2.2.2.2.1, X.2.2.2.2.2.2.1, X.2.2.2.2.2.2.2.1, X.2.2.2.2.2.2.2.2)) (G := G) (Z := (1, Z.2)) (Nat.le_refl _) a1 a3 a4 a5 x12 b1 b2 M3 rq Mq hh).1) (Nat.le_of_ble_eq_true rfl) dL_isSo_82 (fun r4 M4 => ?_)
        refine U_istore 16 [(16, .int r4), (15, .ref (G.2 + b3)), (14, .ref (G.2 + b2)), (13, .ref (G.2 + b1)), (0, .ref (G.2 + 0)), (1, .ref (G.2 + a1)), (2, .ref (G.2 + a2)), (3, .ref (G.2 + a3)), (4, .ref (G.2 + a4)), (5, .ref (G.2 + a5)), (6, .ref (G.2 + a6)), (7, .ref (G.2 + a7)), (8, .int x8), (9, .int x9), (10, .int x10), (11, .int x11), (12, .int x12)] (by decide) rfl dL_isSo_85 ?_
        refine U_aload_n 1 rfl 5 rfl dL_isSo_87 ?_
        refine U_aload_n 3 rfl 7 rfl dL_isSo_88 ?_
        refine U_aload 4 8 rfl dL_isSo_89 ?_
        refine U_aload 5 9 rfl dL_isSo_91 ?_
        refine U_iload 12 16 rfl dL_isSo_93 ?_
        refine kL_9 (Nat.lt_of_lt_of_le (Nat.le_of_ble_eq_true rfl : 0 + 1 ≤ 7) hZ) (fun lq rq Mq hh => mc_f_L_isCheap lq a1 a3 a4 a5 x12 M4 rq Mq hh) (fun rq Mq hh => (u_f_L_isCheap (X := (X.1, X.2.1, X.2.2.1, X.2.2.2.1, X.2.2.2.2.1, X.2.2.2.2.2.1, X.2.2.2.2.2.2.1, X.2.2.2.2.2.2.2.1, X.2.2.2.2.2.2.2.2)) (G := G) (Z := (0, Z.2)) (Nat.le_refl _) a1 a3 a4 a5 x12 M4 rq Mq hh).1) (Nat.le_of_ble_eq_true rfl) dL_isSo_95 (fun r5 M5 => ?_)
        refine U_istore 17 [(17, .int r5), (16, .int r4), (15, .ref (G.2 + b3)), (14, .ref (G.2 + b2)), (13, .ref (G.2 + b1)), (0, .ref (G.2 + 0)), (1, .ref (G.2 + a1)), (2, .ref (G.2 + a2)), (3, .ref (G.2 + a3)), (4, .ref (G.2 + a4)), (5, .ref (G.2 + a5)), (6, .ref (G.2 + a6)), (7, .ref (G.2 + a7)), (8, .int x8), (9, .int x9), (10, .int x10), (11, .int x11), (12, .int x12)] (by decide) rfl dL_isSo_98 ?_
        refine U_aload_n 2 rfl 7 rfl dL_isSo_100 ?_
        refine U_aload 6 11 rfl dL_isSo_101 ?_
        refine U_aload 13 4 rfl dL_isSo_103 ?_
        refine U_aload 14 3 rfl dL_isSo_105 ?_
        refine U_iload 16 1 rfl dL_isSo_107 ?_
        refine U_bipush dL_isSo_109 bp_64 ?_
        refine U_newa xa_i dL_isSo_111 (fun b6 M6 => ?_)
        refine U_aload 15 2 rfl dL_isSo_113 ?_
        refine U_bipush dL_isSo_115 bp_64 ?_
        refine U_newa xa_i dL_isSo_117 (fun b7 M7 => ?_)
        refine U_bipush dL_isSo_119 bp_64 ?_
        refine U_newa xa_i dL_isSo_121 (fun b8 M8 => ?_)
        refine kL_25 (Nat.lt_of_lt_of_le (Nat.le_of_ble_eq_true rfl : 0 + 1 ≤ 7) hZ) (fun lq rq Mq hh => mc_f_L_tell lq a2 a6 b1 b2 r4 b6 b3 b7 b8 M8 rq Mq hh) (fun rq Mq hh => (u_f_L_tell (X := (X.1, X.2.1, X.2.2.1, X.2.2.2.1, X.2.2.2.2.1, X.2.2.2.2.2.1, X.2.2.2.2.2.2.1, X.2.2.2.2.2.2.2.1, X.2.2.2.2.2.2.2.2)) (G := G) (Z := (0, Z.2)) (Nat.le_refl _) a2 a6 b1 b2 r4 b6 b3 b7 b8 M8 rq Mq hh).1) (Nat.le_of_ble_eq_true rfl) dL_isSo_123 (fun _ M9 => ?_)
        refine U_iconst dL_isSo_126 ic_0 ?_
        refine U_istore 18 [(18, .int 0), (17, .int r5), (16, .int r4), (15, .ref (G.2 + b3)), (14, .ref (G.2 + b2)), (13, .ref (G.2 + b1)), (0, .ref (G.2 + 0)), (1, .ref (G.2 + a1)), (2, .ref (G.2 + a2)), (3, .ref (G.2 + a3)), (4, .ref (G.2 + a4)), (5, .ref (G.2 + a5)), (6, .ref (G.2 + a6)), (7, .ref (G.2 + a7)), (8, .int x8), (9, .int x9), (10, .int x10), (11, .int x11), (12, .int x12)] (by decide) rfl dL_isSo_127 ?_
        exact U_sub [6, 7, 8, 9, 10, 11, 12, 13, 14, 15, 16, 18, 5, 4, 3, 2, 1, 0] rfl (f_L_isSo_b129_ok hZ (f_L_isSo_b39 n) ih FU a1 a2 a3 a4 a5 a6 a7 x8 x9 x10 x12 b1 b2 b3 r4 r5 0 M9)
set_option maxRecDepth 100000 in
set_option maxHeartbeats 4000000 in
theorem u_f_L_isSo {X : XT} {G : GT} {Z : ZT} (hZ : 7 ≤ Z.1) (a1 : Nat) (a2 : Nat) (a3 : Nat) (a4 : Nat) (a5 : Nat) (M : Mem) : U X G Z cL_isSo (some .boolean) (QM X G Z vI) 19 0 [(0, .ref (G.2 + 0)), (1, .ref (G.2 + a1)), (2, .ref (G.2 + a2)), (3, .ref (G.2 + a3)), (4, .ref (G.2 + a4)), (5, .ref (G.2 + a5))] [] M (f_L_isSo a1 a2 a3 a4 a5 M) := by
  unfold f_L_isSo
  refine U_bipush dL_isSo_0 bp_8 ?_
  refine U_newa xa_i dL_isSo_2 (fun b1 M1 => ?_)
  refine U_astore 6 [(6, .ref (G.2 + b1)), (0, .ref (G.2 + 0)), (1, .ref (G.2 + a1)), (2, .ref (G.2 + a2)), (3, .ref (G.2 + a3)), (4, .ref (G.2 + a4)), (5, .ref (G.2 + a5))] (by decide) rfl dL_isSo_4 ?_
  refine U_bipush dL_isSo_6 bp_8 ?_
  refine U_newa xa_i dL_isSo_8 (fun b2 M2 => ?_)
  refine U_astore 7 [(7, .ref (G.2 + b2)), (6, .ref (G.2 + b1)), (0, .ref (G.2 + 0)), (1, .ref (G.2 + a1)), (2, .ref (G.2 + a2)), (3, .ref (G.2 + a3)), (4, .ref (G.2 + a4)), (5, .ref (G.2 + a5))] (by decide) rfl dL_isSo_10 ?_
  refine U_iconst dL_isSo_12 ic_0 ?_
  refine U_istore 8 [(8, .int 0), (7, .ref (G.2 + b2)), (6, .ref (G.2 + b1)), (0, .ref (G.2 + 0)), (1, .ref (G.2 + a1)), (2, .ref (G.2 + a2)), (3, .ref (G.2 + a3)), (4, .ref (G.2 + a4)), (5, .ref (G.2 + a5))] (by decide) rfl dL_isSo_13 ?_
  refine U_iconst dL_isSo_15 ic_0 ?_
  refine U_istore 9 [(9, .int 0), (8, .int 0), (7, .ref (G.2 + b2)), (6, .ref (G.2 + b1)), (0, .ref (G.2 + 0)), (1, .ref (G.2 + a1)), (2, .ref (G.2 + a2)), (3, .ref (G.2 + a3)), (4, .ref (G.2 + a4)), (5, .ref (G.2 + a5))] (by decide) rfl dL_isSo_16 ?_
  refine U_iconst dL_isSo_18 ic_0 ?_
  refine U_istore 10 [(10, .int 0), (9, .int 0), (8, .int 0), (7, .ref (G.2 + b2)), (6, .ref (G.2 + b1)), (0, .ref (G.2 + 0)), (1, .ref (G.2 + a1)), (2, .ref (G.2 + a2)), (3, .ref (G.2 + a3)), (4, .ref (G.2 + a4)), (5, .ref (G.2 + a5))] (by decide) rfl dL_isSo_19 ?_
  refine U_iconst dL_isSo_21 ic_1 ?_
  refine U_istore 11 [(11, .int 1), (10, .int 0), (9, .int 0), (8, .int 0), (7, .ref (G.2 + b2)), (6, .ref (G.2 + b1)), (0, .ref (G.2 + 0)), (1, .ref (G.2 + a1)), (2, .ref (G.2 + a2)), (3, .ref (G.2 + a3)), (4, .ref (G.2 + a4)), (5, .ref (G.2 + a5))] (by decide) rfl dL_isSo_22 ?_
  refine U_aload_n 1 rfl 7 rfl dL_isSo_24 ?_
  refine U_aload_n 2 rfl 8 rfl dL_isSo_25 ?_
  refine U_aload_n 3 rfl 9 rfl dL_isSo_26 ?_
  refine U_aload 4 10 rfl dL_isSo_27 ?_
  refine U_aload 5 11 rfl dL_isSo_29 ?_
  refine U_aload 6 5 rfl dL_isSo_31 ?_
  refine kL_94 (Nat.lt_of_lt_of_le (Nat.le_of_ble_eq_true rfl : 2 + 1 ≤ 7) hZ) (fun lq rq Mq hh => mc_f_L_worths lq a1 a2 a3 a4 a5 b1 M2 rq Mq hh) (fun rq Mq hh => (u_f_L_worths (X := (X.1, X.2.1, X.2.2.1, X.2.2.2.1, X.2.2.2.2.1, X.2.2.2.2.2.1, X.2.2.2.2.2.2.1, X.2.2.2.2.2.2.2.1, X.2.2.2.2.2.2.2.2)) (G := G) (Z := (2, Z.2)) (Nat.le_refl _) a1 a2 a3 a4 a5 b1 M2 rq Mq hh).1) (Nat.le_of_ble_eq_true rfl) dL_isSo_33 (fun _ M3 => ?_)
  refine U_iconst dL_isSo_36 ic_0 ?_
  refine U_istore 12 [(12, .int 0), (11, .int 1), (10, .int 0), (9, .int 0), (8, .int 0), (7, .ref (G.2 + b2)), (6, .ref (G.2 + b1)), (0, .ref (G.2 + 0)), (1, .ref (G.2 + a1)), (2, .ref (G.2 + a2)), (3, .ref (G.2 + a3)), (4, .ref (G.2 + a4)), (5, .ref (G.2 + a5))] (by decide) rfl dL_isSo_37 ?_
  exact U_sub [7, 8, 9, 10, 11, 12, 6, 5, 4, 3, 2, 1, 0] rfl (f_L_isSo_b39_ok hZ FU a1 a2 a3 a4 a5 b1 b2 0 0 0 1 0 M3)
theorem mc_f_L_isSo {G : GT} (l : Launch) (a1 : Nat) (a2 : Nat) (a3 : Nat) (a4 : Nat) (a5 : Nat) (M : Mem) (r : Int32) (M1 : Mem) (ho : f_L_isSo a1 a2 a3 a4 a5 M = some (r, M1)) : MCL l G yL_isSo cL_isSo 19 (some .boolean) 7 [.ref (G.2 + 0), .ref (G.2 + a1), .ref (G.2 + a2), .ref (G.2 + a3), .ref (G.2 + a4), .ref (G.2 + a5)] M (vI r) M1 :=
  MCL.ofU (lv := [(0, .ref (G.2 + 0)), (1, .ref (G.2 + a1)), (2, .ref (G.2 + a2)), (3, .ref (G.2 + a3)), (4, .ref (G.2 + a4)), (5, .ref (G.2 + a5))]) (by decide +kernel) rfl rfl (Nat.le_of_ble_eq_true rfl) ho (fun X Z hZ => u_f_L_isSo (Nat.le_of_eq hZ.symm) a1 a2 a3 a4 a5 M)
