set_option maxRecDepth 100000 in
set_option maxHeartbeats 4000000 in
theorem f_Md_does_b110_ok {X : XT} {G : GT} (C0 : Cx X G cX7_does 5 RX7 none) (x1 : Int32) (x3 : Int32) (t0 : Int32) (t1 : Int32) (M : Mem) : V X G 0 vU 5 110 [(0, .ref (G.2 + 208)), (1, .int x1), (3, .int x3)] [.int t0, .int t1, .ref (G.2 + 208)] M (f_Md_does_b110 x1 x3 t0 t1 M) := by
  unfold f_Md_does_b110
  refine V_iadd C0 dX7_does_110 ?_
  refine p7_218 C0 dX7_does_111 (fun M1 => ?_)
  refine V_aload_n C0 0 rfl 0 rfl dX7_does_114 ?_
  refine V_dup C0 rfl dX7_does_115 ?_
  refine g7_221 C0 dX7_does_116 ?_
  refine V_iload_n C0 1 rfl 1 rfl dX7_does_119 ?_
  refine V_iconst C0 dX7_does_120 ic_1 ?_
  refine V_icmpne C0 128 dX7_does_121 (by decide) (fun _ => ?_) (fun _ => ?_)
  · refine V_iconst C0 dX7_does_128 ic_0 ?_
    refine V_iadd C0 dX7_does_129 ?_
    refine p7_221 C0 dX7_does_130 (fun M2 => ?_)
    exact V_vret C0 dX7_does_133
  · refine V_iload_n C0 3 rfl 2 rfl dX7_does_124 ?_
    refine V_goto C0 129 dX7_does_125 (by decide) ?_
    refine V_iadd C0 dX7_does_129 ?_
    refine p7_221 C0 dX7_does_130 (fun M3 => ?_)
    exact V_vret C0 dX7_does_133
set_option maxRecDepth 100000 in
set_option maxHeartbeats 4000000 in
theorem f_Md_does_b91_ok {X : XT} {G : GT} (C0 : Cx X G cX7_does 5 RX7 none) (x1 : Int32) (x3 : Int32) (t0 : Int32) (t1 : Int32) (M : Mem) : V X G 0 vU 5 91 [(0, .ref (G.2 + 208)), (1, .int x1), (3, .int x3)] [.int t0, .int t1, .ref (G.2 + 208)] M (f_Md_does_b91 x1 x3 t0 t1 M) := by
  unfold f_Md_does_b91
  refine V_iadd C0 dX7_does_91 ?_
  refine p7_215 C0 dX7_does_92 (fun M1 => ?_)
  refine V_aload_n C0 0 rfl 0 rfl dX7_does_95 ?_
  refine V_dup C0 rfl dX7_does_96 ?_
  refine g7_218 C0 dX7_does_97 ?_
  refine V_iload_n C0 1 rfl 1 rfl dX7_does_100 ?_
  refine V_iconst C0 dX7_does_101 ic_5 ?_
  refine V_icmpne C0 109 dX7_does_102 (by decide) (fun _ => ?_) (fun _ => ?_)
  · refine V_iconst C0 dX7_does_109 ic_0 ?_
    exact V_sub [0, 1, 2] rfl (f_Md_does_b110_ok C0 x1 x3 0 (M1.1 208 28) M1)
  · refine V_iconst C0 dX7_does_105 ic_1 ?_
    refine V_goto C0 110 dX7_does_106 (by decide) ?_
    exact V_sub [0, 1, 2] rfl (f_Md_does_b110_ok C0 x1 x3 1 (M1.1 208 28) M1)
set_option maxRecDepth 100000 in
set_option maxHeartbeats 4000000 in
theorem f_Md_does_b56_ok {X : XT} {G : GT} (C0 : Cx X G cX7_does 5 RX7 none) (x1 : Int32) (x3 : Int32) (M : Mem) : V X G 0 vU 5 56 [(0, .ref (G.2 + 208)), (1, .int x1), (3, .int x3)] [] M (f_Md_does_b56 x1 x3 M) := by
  unfold f_Md_does_b56
  refine V_aload_n C0 0 rfl 0 rfl dX7_does_56 ?_
  refine V_dup C0 rfl dX7_does_57 ?_
  refine g7_203 C0 dX7_does_58 ?_
  refine V_iconst C0 dX7_does_61 ic_1 ?_
  refine V_iadd C0 dX7_does_62 ?_
  refine p7_203 C0 dX7_does_63 (fun M1 => ?_)
  refine V_aload_n C0 0 rfl 0 rfl dX7_does_66 ?_
  refine V_dup C0 rfl dX7_does_67 ?_
  refine g7_212 C0 dX7_does_68 ?_
  refine V_iload_n C0 3 rfl 2 rfl dX7_does_71 ?_
  refine V_iadd C0 dX7_does_72 ?_
  refine p7_212 C0 dX7_does_73 (fun M2 => ?_)
  refine V_aload_n C0 0 rfl 0 rfl dX7_does_76 ?_
  refine V_dup C0 rfl dX7_does_77 ?_
  refine g7_215 C0 dX7_does_78 ?_
  refine V_iload_n C0 1 rfl 1 rfl dX7_does_81 ?_
  refine V_iconst C0 dX7_does_82 ic_2 ?_
  refine V_icmpne C0 90 dX7_does_83 (by decide) (fun _ => ?_) (fun _ => ?_)
  · refine V_iconst C0 dX7_does_90 ic_0 ?_
    exact V_sub [0, 1, 2] rfl (f_Md_does_b91_ok C0 x1 x3 0 (M2.1 208 27) M2)
  · refine V_iconst C0 dX7_does_86 ic_1 ?_
    refine V_goto C0 91 dX7_does_87 (by decide) ?_
    exact V_sub [0, 1, 2] rfl (f_Md_does_b91_ok C0 x1 x3 1 (M2.1 208 27) M2)
set_option maxRecDepth 100000 in
set_option maxHeartbeats 4000000 in
theorem mc_f_Md_does {G : GT} (l : Launch) (x1 : Int32) (x2 : Int32) (x3 : Int32) (x4 : Int32) (M : Mem) (r : Unit) (M1 : Mem) (ho : f_Md_does x1 x2 x3 x4 M = some (r, M1)) : MC l G yX7_does cX7_does 5 none 0 [.ref (G.2 + 208), .int x1, .int x2, .int x3, .int x4] M (vU r) M1 :=
  MC.ofV (own := RX7) (lv := [(0, .ref (G.2 + 208)), (1, .int x1), (2, .int x2), (3, .int x3), (4, .int x4)]) (by decide +kernel) rfl rfl (Nat.le_of_ble_eq_true rfl) ho (fun X hX C0 => by
    unfold f_Md_does
    refine V_aload_n C0 0 rfl 0 rfl dX7_does_0 ?_
    refine V_dup C0 rfl dX7_does_1 ?_
    refine g7_200 C0 dX7_does_2 ?_
    refine V_iload C0 4 4 rfl dX7_does_5 ?_
    refine V_iadd C0 dX7_does_7 ?_
    refine p7_200 C0 dX7_does_8 (fun M1 => ?_)
    refine V_aload_n C0 0 rfl 0 rfl dX7_does_11 ?_
    refine g7_203 C0 dX7_does_12 ?_
    refine V_aload_n C0 0 rfl 0 rfl dX7_does_15 ?_
    refine g7_206 C0 dX7_does_16 ?_
    refine V_icmpne C0 56 dX7_does_19 (by decide) (fun _ => ?_) (fun _ => ?_)
    · exact V_sub [0, 1, 3] rfl (f_Md_does_b56_ok C0 x1 x3 M1)
    · refine V_aload_n C0 0 rfl 0 rfl dX7_does_22 ?_
      refine g7_56 C0 dX7_does_23 ?_
      refine V_iconst C0 dX7_does_26 ic_0 ?_
      refine V_iload_n C0 1 rfl 1 rfl dX7_does_27 ?_
      refine V_iast C0 4 s224 n224 dX7_does_28 (fun M2 => ?_)
      refine V_aload_n C0 0 rfl 0 rfl dX7_does_29 ?_
      refine g7_56 C0 dX7_does_30 ?_
      refine V_iconst C0 dX7_does_33 ic_1 ?_
      refine V_aload_n C0 0 rfl 0 rfl dX7_does_34 ?_
      refine g7_209 C0 dX7_does_35 ?_
      refine V_iast C0 4 s224 n224 dX7_does_38 (fun M3 => ?_)
      refine V_aload_n C0 0 rfl 0 rfl dX7_does_39 ?_
      refine g7_56 C0 dX7_does_40 ?_
      refine V_iconst C0 dX7_does_43 ic_2 ?_
      refine V_iload_n C0 2 rfl 2 rfl dX7_does_44 ?_
      refine V_iast C0 4 s224 n224 dX7_does_45 (fun M4 => ?_)
      refine V_aload_n C0 0 rfl 0 rfl dX7_does_46 ?_
      refine g7_56 C0 dX7_does_47 ?_
      refine V_iconst C0 dX7_does_50 ic_3 ?_
      refine V_aload_n C0 0 rfl 0 rfl dX7_does_51 ?_
      refine g7_200 C0 dX7_does_52 ?_
      refine V_iast C0 4 s224 n224 dX7_does_55 (fun M5 => ?_)
      exact V_sub [0, 1, 3] rfl (f_Md_does_b56_ok C0 x1 x3 M5))
set_option maxRecDepth 100000 in
set_option maxHeartbeats 4000000 in
theorem f_Md_goesOn_b358_ok {X : XT} {G : GT} (C0 : Cx X G cX7_goesOn 12 RX7 none) (t0 : Int32) (t1 : Int32) (t2 : Int32) (M : Mem) : V X G 1 vU 12 358 [(0, .ref (G.2 + 208))] [.int t0, .int t1, .int t2, .ref (G.2 + 208)] M (f_Md_goesOn_b358 t0 t1 t2 M) := by
  unfold f_Md_goesOn_b358
  refine V_iconst C0 dX7_goesOn_358 ic_m1 ?_
  refine k7_227 C0 (by decide) (fun lq rq Mq hh => mc_f_Md_does lq t2 t1 t0 (-1) M rq Mq  hh) (Nat.le_of_ble_eq_true rfl) dX7_goesOn_359 (fun _ M1 => ?_)
  refine V_aload_n C0 0 rfl 0 rfl dX7_goesOn_362 ?_
  refine V_dup C0 rfl dX7_goesOn_363 ?_
  refine g7_224 C0 dX7_goesOn_364 ?_
  refine V_iconst C0 dX7_goesOn_367 ic_1 ?_
  refine V_isub C0 dX7_goesOn_368 ?_
  refine p7_224 C0 dX7_goesOn_369 (fun M2 => ?_)
  exact V_vret C0 dX7_goesOn_372
set_option maxRecDepth 100000 in
set_option maxHeartbeats 4000000 in
theorem f_Md_goesOn_b343_ok {X : XT} {G : GT} (C0 : Cx X G cX7_goesOn 12 RX7 none) (x2 : Int32) (x5 : Int32) (M : Mem) : V X G 1 vU 12 343 [(0, .ref (G.2 + 208)), (2, .int x2), (5, .int x5)] [] M (f_Md_goesOn_b343 x2 x5 M) := by
  unfold f_Md_goesOn_b343
  refine V_aload_n C0 0 rfl 0 rfl dX7_goesOn_343 ?_
  refine V_iconst C0 dX7_goesOn_344 ic_1 ?_
  refine V_iload_n C0 2 rfl 1 rfl dX7_goesOn_345 ?_
  refine V_iload C0 5 2 rfl dX7_goesOn_346 ?_
  refine V_bipush C0 dX7_goesOn_348 bp_6 ?_
  refine V_icmpne C0 357 dX7_goesOn_350 (by decide) (fun _ => ?_) (fun _ => ?_)
  · refine V_iconst C0 dX7_goesOn_357 ic_1 ?_
    exact V_sub [0] rfl (f_Md_goesOn_b358_ok C0 1 x2 1 M)
  · refine V_iconst C0 dX7_goesOn_353 ic_3 ?_
    refine V_goto C0 358 dX7_goesOn_354 (by decide) ?_
    exact V_sub [0] rfl (f_Md_goesOn_b358_ok C0 3 x2 1 M)
set_option maxRecDepth 100000 in
set_option maxHeartbeats 4000000 in
theorem f_Md_goesOn_b323_ok {X : XT} {G : GT} (C0 : Cx X G cX7_goesOn 12 RX7 none) (t0 : Int32) (t1 : Int32) (M : Mem) : V X G 1 vU 12 323 [] [.int t0, .int t1, .ref (G.2 + 208)] M (f_Md_goesOn_b323 t0 t1 M) := by
  unfold f_Md_goesOn_b323
  refine k7_231 C0 (by decide) (fun lq rq Mq hh => mc_f_Md_pushes lq t1 t0 M rq Mq  hh) (Nat.le_of_ble_eq_true rfl) dX7_goesOn_323 (fun _ M1 => ?_)
  refine V_goto C0 372 dX7_goesOn_326 (by decide) ?_
  exact V_vret C0 dX7_goesOn_372
set_option maxRecDepth 100000 in
set_option maxHeartbeats 4000000 in
theorem f_Md_goesOn_b306_ok {X : XT} {G : GT} (C0 : Cx X G cX7_goesOn 12 RX7 none) (x4 : Int32) (x10 : Int32) (x11 : Int32) (M : Mem) : V X G 1 vU 12 306 [(0, .ref (G.2 + 208)), (4, .int x4), (10, .int x10), (11, .int x11)] [] M (f_Md_goesOn_b306 x4 x10 x11 M) := by
  unfold f_Md_goesOn_b306
  refine V_aload_n C0 0 rfl 0 rfl dX7_goesOn_306 ?_
  refine V_iload C0 10 2 rfl dX7_goesOn_307 ?_
  refine V_iload C0 11 3 rfl dX7_goesOn_309 ?_
  refine V_ifeq C0 321 dX7_goesOn_311 (by decide) (fun _ => ?_) (fun _ => ?_)
  · refine V_iload C0 4 1 rfl dX7_goesOn_321 ?_
    exact V_sub [] rfl (f_Md_goesOn_b323_ok C0 x4 x10 M)
  · refine V_iload C0 4 1 rfl dX7_goesOn_314 ?_
    refine V_iconst C0 dX7_goesOn_316 ic_1 ?_
    refine V_isub C0 dX7_goesOn_317 ?_
    refine V_goto C0 323 dX7_goesOn_318 (by decide) ?_
    exact V_sub [] rfl (f_Md_goesOn_b323_ok C0 (x4 - 1) x10 M)
set_option maxRecDepth 100000 in
set_option maxHeartbeats 4000000 in
theorem f_Md_goesOn_b249_ok {X : XT} {G : GT} (C0 : Cx X G cX7_goesOn 12 RX7 none) (x1 : Int32) (x2 : Int32) (x4 : Int32) (x5 : Int32) (x9 : Int32) (x10 : Int32) (t0 : Int32) (M : Mem) : V X G 1 vU 12 249 [(0, .ref (G.2 + 208)), (1, .int x1), (2, .int x2), (4, .int x4), (5, .int x5), (9, .int x9), (10, .int x10)] [.int t0] M (f_Md_goesOn_b249 x1 x2 x4 x5 x9 x10 t0 M) := by
  unfold f_Md_goesOn_b249
  refine V_istore C0 11 [(11, .int t0), (0, .ref (G.2 + 208)), (1, .int x1), (2, .int x2), (4, .int x4), (5, .int x5), (9, .int x9), (10, .int x10)] (by decide) rfl dX7_goesOn_249 ?_
  refine V_aload_n C0 0 rfl 1 rfl dX7_goesOn_251 ?_
  refine g7_65 C0 dX7_goesOn_252 ?_
  refine V_iload_n C0 1 rfl 2 rfl dX7_goesOn_255 ?_
  refine V_dup2 C0 rfl rfl dX7_goesOn_256 ?_
  refine V_iald C0 100 s227 n227 dX7_goesOn_257 ?_
  refine V_iconst C0 dX7_goesOn_258 ic_1 ?_
  refine V_iadd C0 dX7_goesOn_259 ?_
  refine V_iast C0 100 s227 n227 dX7_goesOn_260 (fun M1 => ?_)
  refine V_aload_n C0 0 rfl 1 rfl dX7_goesOn_261 ?_
  refine g7_65 C0 dX7_goesOn_262 ?_
  refine V_iload_n C0 1 rfl 2 rfl dX7_goesOn_265 ?_
  refine V_iald C0 100 s227 n227 dX7_goesOn_266 ?_
  refine V_iconst C0 dX7_goesOn_267 ic_1 ?_
  refine V_icmpne C0 282 dX7_goesOn_268 (by decide) (fun _ => ?_) (fun _ => ?_)
  · refine V_aload_n C0 0 rfl 1 rfl dX7_goesOn_282 ?_
    refine g7_65 C0 dX7_goesOn_283 ?_
    refine V_iload_n C0 1 rfl 2 rfl dX7_goesOn_286 ?_
    refine V_iald C0 100 s227 n227 dX7_goesOn_287 ?_
    refine V_iconst C0 dX7_goesOn_288 ic_2 ?_
    refine V_icmpne C0 329 dX7_goesOn_289 (by decide) (fun _ => ?_) (fun _ => ?_)
    · refine V_iload C0 11 0 rfl dX7_goesOn_329 ?_
      refine V_ifne C0 343 dX7_goesOn_331 (by decide) (fun _ => ?_) (fun _ => ?_)
      · exact V_sub [1, 3, 5] rfl (f_Md_goesOn_b343_ok C0 x2 x5 M1)
      · refine V_aload_n C0 0 rfl 1 rfl dX7_goesOn_334 ?_
        refine V_iconst C0 dX7_goesOn_335 ic_3 ?_
        refine V_iload C0 9 6 rfl dX7_goesOn_336 ?_
        refine V_iconst C0 dX7_goesOn_338 ic_4 ?_
        refine V_iconst C0 dX7_goesOn_339 ic_1 ?_
        refine k7_227 C0 (by decide) (fun lq rq Mq hh => mc_f_Md_does lq 3 x9 4 1 M1 rq Mq  hh) (Nat.le_of_ble_eq_true rfl) dX7_goesOn_340 (fun _ M2 => ?_)
        exact V_sub [1, 3, 5] rfl (f_Md_goesOn_b343_ok C0 x2 x5 M2)
    · refine V_iload C0 11 0 rfl dX7_goesOn_292 ?_
      refine V_ifne C0 306 dX7_goesOn_294 (by decide) (fun _ => ?_) (fun _ => ?_)
      · exact V_sub [1, 4, 7, 0] rfl (f_Md_goesOn_b306_ok C0 x4 x10 t0 M1)
      · refine V_aload_n C0 0 rfl 1 rfl dX7_goesOn_297 ?_
        refine V_iconst C0 dX7_goesOn_298 ic_2 ?_
        refine V_iload C0 9 6 rfl dX7_goesOn_299 ?_
        refine V_iconst C0 dX7_goesOn_301 ic_4 ?_
        refine V_iconst C0 dX7_goesOn_302 ic_m1 ?_
        refine k7_227 C0 (by decide) (fun lq rq Mq hh => mc_f_Md_does lq 2 x9 4 (-1) M1 rq Mq  hh) (Nat.le_of_ble_eq_true rfl) dX7_goesOn_303 (fun _ M3 => ?_)
        exact V_sub [1, 4, 7, 0] rfl (f_Md_goesOn_b306_ok C0 x4 x10 t0 M3)
  · refine V_aload_n C0 0 rfl 1 rfl dX7_goesOn_271 ?_
    refine V_iload C0 9 6 rfl dX7_goesOn_272 ?_
    refine V_iload C0 4 4 rfl dX7_goesOn_274 ?_
    refine k7_231 C0 (by decide) (fun lq rq Mq hh => mc_f_Md_pushes lq x9 x4 M1 rq Mq  hh) (Nat.le_of_ble_eq_true rfl) dX7_goesOn_276 (fun _ M4 => ?_)
    refine V_goto C0 372 dX7_goesOn_279 (by decide) ?_
    exact V_vret C0 dX7_goesOn_372
set_option maxRecDepth 100000 in
set_option maxHeartbeats 4000000 in
theorem f_Md_goesOn_b222_ok {X : XT} {G : GT} (C0 : Cx X G cX7_goesOn 12 RX7 none) (x1 : Int32) (x2 : Int32) (x4 : Int32) (x5 : Int32) (x9 : Int32) (t0 : Int32) (M : Mem) : V X G 1 vU 12 222 [(0, .ref (G.2 + 208)), (1, .int x1), (2, .int x2), (4, .int x4), (5, .int x5), (9, .int x9)] [.int t0] M (f_Md_goesOn_b222 x1 x2 x4 x5 x9 t0 M) := by
  unfold f_Md_goesOn_b222
  refine V_istore C0 10 [(10, .int t0), (0, .ref (G.2 + 208)), (1, .int x1), (2, .int x2), (4, .int x4), (5, .int x5), (9, .int x9)] (by decide) rfl dX7_goesOn_222 ?_
  refine V_aload_n C0 0 rfl 1 rfl dX7_goesOn_224 ?_
  refine g7_40 C0 dX7_goesOn_225 ?_
  refine V_bipush C0 dX7_goesOn_228 bp_90 ?_
  refine V_aload_n C0 0 rfl 1 rfl dX7_goesOn_230 ?_
  refine g7_209 C0 dX7_goesOn_231 ?_
  refine V_imul C0 dX7_goesOn_234 ?_
  refine V_iload C0 10 0 rfl dX7_goesOn_235 ?_
  refine V_iadd C0 dX7_goesOn_237 ?_
  refine V_iald C0 540 s219 n219 dX7_goesOn_238 ?_
  refine V_iload C0 4 4 rfl dX7_goesOn_239 ?_
  refine V_icmpge C0 248 dX7_goesOn_241 (by decide) (fun _ => ?_) (fun _ => ?_)
  · refine V_iconst C0 dX7_goesOn_248 ic_0 ?_
    exact V_sub [1, 2, 3, 4, 5, 6, 0] rfl (f_Md_goesOn_b249_ok C0 x1 x2 x4 x5 x9 t0 0 M)
  · refine V_iconst C0 dX7_goesOn_244 ic_1 ?_
    refine V_goto C0 249 dX7_goesOn_245 (by decide) ?_
    exact V_sub [1, 2, 3, 4, 5, 6, 0] rfl (f_Md_goesOn_b249_ok C0 x1 x2 x4 x5 x9 t0 1 M)
set_option maxRecDepth 100000 in
set_option maxHeartbeats 4000000 in
theorem f_Md_goesOn_b208_ok {X : XT} {G : GT} (C0 : Cx X G cX7_goesOn 12 RX7 none) (x1 : Int32) (x2 : Int32) (x4 : Int32) (x5 : Int32) (x6 : Int32) (x7 : Int32) (x8 : Int32) (t0 : Int32) (M : Mem) : V X G 1 vU 12 208 [(0, .ref (G.2 + 208)), (1, .int x1), (2, .int x2), (4, .int x4), (5, .int x5), (6, .int x6), (7, .int x7), (8, .int x8)] [.int t0] M (f_Md_goesOn_b208 x1 x2 x4 x5 x6 x7 x8 t0 M) := by
  unfold f_Md_goesOn_b208
  refine V_istore C0 9 [(9, .int t0), (0, .ref (G.2 + 208)), (1, .int x1), (2, .int x2), (4, .int x4), (5, .int x5), (6, .int x6), (7, .int x7), (8, .int x8)] (by decide) rfl dX7_goesOn_208 ?_
  refine V_iload C0 8 8 rfl dX7_goesOn_210 ?_
  refine V_ifeq C0 220 dX7_goesOn_212 (by decide) (fun _ => ?_) (fun _ => ?_)
  · refine V_iload C0 7 7 rfl dX7_goesOn_220 ?_
    exact V_sub [1, 2, 3, 4, 5, 0] rfl (f_Md_goesOn_b222_ok C0 x1 x2 x4 x5 t0 x7 M)
  · refine V_iload C0 6 6 rfl dX7_goesOn_215 ?_
    refine V_goto C0 222 dX7_goesOn_217 (by decide) ?_
    exact V_sub [1, 2, 3, 4, 5, 0] rfl (f_Md_goesOn_b222_ok C0 x1 x2 x4 x5 t0 x6 M)
set_option maxRecDepth 100000 in
set_option maxHeartbeats 4000000 in
theorem f_Md_goesOn_b194_ok {X : XT} {G : GT} (C0 : Cx X G cX7_goesOn 12 RX7 none) (x1 : Int32) (x2 : Int32) (x4 : Int32) (x5 : Int32) (x6 : Int32) (x7 : Int32) (t0 : Int32) (M : Mem) : V X G 1 vU 12 194 [(0, .ref (G.2 + 208)), (1, .int x1), (2, .int x2), (4, .int x4), (5, .int x5), (6, .int x6), (7, .int x7)] [.int t0] M (f_Md_goesOn_b194 x1 x2 x4 x5 x6 x7 t0 M) := by
  unfold f_Md_goesOn_b194
  refine V_istore C0 8 [(8, .int t0), (0, .ref (G.2 + 208)), (1, .int x1), (2, .int x2), (4, .int x4), (5, .int x5), (6, .int x6), (7, .int x7)] (by decide) rfl dX7_goesOn_194 ?_
  refine V_iload C0 8 0 rfl dX7_goesOn_196 ?_
  refine V_ifeq C0 206 dX7_goesOn_198 (by decide) (fun _ => ?_) (fun _ => ?_)
  · refine V_iload C0 6 6 rfl dX7_goesOn_206 ?_
    exact V_sub [1, 2, 3, 4, 5, 6, 7, 0] rfl (f_Md_goesOn_b208_ok C0 x1 x2 x4 x5 x6 x7 t0 x6 M)
  · refine V_iload C0 7 7 rfl dX7_goesOn_201 ?_
    refine V_goto C0 208 dX7_goesOn_203 (by decide) ?_
    exact V_sub [1, 2, 3, 4, 5, 6, 7, 0] rfl (f_Md_goesOn_b208_ok C0 x1 x2 x4 x5 x6 x7 t0 x7 M)
set_option maxRecDepth 100000 in
set_option maxHeartbeats 4000000 in
theorem f_Md_goesOn_b70_ok {X : XT} {G : GT} (C0 : Cx X G cX7_goesOn 12 RX7 none) (t0 : Int32) (t1 : Int32) (t2 : Int32) (M : Mem) : V X G 1 vU 12 70 [(0, .ref (G.2 + 208))] [.int t0, .int t1, .int t2, .ref (G.2 + 208)] M (f_Md_goesOn_b70 t0 t1 t2 M) := by
  unfold f_Md_goesOn_b70
  refine V_iconst C0 dX7_goesOn_70 ic_1 ?_
  refine k7_227 C0 (by decide) (fun lq rq Mq hh => mc_f_Md_does lq t2 t1 t0 1 M rq Mq  hh) (Nat.le_of_ble_eq_true rfl) dX7_goesOn_71 (fun _ M1 => ?_)
  refine V_aload_n C0 0 rfl 0 rfl dX7_goesOn_74 ?_
  refine V_dup C0 rfl dX7_goesOn_75 ?_
  refine g7_224 C0 dX7_goesOn_76 ?_
  refine V_iconst C0 dX7_goesOn_79 ic_1 ?_
  refine V_isub C0 dX7_goesOn_80 ?_
  refine p7_224 C0 dX7_goesOn_81 (fun M2 => ?_)
  exact V_vret C0 dX7_goesOn_84
set_option maxRecDepth 100000 in
set_option maxHeartbeats 4000000 in
theorem f_Md_goesOn_b58_ok {X : XT} {G : GT} (C0 : Cx X G cX7_goesOn 12 RX7 none) (x2 : Int32) (x5 : Int32) (t0 : Int32) (M : Mem) : V X G 1 vU 12 58 [(0, .ref (G.2 + 208)), (2, .int x2), (5, .int x5)] [.int t0, .ref (G.2 + 208)] M (f_Md_goesOn_b58 x2 x5 t0 M) := by
  unfold f_Md_goesOn_b58
  refine V_iload_n C0 2 rfl 1 rfl dX7_goesOn_58 ?_
  refine V_iload C0 5 2 rfl dX7_goesOn_59 ?_
  refine V_iconst C0 dX7_goesOn_61 ic_2 ?_
  refine V_icmpne C0 69 dX7_goesOn_62 (by decide) (fun _ => ?_) (fun _ => ?_)
  · refine V_iconst C0 dX7_goesOn_69 ic_1 ?_
    exact V_sub [0] rfl (f_Md_goesOn_b70_ok C0 1 x2 t0 M)
  · refine V_iconst C0 dX7_goesOn_65 ic_4 ?_
    refine V_goto C0 70 dX7_goesOn_66 (by decide) ?_
    exact V_sub [0] rfl (f_Md_goesOn_b70_ok C0 4 x2 t0 M)
set_option maxRecDepth 100000 in
set_option maxHeartbeats 4000000 in
theorem mc_f_Md_goesOn {G : GT} (l : Launch) (M : Mem) (r : Unit) (M1 : Mem) (ho : f_Md_goesOn  M = some (r, M1)) : MC l G yX7_goesOn cX7_goesOn 12 none 1 [.ref (G.2 + 208)] M (vU r) M1 :=
  MC.ofV (own := RX7) (lv := [(0, .ref (G.2 + 208))]) (by decide +kernel) rfl rfl (Nat.le_of_ble_eq_true rfl) ho (fun X hX C0 => by
    unfold f_Md_goesOn
    refine V_aload_n C0 0 rfl 0 rfl dX7_goesOn_0 ?_
    refine g7_224 C0 dX7_goesOn_1 ?_
    refine V_iconst C0 dX7_goesOn_4 ic_1 ?_
    refine V_isub C0 dX7_goesOn_5 ?_
    refine V_bi (fun y1 => ?_)
    refine V_istore_n C0 1 [(1, .int y1), (0, .ref (G.2 + 208))] rfl (by decide) rfl dX7_goesOn_6 ?_
    refine V_aload_n C0 0 rfl 1 rfl dX7_goesOn_7 ?_
    refine g7_59 C0 dX7_goesOn_8 ?_
    refine V_iload_n C0 1 rfl 0 rfl dX7_goesOn_11 ?_
    refine V_iald C0 100 s225 n225 dX7_goesOn_12 ?_
    refine V_bi (fun y2 => ?_)
    refine V_istore_n C0 2 [(2, .int y2), (1, .int y1), (0, .ref (G.2 + 208))] rfl (by decide) rfl dX7_goesOn_13 ?_
    refine V_bipush C0 dX7_goesOn_14 bp_90 ?_
    refine V_aload_n C0 0 rfl 2 rfl dX7_goesOn_16 ?_
    refine g7_209 C0 dX7_goesOn_17 ?_
    refine V_imul C0 dX7_goesOn_20 ?_
    refine V_iload_n C0 2 rfl 0 rfl dX7_goesOn_21 ?_
    refine V_iadd C0 dX7_goesOn_22 ?_
    refine V_bi (fun y3 => ?_)
    refine V_istore_n C0 3 [(3, .int y3), (2, .int y2), (1, .int y1), (0, .ref (G.2 + 208))] rfl (by decide) rfl dX7_goesOn_23 ?_
    refine V_aload_n C0 0 rfl 3 rfl dX7_goesOn_24 ?_
    refine g7_62 C0 dX7_goesOn_25 ?_
    refine V_iload_n C0 1 rfl 2 rfl dX7_goesOn_28 ?_
    refine V_iald C0 100 s226 n226 dX7_goesOn_29 ?_
    refine V_bi (fun y4 => ?_)
    refine V_istore C0 4 [(4, .int y4), (3, .int y3), (2, .int y2), (1, .int y1), (0, .ref (G.2 + 208))] (by decide) rfl dX7_goesOn_30 ?_
    refine V_aload_n C0 0 rfl 4 rfl dX7_goesOn_32 ?_
    refine g7_31 C0 dX7_goesOn_33 ?_
    refine V_iload_n C0 3 rfl 1 rfl dX7_goesOn_36 ?_
    refine V_iald C0 540 s216 n216 dX7_goesOn_37 ?_
    refine V_bi (fun y5 => ?_)
    refine V_istore C0 5 [(5, .int y5), (4, .int y4), (3, .int y3), (2, .int y2), (1, .int y1), (0, .ref (G.2 + 208))] (by decide) rfl dX7_goesOn_38 ?_
    refine V_iload C0 5 0 rfl dX7_goesOn_40 ?_
    refine V_iconst C0 dX7_goesOn_42 ic_3 ?_
    refine V_icmpge C0 85 dX7_goesOn_43 (by decide) (fun _ => ?_) (fun _ => ?_)
    · refine V_iload C0 5 0 rfl dX7_goesOn_85 ?_
      refine V_iconst C0 dX7_goesOn_87 ic_3 ?_
      refine V_icmpne C0 138 dX7_goesOn_88 (by decide) (fun _ => ?_) (fun _ => ?_)
      · refine V_iload_n C0 2 rfl 3 rfl dX7_goesOn_138 ?_
        refine V_iconst C0 dX7_goesOn_139 ic_1 ?_
        refine V_iadd C0 dX7_goesOn_140 ?_
        refine V_bi (fun y6 => ?_)
        refine V_istore C0 6 [(6, .int y6), (5, .int y5), (4, .int y4), (3, .int y3), (2, .int y2), (1, .int y1), (0, .ref (G.2 + 208))] (by decide) rfl dX7_goesOn_141 ?_
        refine V_iload C0 6 0 rfl dX7_goesOn_143 ?_
        refine V_aload_n C0 0 rfl 6 rfl dX7_goesOn_145 ?_
        refine g7_37 C0 dX7_goesOn_146 ?_
        refine V_iload_n C0 3 rfl 3 rfl dX7_goesOn_149 ?_
        refine V_iconst C0 dX7_goesOn_150 ic_1 ?_
        refine V_iadd C0 dX7_goesOn_151 ?_
        refine V_iald C0 540 s218 n218 dX7_goesOn_152 ?_
        refine V_iadd C0 dX7_goesOn_153 ?_
        refine V_bi (fun y7 => ?_)
        refine V_istore C0 7 [(7, .int y7), (6, .int y6), (5, .int y5), (4, .int y4), (3, .int y3), (2, .int y2), (1, .int y1), (0, .ref (G.2 + 208))] (by decide) rfl dX7_goesOn_154 ?_
        refine V_aload_n C0 0 rfl 7 rfl dX7_goesOn_156 ?_
        refine g7_40 C0 dX7_goesOn_157 ?_
        refine V_bipush C0 dX7_goesOn_160 bp_90 ?_
        refine V_aload_n C0 0 rfl 7 rfl dX7_goesOn_162 ?_
        refine g7_209 C0 dX7_goesOn_163 ?_
        refine V_imul C0 dX7_goesOn_166 ?_
        refine V_iload C0 7 0 rfl dX7_goesOn_167 ?_
        refine V_iadd C0 dX7_goesOn_169 ?_
        refine V_iald C0 540 s219 n219 dX7_goesOn_170 ?_
        refine V_aload_n C0 0 rfl 7 rfl dX7_goesOn_171 ?_
        refine g7_40 C0 dX7_goesOn_172 ?_
        refine V_bipush C0 dX7_goesOn_175 bp_90 ?_
        refine V_aload_n C0 0 rfl 7 rfl dX7_goesOn_177 ?_
        refine g7_209 C0 dX7_goesOn_178 ?_
        refine V_imul C0 dX7_goesOn_181 ?_
        refine V_iload C0 6 1 rfl dX7_goesOn_182 ?_
        refine V_iadd C0 dX7_goesOn_184 ?_
        refine V_iald C0 540 s219 n219 dX7_goesOn_185 ?_
        refine V_icmple C0 193 dX7_goesOn_186 (by decide) (fun _ => ?_) (fun _ => ?_)
        · refine V_iconst C0 dX7_goesOn_193 ic_0 ?_
          exact V_sub [7, 6, 5, 3, 2, 1, 0] rfl (f_Md_goesOn_b194_ok C0 y1 y2 y4 y5 y6 y7 0 M)
        · refine V_iconst C0 dX7_goesOn_189 ic_1 ?_
          refine V_goto C0 194 dX7_goesOn_190 (by decide) ?_
          exact V_sub [7, 6, 5, 3, 2, 1, 0] rfl (f_Md_goesOn_b194_ok C0 y1 y2 y4 y5 y6 y7 1 M)
      · refine V_aload_n C0 0 rfl 5 rfl dX7_goesOn_91 ?_
        refine g7_65 C0 dX7_goesOn_92 ?_
        refine V_iload_n C0 1 rfl 4 rfl dX7_goesOn_95 ?_
        refine V_iald C0 100 s227 n227 dX7_goesOn_96 ?_
        refine V_ifne C0 119 dX7_goesOn_97 (by decide) (fun _ => ?_) (fun _ => ?_)
        · refine V_aload_n C0 0 rfl 5 rfl dX7_goesOn_119 ?_
          refine V_iconst C0 dX7_goesOn_120 ic_1 ?_
          refine V_iload_n C0 2 rfl 3 rfl dX7_goesOn_121 ?_
          refine V_iconst C0 dX7_goesOn_122 ic_1 ?_
          refine V_iconst C0 dX7_goesOn_123 ic_0 ?_
          refine k7_227 C0 (by decide) (fun lq rq Mq hh => mc_f_Md_does lq 1 y2 1 0 M rq Mq  hh) (Nat.le_of_ble_eq_true rfl) dX7_goesOn_124 (fun _ M8 => ?_)
          refine V_aload_n C0 0 rfl 5 rfl dX7_goesOn_127 ?_
          refine V_dup C0 rfl dX7_goesOn_128 ?_
          refine g7_224 C0 dX7_goesOn_129 ?_
          refine V_iconst C0 dX7_goesOn_132 ic_1 ?_
          refine V_isub C0 dX7_goesOn_133 ?_
          refine p7_224 C0 dX7_goesOn_134 (fun M9 => ?_)
          exact V_vret C0 dX7_goesOn_137
        · refine V_aload_n C0 0 rfl 5 rfl dX7_goesOn_100 ?_
          refine g7_65 C0 dX7_goesOn_101 ?_
          refine V_iload_n C0 1 rfl 4 rfl dX7_goesOn_104 ?_
          refine V_iconst C0 dX7_goesOn_105 ic_1 ?_
          refine V_iast C0 100 s227 n227 dX7_goesOn_106 (fun M10 => ?_)
          refine V_aload_n C0 0 rfl 5 rfl dX7_goesOn_107 ?_
          refine V_iload_n C0 2 rfl 3 rfl dX7_goesOn_108 ?_
          refine V_iconst C0 dX7_goesOn_109 ic_1 ?_
          refine V_iadd C0 dX7_goesOn_110 ?_
          refine V_iload C0 4 1 rfl dX7_goesOn_111 ?_
          refine k7_231 C0 (by decide) (fun lq rq Mq hh => mc_f_Md_pushes lq (y2 + 1) y4 M10 rq Mq  hh) (Nat.le_of_ble_eq_true rfl) dX7_goesOn_113 (fun _ M11 => ?_)
          refine V_goto C0 137 dX7_goesOn_116 (by decide) ?_
          exact V_vret C0 dX7_goesOn_137
    · refine V_aload_n C0 0 rfl 5 rfl dX7_goesOn_46 ?_
      refine V_iload C0 5 0 rfl dX7_goesOn_47 ?_
      refine V_iconst C0 dX7_goesOn_49 ic_2 ?_
      refine V_icmpne C0 57 dX7_goesOn_50 (by decide) (fun _ => ?_) (fun _ => ?_)
      · refine V_iconst C0 dX7_goesOn_57 ic_0 ?_
        exact V_sub [5, 3, 0] rfl (f_Md_goesOn_b58_ok C0 y2 y5 0 M)
      · refine V_iconst C0 dX7_goesOn_53 ic_5 ?_
        refine V_goto C0 58 dX7_goesOn_54 (by decide) ?_
        exact V_sub [5, 3, 0] rfl (f_Md_goesOn_b58_ok C0 y2 y5 5 M))
set_option maxRecDepth 100000 in
set_option maxHeartbeats 4000000 in
theorem f_Md_plans_b76_ok {X : XT} {G : GT} (C0 : Cx X G cX7_plans 4 RX7 none) (k41 : Int32 → Int32 → Mem → Option (Unit × Mem)) (hk41 : ∀ (x1 : Int32) (x3 : Int32) (M : Mem), V X G 4 vU 4 41 [(0, .ref (G.2 + 208)), (1, .int x1), (3, .int x3)] [] M (k41 x1 x3 M)) : ∀ (n : Nat) (x1 : Int32) (x3 : Int32) (M : Mem), V X G 4 vU 4 76 [(0, .ref (G.2 + 208)), (1, .int x1), (3, .int x3)] [] M (f_Md_plans_b76 k41 n x1 x3 M) := by
  intro n
  induction n with
  | zero =>
    intros
    exact V_none
  | succ n ih =>
    intro x1 x3 M
    rw [f_Md_plans_b76]
    refine V_aload_n C0 0 rfl 0 rfl dX7_plans_76 ?_
    refine g7_224 C0 dX7_plans_77 ?_
    refine V_ifle C0 90 dX7_plans_80 (by decide) (fun _ => ?_) (fun _ => ?_)
    · refine V_aload_n C0 0 rfl 0 rfl dX7_plans_90 ?_
      refine g7_52 C0 dX7_plans_91 ?_
      refine V_iload_n C0 3 rfl 2 rfl dX7_plans_94 ?_
      refine V_zald C0 6 s223 n223 dX7_plans_95 ?_
      refine V_ifne C0 119 dX7_plans_96 (by decide) (fun _ => ?_) (fun _ => ?_)
      · refine V_iincB C0 3 2 (fun y1 => [(3, .int y1), (0, .ref (G.2 + 208)), (1, .int x1)]) rfl ic_1 (by decide) (fun _ => rfl) dX7_plans_119 (fun y1 => ?_)
        refine V_goto C0 41 dX7_plans_122 (by decide) ?_
        exact V_sub [1, 2, 0] rfl (hk41 x1 y1 M)
      · refine V_iload_n C0 3 rfl 2 rfl dX7_plans_99 ?_
        refine V_aload_n C0 0 rfl 0 rfl dX7_plans_100 ?_
        refine g7_7 C0 dX7_plans_101 ?_
        refine V_iconst C0 dX7_plans_104 ic_0 ?_
        refine V_iald C0 376 s209 n209 dX7_plans_105 ?_
        refine V_iconst C0 dX7_plans_106 ic_1 ?_
        refine V_isub C0 dX7_plans_107 ?_
        refine V_icmpge C0 119 dX7_plans_108 (by decide) (fun _ => ?_) (fun _ => ?_)
        · refine V_iincB C0 3 2 (fun y2 => [(3, .int y2), (0, .ref (G.2 + 208)), (1, .int x1)]) rfl ic_1 (by decide) (fun _ => rfl) dX7_plans_119 (fun y2 => ?_)
          refine V_goto C0 41 dX7_plans_122 (by decide) ?_
          exact V_sub [1, 2, 0] rfl (hk41 x1 y2 M)
        · refine V_aload_n C0 0 rfl 0 rfl dX7_plans_111 ?_
          refine V_iconst C0 dX7_plans_112 ic_4 ?_
          refine V_iconst C0 dX7_plans_113 ic_0 ?_
          refine V_iconst C0 dX7_plans_114 ic_4 ?_
          refine V_iconst C0 dX7_plans_115 ic_m1 ?_
          refine k7_227 C0 (by decide) (fun lq rq Mq hh => mc_f_Md_does lq 4 0 4 (-1) M rq Mq  hh) (Nat.le_of_ble_eq_true rfl) dX7_plans_116 (fun _ M3 => ?_)
          refine V_iincB C0 3 2 (fun y4 => [(3, .int y4), (0, .ref (G.2 + 208)), (1, .int x1)]) rfl ic_1 (by decide) (fun _ => rfl) dX7_plans_119 (fun y4 => ?_)
          refine V_goto C0 41 dX7_plans_122 (by decide) ?_
          exact V_sub [1, 2, 0] rfl (hk41 x1 y4 M3)
    · refine V_aload_n C0 0 rfl 0 rfl dX7_plans_83 ?_
      refine k7_234 C0 (by decide) (fun lq rq Mq hh => mc_f_Md_goesOn lq  M rq Mq  hh) (Nat.le_of_ble_eq_true rfl) dX7_plans_84 (fun _ M5 => ?_)
      refine V_goto C0 76 dX7_plans_87 (by decide) ?_
      exact V_sub [0, 1, 2] rfl (ih x1 x3 M5)
set_option maxRecDepth 100000 in
set_option maxHeartbeats 4000000 in
theorem f_Md_plans_b41_ok {X : XT} {G : GT} (C0 : Cx X G cX7_plans 4 RX7 none) : ∀ (n : Nat) (x1 : Int32) (x3 : Int32) (M : Mem), V X G 4 vU 4 41 [(0, .ref (G.2 + 208)), (1, .int x1), (3, .int x3)] [] M (f_Md_plans_b41 n x1 x3 M) := by
  intro n
  induction n with
  | zero =>
    intros
    exact V_none
  | succ n ih =>
    intro x1 x3 M
    rw [f_Md_plans_b41]
    refine V_iload_n C0 3 rfl 2 rfl dX7_plans_41 ?_
    refine V_aload_n C0 0 rfl 0 rfl dX7_plans_42 ?_
    refine g7_7 C0 dX7_plans_43 ?_
    refine V_iconst C0 dX7_plans_46 ic_0 ?_
    refine V_iald C0 376 s209 n209 dX7_plans_47 ?_
    refine V_icmpge C0 125 dX7_plans_48 (by decide) (fun _ => ?_) (fun _ => ?_)
    · exact V_vret C0 dX7_plans_125
    · refine V_aload_n C0 0 rfl 0 rfl dX7_plans_51 ?_
      refine V_iload_n C0 3 rfl 2 rfl dX7_plans_52 ?_
      refine p7_209 C0 dX7_plans_53 (fun M1 => ?_)
      refine V_aload_n C0 0 rfl 0 rfl dX7_plans_56 ?_
      refine V_iconst C0 dX7_plans_57 ic_0 ?_
      refine p7_224 C0 dX7_plans_58 (fun M2 => ?_)
      refine V_aload_n C0 0 rfl 0 rfl dX7_plans_61 ?_
      refine g7_52 C0 dX7_plans_62 ?_
      refine V_iload_n C0 3 rfl 2 rfl dX7_plans_65 ?_
      refine V_zald C0 6 s223 n223 dX7_plans_66 ?_
      refine V_ifne C0 76 dX7_plans_67 (by decide) (fun _ => ?_) (fun _ => ?_)
      · exact V_sub [0, 1, 2] rfl (f_Md_plans_b76_ok C0 (f_Md_plans_b41 n) ih FU x1 x3 M2)
      · refine V_aload_n C0 0 rfl 0 rfl dX7_plans_70 ?_
        refine V_iconst C0 dX7_plans_71 ic_0 ?_
        refine V_iload_n C0 1 rfl 1 rfl dX7_plans_72 ?_
        refine k7_231 C0 (by decide) (fun lq rq Mq hh => mc_f_Md_pushes lq 0 x1 M2 rq Mq  hh) (Nat.le_of_ble_eq_true rfl) dX7_plans_73 (fun _ M3 => ?_)
        exact V_sub [0, 1, 2] rfl (f_Md_plans_b76_ok C0 (f_Md_plans_b41 n) ih FU x1 x3 M3)
set_option maxRecDepth 100000 in
set_option maxHeartbeats 4000000 in
theorem mc_f_Md_plans {G : GT} (l : Launch) (x1 : Int32) (x2 : Int32) (M : Mem) (r : Unit) (M1 : Mem) (ho : f_Md_plans x1 x2 M = some (r, M1)) : MC l G yX7_plans cX7_plans 4 none 4 [.ref (G.2 + 208), .int x1, .int x2] M (vU r) M1 :=
  MC.ofV (own := RX7) (lv := [(0, .ref (G.2 + 208)), (1, .int x1), (2, .int x2)]) (by decide +kernel) rfl rfl (Nat.le_of_ble_eq_true rfl) ho (fun X hX C0 => by
    unfold f_Md_plans
    refine V_aload_n C0 0 rfl 0 rfl dX7_plans_0 ?_
    refine k7_164 C0 (by decide) (fun lq rq Mq hh => mc_f_Md_lays lq  M rq Mq  hh) (Nat.le_of_ble_eq_true rfl) dX7_plans_1 (fun _ M1 => ?_)
    refine V_aload_n C0 0 rfl 0 rfl dX7_plans_4 ?_
    refine V_iconst C0 dX7_plans_5 ic_0 ?_
    refine p7_203 C0 dX7_plans_6 (fun M2 => ?_)
    refine V_aload_n C0 0 rfl 0 rfl dX7_plans_9 ?_
    refine V_iconst C0 dX7_plans_10 ic_0 ?_
    refine p7_212 C0 dX7_plans_11 (fun M3 => ?_)
    refine V_aload_n C0 0 rfl 0 rfl dX7_plans_14 ?_
    refine V_iconst C0 dX7_plans_15 ic_0 ?_
    refine p7_215 C0 dX7_plans_16 (fun M4 => ?_)
    refine V_aload_n C0 0 rfl 0 rfl dX7_plans_19 ?_
    refine V_iconst C0 dX7_plans_20 ic_0 ?_
    refine p7_218 C0 dX7_plans_21 (fun M5 => ?_)
    refine V_aload_n C0 0 rfl 0 rfl dX7_plans_24 ?_
    refine V_iconst C0 dX7_plans_25 ic_0 ?_
    refine p7_221 C0 dX7_plans_26 (fun M6 => ?_)
    refine V_aload_n C0 0 rfl 0 rfl dX7_plans_29 ?_
    refine V_iconst C0 dX7_plans_30 ic_0 ?_
    refine p7_200 C0 dX7_plans_31 (fun M7 => ?_)
    refine V_aload_n C0 0 rfl 0 rfl dX7_plans_34 ?_
    refine V_iload_n C0 2 rfl 2 rfl dX7_plans_35 ?_
    refine p7_206 C0 dX7_plans_36 (fun M8 => ?_)
    refine V_iconst C0 dX7_plans_39 ic_0 ?_
    refine V_istore_n C0 3 [(3, .int 0), (0, .ref (G.2 + 208)), (1, .int x1), (2, .int x2)] rfl (by decide) rfl dX7_plans_40 ?_
    exact V_sub [1, 2, 0] rfl (f_Md_plans_b41_ok C0 FU x1 0 M8))
set_option maxRecDepth 100000 in
set_option maxHeartbeats 4000000 in
theorem mc_f_Md_costWith {G : GT} (l : Launch) (x1 : Int32) (M : Mem) (r : Int32) (M1 : Mem) (ho : f_Md_costWith x1 M = some (r, M1)) : MC l G yX7_costWith cX7_costWith 2 (some .int) 5 [.ref (G.2 + 208), .int x1] M (vI r) M1 :=
  MC.ofV (own := RX7) (lv := [(0, .ref (G.2 + 208)), (1, .int x1)]) (by decide +kernel) rfl rfl (Nat.le_of_ble_eq_true rfl) ho (fun X hX C0 => by
    unfold f_Md_costWith
    refine V_iload_n C0 1 rfl 1 rfl dX7_costWith_0 ?_
    refine V_iconst C0 dX7_costWith_1 ic_2 ?_
    refine V_bipush C0 dX7_costWith_2 bp_8 ?_
    refine k7_75 C0 (by decide) (fun lq rq Mq hh => mc_f_Md_in lq x1 2 8 M rq Mq  hh) (Nat.le_of_ble_eq_true rfl) dX7_costWith_4 (fun r1 M1 => ?_)
    refine V_ifne C0 13 dX7_costWith_7 (by decide) (fun _ => ?_) (fun _ => ?_)
    · refine V_aload_n C0 0 rfl 0 rfl dX7_costWith_13 ?_
      refine V_iload_n C0 1 rfl 1 rfl dX7_costWith_14 ?_
      refine V_ldc C0 wk7_87 dX7_costWith_15 ?_
      refine k7_237 C0 (by decide) (fun lq rq Mq hh => mc_f_Md_plans lq x1 (-1000009) M1 rq Mq  hh) (Nat.le_of_ble_eq_true rfl) dX7_costWith_17 (fun _ M2 => ?_)
      refine V_aload_n C0 0 rfl 0 rfl dX7_costWith_20 ?_
      refine g7_212 C0 dX7_costWith_21 ?_
      exact V_iret C0 dX7_costWith_24
    · refine V_ldc C0 wk7_79 dX7_costWith_10 ?_
      exact V_iret C0 dX7_costWith_12)
set_option maxRecDepth 100000 in
set_option maxHeartbeats 4000000 in
theorem f_Md_greatestNeed_b4_ok {X : XT} {G : GT} (C0 : Cx X G cX7_greatestNeed 3 RX7 (some .int)) : ∀ (n : Nat) (x1 : Int32) (x2 : Int32) (M : Mem), V X G 0 vI 3 4 [(0, .ref (G.2 + 208)), (1, .int x1), (2, .int x2)] [] M (f_Md_greatestNeed_b4 n x1 x2 M) := by
  intro n
  induction n with
  | zero =>
    intros
    exact V_none
  | succ n ih =>
    intro x1 x2 M
    rw [f_Md_greatestNeed_b4]
    refine V_iload_n C0 2 rfl 2 rfl dX7_greatestNeed_4 ?_
    refine V_aload_n C0 0 rfl 0 rfl dX7_greatestNeed_5 ?_
    refine g7_7 C0 dX7_greatestNeed_6 ?_
    refine V_iconst C0 dX7_greatestNeed_9 ic_0 ?_
    refine V_iald C0 376 s209 n209 dX7_greatestNeed_10 ?_
    refine V_icmpge C0 56 dX7_greatestNeed_11 (by decide) (fun _ => ?_) (fun _ => ?_)
    · refine V_iload_n C0 1 rfl 1 rfl dX7_greatestNeed_56 ?_
      exact V_iret C0 dX7_greatestNeed_57
    · refine V_aload_n C0 0 rfl 0 rfl dX7_greatestNeed_14 ?_
      refine g7_52 C0 dX7_greatestNeed_15 ?_
      refine V_iload_n C0 2 rfl 2 rfl dX7_greatestNeed_18 ?_
      refine V_zald C0 6 s223 n223 dX7_greatestNeed_19 ?_
      refine V_ifne C0 48 dX7_greatestNeed_20 (by decide) (fun _ => ?_) (fun _ => ?_)
      · refine V_iload_n C0 1 rfl 1 rfl dX7_greatestNeed_48 ?_
        refine V_istore_n C0 1 [(1, .int x1), (0, .ref (G.2 + 208)), (2, .int x2)] rfl (by decide) rfl dX7_greatestNeed_49 ?_
        refine V_iincB C0 2 2 (fun y1 => [(2, .int y1), (1, .int x1), (0, .ref (G.2 + 208))]) rfl ic_1 (by decide) (fun _ => rfl) dX7_greatestNeed_50 (fun y1 => ?_)
        refine V_goto C0 4 dX7_greatestNeed_53 (by decide) ?_
        exact V_sub [2, 1, 0] rfl (ih x1 y1 M)
      · refine V_aload_n C0 0 rfl 0 rfl dX7_greatestNeed_23 ?_
        refine g7_40 C0 dX7_greatestNeed_24 ?_
        refine V_bipush C0 dX7_greatestNeed_27 bp_90 ?_
        refine V_iload_n C0 2 rfl 2 rfl dX7_greatestNeed_29 ?_
        refine V_imul C0 dX7_greatestNeed_30 ?_
        refine V_iald C0 540 s219 n219 dX7_greatestNeed_31 ?_
        refine V_iload_n C0 1 rfl 1 rfl dX7_greatestNeed_32 ?_
        refine V_icmple C0 48 dX7_greatestNeed_33 (by decide) (fun _ => ?_) (fun _ => ?_)
        · refine V_iload_n C0 1 rfl 1 rfl dX7_greatestNeed_48 ?_
          refine V_istore_n C0 1 [(1, .int x1), (0, .ref (G.2 + 208)), (2, .int x2)] rfl (by decide) rfl dX7_greatestNeed_49 ?_
          refine V_iincB C0 2 2 (fun y2 => [(2, .int y2), (1, .int x1), (0, .ref (G.2 + 208))]) rfl ic_1 (by decide) (fun _ => rfl) dX7_greatestNeed_50 (fun y2 => ?_)
          refine V_goto C0 4 dX7_greatestNeed_53 (by decide) ?_
          exact V_sub [2, 1, 0] rfl (ih x1 y2 M)
        · refine V_aload_n C0 0 rfl 0 rfl dX7_greatestNeed_36 ?_
          refine g7_40 C0 dX7_greatestNeed_37 ?_
          refine V_bipush C0 dX7_greatestNeed_40 bp_90 ?_
          refine V_iload_n C0 2 rfl 2 rfl dX7_greatestNeed_42 ?_
          refine V_imul C0 dX7_greatestNeed_43 ?_
          refine V_iald C0 540 s219 n219 dX7_greatestNeed_44 ?_
          refine V_goto C0 49 dX7_greatestNeed_45 (by decide) ?_
          refine V_bi (fun y3 => ?_)
          refine V_istore_n C0 1 [(1, .int y3), (0, .ref (G.2 + 208)), (2, .int x2)] rfl (by decide) rfl dX7_greatestNeed_49 ?_
          refine V_iincB C0 2 2 (fun y4 => [(2, .int y4), (1, .int y3), (0, .ref (G.2 + 208))]) rfl ic_1 (by decide) (fun _ => rfl) dX7_greatestNeed_50 (fun y4 => ?_)
          refine V_goto C0 4 dX7_greatestNeed_53 (by decide) ?_
          exact V_sub [2, 1, 0] rfl (ih y3 y4 M)
set_option maxRecDepth 100000 in
set_option maxHeartbeats 4000000 in
theorem mc_f_Md_greatestNeed {G : GT} (l : Launch) (M : Mem) (r : Int32) (M1 : Mem) (ho : f_Md_greatestNeed  M = some (r, M1)) : MC l G yX7_greatestNeed cX7_greatestNeed 3 (some .int) 0 [.ref (G.2 + 208)] M (vI r) M1 :=
  MC.ofV (own := RX7) (lv := [(0, .ref (G.2 + 208))]) (by decide +kernel) rfl rfl (Nat.le_of_ble_eq_true rfl) ho (fun X hX C0 => by
    unfold f_Md_greatestNeed
    refine V_iconst C0 dX7_greatestNeed_0 ic_0 ?_
    refine V_istore_n C0 1 [(1, .int 0), (0, .ref (G.2 + 208))] rfl (by decide) rfl dX7_greatestNeed_1 ?_
    refine V_iconst C0 dX7_greatestNeed_2 ic_0 ?_
    refine V_istore_n C0 2 [(2, .int 0), (1, .int 0), (0, .ref (G.2 + 208))] rfl (by decide) rfl dX7_greatestNeed_3 ?_
    exact V_sub [2, 1, 0] rfl (f_Md_greatestNeed_b4_ok C0 FU 0 0 M))
set_option maxRecDepth 100000 in
set_option maxHeartbeats 4000000 in
theorem f_Md_count_b64_ok {X : XT} {G : GT} (C0 : Cx X G cX7_count 4 RX7 (some .int)) : ∀ (n : Nat) (x2 : Int32) (x3 : Int32) (M : Mem), V X G 4 vI 4 64 [(0, .ref (G.2 + 208)), (2, .int x2), (3, .int x3)] [] M (f_Md_count_b64 n x2 x3 M) := by
  intro n
  induction n with
  | zero =>
    intros
    exact V_none
  | succ n ih =>
    intro x2 x3 M
    rw [f_Md_count_b64]
    refine V_iload_n C0 3 rfl 2 rfl dX7_count_64 ?_
    refine V_aload_n C0 0 rfl 0 rfl dX7_count_65 ?_
    refine g7_7 C0 dX7_count_66 ?_
    refine V_iconst C0 dX7_count_69 ic_0 ?_
    refine V_iald C0 376 s209 n209 dX7_count_70 ?_
    refine V_icmpge C0 92 dX7_count_71 (by decide) (fun _ => ?_) (fun _ => ?_)
    · refine V_iload_n C0 2 rfl 1 rfl dX7_count_92 ?_
      exact V_iret C0 dX7_count_93
    · refine V_iload_n C0 2 rfl 1 rfl dX7_count_74 ?_
      refine V_aload_n C0 0 rfl 0 rfl dX7_count_75 ?_
      refine g7_7 C0 dX7_count_76 ?_
      refine V_bipush C0 dX7_count_79 bp_10 ?_
      refine V_iload_n C0 3 rfl 2 rfl dX7_count_81 ?_
      refine V_iadd C0 dX7_count_82 ?_
      refine V_iald C0 376 s209 n209 dX7_count_83 ?_
      refine V_iadd C0 dX7_count_84 ?_
      refine V_bi (fun y1 => ?_)
      refine V_istore_n C0 2 [(2, .int y1), (0, .ref (G.2 + 208)), (3, .int x3)] rfl (by decide) rfl dX7_count_85 ?_
      refine V_iincB C0 3 2 (fun y2 => [(3, .int y2), (2, .int y1), (0, .ref (G.2 + 208))]) rfl ic_1 (by decide) (fun _ => rfl) dX7_count_86 (fun y2 => ?_)
      refine V_goto C0 64 dX7_count_89 (by decide) ?_
      exact V_sub [2, 1, 0] rfl (ih y1 y2 M)
set_option maxRecDepth 100000 in
set_option maxHeartbeats 4000000 in
theorem mc_f_Md_count {G : GT} (l : Launch) (x1 : Int32) (M : Mem) (r : Int32) (M1 : Mem) (ho : f_Md_count x1 M = some (r, M1)) : MC l G yX7_count cX7_count 4 (some .int) 4 [.ref (G.2 + 208), .int x1] M (vI r) M1 :=
  MC.ofV (own := RX7) (lv := [(0, .ref (G.2 + 208)), (1, .int x1)]) (by decide +kernel) rfl rfl (Nat.le_of_ble_eq_true rfl) ho (fun X hX C0 => by
    unfold f_Md_count
    refine V_aload_n C0 0 rfl 0 rfl dX7_count_0 ?_
    refine k7_164 C0 (by decide) (fun lq rq Mq hh => mc_f_Md_lays lq  M rq Mq  hh) (Nat.le_of_ble_eq_true rfl) dX7_count_1 (fun _ M1 => ?_)
    refine V_iload_n C0 1 rfl 1 rfl dX7_count_4 ?_
    refine V_ts C0 0 48 dX7_count_5 (by decide) (by decide) rfl (by decide) (fun _ => ?_) (fun hs0 => ?_)
    · refine V_aload_n C0 0 rfl 0 rfl dX7_count_48 ?_
      refine g7_7 C0 dX7_count_49 ?_
      refine V_iconst C0 dX7_count_52 ic_0 ?_
      refine V_iald C0 376 s209 n209 dX7_count_53 ?_
      exact V_iret C0 dX7_count_54
    refine V_ts C0 1 55 dX7_count_5 (by decide) (by decide) rfl (by decide) (fun _ => ?_) (fun hs1 => ?_)
    · refine V_aload_n C0 0 rfl 0 rfl dX7_count_55 ?_
      refine k7_191 C0 (by decide) (fun lq rq Mq hh => mc_f_Md_cheapOnes lq  M1 rq Mq  hh) (Nat.le_of_ble_eq_true rfl) dX7_count_56 (fun r2 M2 => ?_)
      exact V_iret C0 dX7_count_59
    refine V_ts C0 2 60 dX7_count_5 (by decide) (by decide) rfl (by decide) (fun _ => ?_) (fun hs2 => ?_)
    · refine V_iconst C0 dX7_count_60 ic_0 ?_
      refine V_istore_n C0 2 [(2, .int 0), (0, .ref (G.2 + 208)), (1, .int x1)] rfl (by decide) rfl dX7_count_61 ?_
      refine V_iconst C0 dX7_count_62 ic_0 ?_
      refine V_istore_n C0 3 [(3, .int 0), (2, .int 0), (0, .ref (G.2 + 208)), (1, .int x1)] rfl (by decide) rfl dX7_count_63 ?_
      exact V_sub [2, 1, 0] rfl (f_Md_count_b64_ok C0 FU 0 0 M1)
    refine V_ts C0 3 94 dX7_count_5 (by decide) (by decide) rfl (by decide) (fun _ => ?_) (fun hs3 => ?_)
    · refine V_aload_n C0 0 rfl 0 rfl dX7_count_94 ?_
      refine g7_7 C0 dX7_count_95 ?_
      refine V_iconst C0 dX7_count_98 ic_1 ?_
      refine V_iald C0 376 s209 n209 dX7_count_99 ?_
      exact V_iret C0 dX7_count_100
    refine V_ts C0 4 101 dX7_count_5 (by decide) (by decide) rfl (by decide) (fun _ => ?_) (fun hs4 => ?_)
    · refine V_aload_n C0 0 rfl 0 rfl dX7_count_101 ?_
      refine k7_194 C0 (by decide) (fun lq rq Mq hh => mc_f_Md_greatestNeed lq  M1 rq Mq  hh) (Nat.le_of_ble_eq_true rfl) dX7_count_102 (fun r3 M3 => ?_)
      exact V_iret C0 dX7_count_105
    refine V_ts C0 5 106 dX7_count_5 (by decide) (by decide) rfl (by decide) (fun _ => ?_) (fun hs5 => ?_)
    · refine V_aload_n C0 0 rfl 0 rfl dX7_count_106 ?_
      refine g7_71 C0 dX7_count_107 ?_
      exact V_iret C0 dX7_count_110
    refine V_ts C0 6 111 dX7_count_5 (by decide) (by decide) rfl (by decide) (fun _ => ?_) (fun hs6 => ?_)
    · refine V_aload_n C0 0 rfl 0 rfl dX7_count_111 ?_
      refine g7_80 C0 dX7_count_112 ?_
      exact V_iret C0 dX7_count_115
    refine V_tsO C0 116 dX7_count_5 (by have hz0 := lv_neT hs0 (a := 0) rfl; have hz1 := lv_neT hs1 (a := 1) rfl; have hz2 := lv_neT hs2 (a := 2) rfl; have hz3 := lv_neT hs3 (a := 3) rfl; have hz4 := lv_neT hs4 (a := 4) rfl; have hz5 := lv_neT hs5 (a := 5) rfl; have hz6 := lv_neT hs6 (a := 6) rfl; omega) (by decide) ?_
    refine V_ldc C0 wk7_79 dX7_count_116 ?_
    exact V_iret C0 dX7_count_118)
set_option maxRecDepth 100000 in
set_option maxHeartbeats 4000000 in
theorem f_Md_enough_b9_ok {X : XT} {G : GT} (C0 : Cx X G cX7_enough 2 RX7 (some .int)) : ∀ (n : Nat) (x1 : Int32) (M : Mem), V X G 5 vI 2 9 [(0, .ref (G.2 + 208)), (1, .int x1)] [] M (f_Md_enough_b9 n x1 M) := by
  intro n
  induction n with
  | zero =>
    intros
    exact V_none
  | succ n ih =>
    intro x1 M
    rw [f_Md_enough_b9]
    refine V_aload_n C0 0 rfl 0 rfl dX7_enough_9 ?_
    refine g7_215 C0 dX7_enough_10 ?_
    refine V_ifle C0 35 dX7_enough_13 (by decide) (fun _ => ?_) (fun _ => ?_)
    · refine V_iload_n C0 1 rfl 1 rfl dX7_enough_35 ?_
      exact V_iret C0 dX7_enough_36
    · refine V_iload_n C0 1 rfl 1 rfl dX7_enough_16 ?_
      refine V_bipush C0 dX7_enough_17 bp_8 ?_
      refine V_icmpge C0 35 dX7_enough_19 (by decide) (fun _ => ?_) (fun _ => ?_)
      · refine V_iload_n C0 1 rfl 1 rfl dX7_enough_35 ?_
        exact V_iret C0 dX7_enough_36
      · refine V_iincB C0 1 1 (fun y1 => [(1, .int y1), (0, .ref (G.2 + 208))]) rfl ic_1 (by decide) (fun _ => rfl) dX7_enough_22 (fun y1 => ?_)
        refine V_aload_n C0 0 rfl 1 rfl dX7_enough_25 ?_
        refine V_iload_n C0 1 rfl 0 rfl dX7_enough_26 ?_
        refine V_ldc C0 wk7_87 dX7_enough_27 ?_
        refine k7_237 C0 (by decide) (fun lq rq Mq hh => mc_f_Md_plans lq y1 (-1000009) M rq Mq  hh) (Nat.le_of_ble_eq_true rfl) dX7_enough_29 (fun _ M2 => ?_)
        refine V_goto C0 9 dX7_enough_32 (by decide) ?_
        exact V_sub [1, 0] rfl (ih y1 M2)
set_option maxRecDepth 100000 in
set_option maxHeartbeats 4000000 in
theorem mc_f_Md_enough {G : GT} (l : Launch) (M : Mem) (r : Int32) (M1 : Mem) (ho : f_Md_enough  M = some (r, M1)) : MC l G yX7_enough cX7_enough 2 (some .int) 5 [.ref (G.2 + 208)] M (vI r) M1 :=
  MC.ofV (own := RX7) (lv := [(0, .ref (G.2 + 208))]) (by decide +kernel) rfl rfl (Nat.le_of_ble_eq_true rfl) ho (fun X hX C0 => by
    unfold f_Md_enough
    refine V_iconst C0 dX7_enough_0 ic_2 ?_
    refine V_istore_n C0 1 [(1, .int 2), (0, .ref (G.2 + 208))] rfl (by decide) rfl dX7_enough_1 ?_
    refine V_aload_n C0 0 rfl 1 rfl dX7_enough_2 ?_
    refine V_iload_n C0 1 rfl 0 rfl dX7_enough_3 ?_
    refine V_ldc C0 wk7_87 dX7_enough_4 ?_
    refine k7_237 C0 (by decide) (fun lq rq Mq hh => mc_f_Md_plans lq 2 (-1000009) M rq Mq  hh) (Nat.le_of_ble_eq_true rfl) dX7_enough_6 (fun _ M1 => ?_)
    exact V_sub [1, 0] rfl (f_Md_enough_b9_ok C0 FU 2 M1))
set_option maxRecDepth 100000 in
set_option maxHeartbeats 4000000 in
theorem mc_f_Md_here {G : GT} (l : Launch) (M : Mem) (r : Int32) (M1 : Mem) (ho : f_Md_here  M = some (r, M1)) : MC l G yX7_here cX7_here 1 (some .int) 0 [.ref (G.2 + 208)] M (vI r) M1 :=
  MC.ofV (own := RX7) (lv := [(0, .ref (G.2 + 208))]) (by decide +kernel) rfl rfl (Nat.le_of_ble_eq_true rfl) ho (fun X hX C0 => by
    unfold f_Md_here
    refine V_aload_n C0 0 rfl 0 rfl dX7_here_0 ?_
    refine g7_84 C0 dX7_here_1 ?_
    refine V_aload_n C0 0 rfl 0 rfl dX7_here_4 ?_
    refine g7_80 C0 dX7_here_5 ?_
    refine V_icmpge C0 23 dX7_here_8 (by decide) (fun _ => ?_) (fun _ => ?_)
    · refine V_ldc C0 wk7_87 dX7_here_23 ?_
      exact V_iret C0 dX7_here_25
    · refine V_aload_n C0 0 rfl 0 rfl dX7_here_11 ?_
      refine g7_16 C0 dX7_here_12 ?_
      refine V_aload_n C0 0 rfl 0 rfl dX7_here_15 ?_
      refine g7_84 C0 dX7_here_16 ?_
      refine V_iald C0 100 s211 n211 dX7_here_19 ?_
      refine V_goto C0 25 dX7_here_20 (by decide) ?_
      exact V_iret C0 dX7_here_25)
set_option maxRecDepth 100000 in
set_option maxHeartbeats 4000000 in
theorem f_Md_puts_b18_ok {X : XT} {G : GT} (C0 : Cx X G cX7_puts 6 RX7 none) : ∀ (n : Nat) (x1 : Int32) (x2 : Int32) (x3 : Int32) (x4 : Int32) (x5 : Int32) (M : Mem), V X G 0 vU 6 18 [(0, .ref (G.2 + 208)), (1, .int x1), (2, .int x2), (3, .int x3), (4, .int x4), (5, .int x5)] [] M (f_Md_puts_b18 n x1 x2 x3 x4 x5 M) := by
  intro n
  induction n with
  | zero =>
    intros
    exact V_none
  | succ n ih =>
    intro x1 x2 x3 x4 x5 M
    rw [f_Md_puts_b18]
    refine V_iload C0 5 5 rfl dX7_puts_18 ?_
    refine V_iload_n C0 1 rfl 1 rfl dX7_puts_20 ?_
    refine V_icmple C0 84 dX7_puts_21 (by decide) (fun _ => ?_) (fun _ => ?_)
    · refine V_aload_n C0 0 rfl 0 rfl dX7_puts_84 ?_
      refine g7_19 C0 dX7_puts_85 ?_
      refine V_iload C0 4 4 rfl dX7_puts_88 ?_
      refine V_iconst C0 dX7_puts_90 ic_2 ?_
      refine V_iload_n C0 1 rfl 1 rfl dX7_puts_91 ?_
      refine V_imul C0 dX7_puts_92 ?_
      refine V_iadd C0 dX7_puts_93 ?_
      refine V_iload_n C0 2 rfl 2 rfl dX7_puts_94 ?_
      refine V_iast C0 376 s212 n212 dX7_puts_95 (fun M1 => ?_)
      refine V_aload_n C0 0 rfl 0 rfl dX7_puts_96 ?_
      refine g7_19 C0 dX7_puts_97 ?_
      refine V_iload C0 4 4 rfl dX7_puts_100 ?_
      refine V_iconst C0 dX7_puts_102 ic_2 ?_
      refine V_iload_n C0 1 rfl 1 rfl dX7_puts_103 ?_
      refine V_imul C0 dX7_puts_104 ?_
      refine V_iadd C0 dX7_puts_105 ?_
      refine V_iconst C0 dX7_puts_106 ic_1 ?_
      refine V_iadd C0 dX7_puts_107 ?_
      refine V_iload_n C0 3 rfl 3 rfl dX7_puts_108 ?_
      refine V_iast C0 376 s212 n212 dX7_puts_109 (fun M2 => ?_)
      refine V_aload_n C0 0 rfl 0 rfl dX7_puts_110 ?_
      refine V_dup C0 rfl dX7_puts_111 ?_
      refine g7_91 C0 dX7_puts_112 ?_
      refine V_iconst C0 dX7_puts_115 ic_1 ?_
      refine V_iadd C0 dX7_puts_116 ?_
      refine p7_91 C0 dX7_puts_117 (fun M3 => ?_)
      exact V_vret C0 dX7_puts_120
    · refine V_aload_n C0 0 rfl 0 rfl dX7_puts_24 ?_
      refine g7_19 C0 dX7_puts_25 ?_
      refine V_iload C0 4 4 rfl dX7_puts_28 ?_
      refine V_iconst C0 dX7_puts_30 ic_2 ?_
      refine V_iload C0 5 5 rfl dX7_puts_31 ?_
      refine V_imul C0 dX7_puts_33 ?_
      refine V_iadd C0 dX7_puts_34 ?_
      refine V_aload_n C0 0 rfl 0 rfl dX7_puts_35 ?_
      refine g7_19 C0 dX7_puts_36 ?_
      refine V_iload C0 4 4 rfl dX7_puts_39 ?_
      refine V_iconst C0 dX7_puts_41 ic_2 ?_
      refine V_iload C0 5 5 rfl dX7_puts_42 ?_
      refine V_imul C0 dX7_puts_44 ?_
      refine V_iadd C0 dX7_puts_45 ?_
      refine V_iconst C0 dX7_puts_46 ic_2 ?_
      refine V_isub C0 dX7_puts_47 ?_
      refine V_iald C0 376 s212 n212 dX7_puts_48 ?_
      refine V_iast C0 376 s212 n212 dX7_puts_49 (fun M4 => ?_)
      refine V_aload_n C0 0 rfl 0 rfl dX7_puts_50 ?_
      refine g7_19 C0 dX7_puts_51 ?_
      refine V_iload C0 4 4 rfl dX7_puts_54 ?_
      refine V_iconst C0 dX7_puts_56 ic_2 ?_
      refine V_iload C0 5 5 rfl dX7_puts_57 ?_
      refine V_imul C0 dX7_puts_59 ?_
      refine V_iadd C0 dX7_puts_60 ?_
      refine V_iconst C0 dX7_puts_61 ic_1 ?_
      refine V_iadd C0 dX7_puts_62 ?_
      refine V_aload_n C0 0 rfl 0 rfl dX7_puts_63 ?_
      refine g7_19 C0 dX7_puts_64 ?_
      refine V_iload C0 4 4 rfl dX7_puts_67 ?_
      refine V_iconst C0 dX7_puts_69 ic_2 ?_
      refine V_iload C0 5 5 rfl dX7_puts_70 ?_
      refine V_imul C0 dX7_puts_72 ?_
      refine V_iadd C0 dX7_puts_73 ?_
      refine V_iconst C0 dX7_puts_74 ic_1 ?_
      refine V_isub C0 dX7_puts_75 ?_
      refine V_iald C0 376 s212 n212 dX7_puts_76 ?_
      refine V_iast C0 376 s212 n212 dX7_puts_77 (fun M5 => ?_)
      refine V_iincB C0 5 5 (fun y6 => [(5, .int y6), (0, .ref (G.2 + 208)), (1, .int x1), (2, .int x2), (3, .int x3), (4, .int x4)]) rfl ic_m1 (by decide) (fun _ => rfl) dX7_puts_78 (fun y6 => ?_)
      refine V_goto C0 18 dX7_puts_81 (by decide) ?_
      exact V_sub [1, 2, 3, 4, 5, 0] rfl (ih x1 x2 x3 x4 y6 M5)
set_option maxRecDepth 100000 in
set_option maxHeartbeats 4000000 in
theorem mc_f_Md_puts {G : GT} (l : Launch) (x1 : Int32) (x2 : Int32) (x3 : Int32) (M : Mem) (r : Unit) (M1 : Mem) (ho : f_Md_puts x1 x2 x3 M = some (r, M1)) : MC l G yX7_puts cX7_puts 6 none 0 [.ref (G.2 + 208), .int x1, .int x2, .int x3] M (vU r) M1 :=
  MC.ofV (own := RX7) (lv := [(0, .ref (G.2 + 208)), (1, .int x1), (2, .int x2), (3, .int x3)]) (by decide +kernel) rfl rfl (Nat.le_of_ble_eq_true rfl) ho (fun X hX C0 => by
    unfold f_Md_puts
    refine V_bipush C0 dX7_puts_0 bp_16 ?_
    refine V_bipush C0 dX7_puts_2 bp_60 ?_
    refine V_aload_n C0 0 rfl 0 rfl dX7_puts_4 ?_
    refine g7_88 C0 dX7_puts_5 ?_
    refine V_imul C0 dX7_puts_8 ?_
    refine V_iadd C0 dX7_puts_9 ?_
    refine V_bi (fun y1 => ?_)
    refine V_istore C0 4 [(4, .int y1), (0, .ref (G.2 + 208)), (1, .int x1), (2, .int x2), (3, .int x3)] (by decide) rfl dX7_puts_10 ?_
    refine V_aload_n C0 0 rfl 1 rfl dX7_puts_12 ?_
    refine g7_91 C0 dX7_puts_13 ?_
    refine V_bi (fun y2 => ?_)
    refine V_istore C0 5 [(5, .int y2), (4, .int y1), (0, .ref (G.2 + 208)), (1, .int x1), (2, .int x2), (3, .int x3)] (by decide) rfl dX7_puts_16 ?_
    exact V_sub [2, 3, 4, 5, 1, 0] rfl (f_Md_puts_b18_ok C0 FU x1 x2 x3 y1 y2 M))
set_option maxRecDepth 100000 in
set_option maxHeartbeats 4000000 in
theorem mc_f_Md_leaf {G : GT} (l : Launch) (x1 : Int32) (x2 : Int32) (M : Mem) (r : Int32) (M1 : Mem) (ho : f_Md_leaf x1 x2 M = some (r, M1)) : MC l G yX7_leaf cX7_leaf 3 (some .boolean) 1 [.ref (G.2 + 208), .int x1, .int x2] M (vI r) M1 :=
  MC.ofV (own := RX7) (lv := [(0, .ref (G.2 + 208)), (1, .int x1), (2, .int x2)]) (by decide +kernel) rfl rfl (Nat.le_of_ble_eq_true rfl) ho (fun X hX C0 => by
    unfold f_Md_leaf
    refine V_aload_n C0 0 rfl 0 rfl dX7_leaf_0 ?_
    refine g7_22 C0 dX7_leaf_1 ?_
    refine V_aload_n C0 0 rfl 0 rfl dX7_leaf_4 ?_
    refine g7_94 C0 dX7_leaf_5 ?_
    refine V_aload_n C0 0 rfl 0 rfl dX7_leaf_8 ?_
    refine g7_91 C0 dX7_leaf_9 ?_
    refine V_iast C0 31 s213 n213 dX7_leaf_12 (fun M1 => ?_)
    refine V_aload_n C0 0 rfl 0 rfl dX7_leaf_13 ?_
    refine V_dup C0 rfl dX7_leaf_14 ?_
    refine g7_94 C0 dX7_leaf_15 ?_
    refine V_iconst C0 dX7_leaf_18 ic_1 ?_
    refine V_iadd C0 dX7_leaf_19 ?_
    refine p7_94 C0 dX7_leaf_20 (fun M2 => ?_)
    refine V_aload_n C0 0 rfl 0 rfl dX7_leaf_23 ?_
    refine V_aload_n C0 0 rfl 0 rfl dX7_leaf_24 ?_
    refine g7_91 C0 dX7_leaf_25 ?_
    refine V_iload_n C0 1 rfl 1 rfl dX7_leaf_28 ?_
    refine V_iload_n C0 2 rfl 2 rfl dX7_leaf_29 ?_
    refine k7_97 C0 (by decide) (fun lq rq Mq hh => mc_f_Md_puts lq (M2.1 208 8) x1 x2 M2 rq Mq  hh) (Nat.le_of_ble_eq_true rfl) dX7_leaf_30 (fun _ M3 => ?_)
    refine V_aload_n C0 0 rfl 0 rfl dX7_leaf_33 ?_
    refine V_dup C0 rfl dX7_leaf_34 ?_
    refine g7_101 C0 dX7_leaf_35 ?_
    refine V_iconst C0 dX7_leaf_38 ic_1 ?_
    refine V_iadd C0 dX7_leaf_39 ?_
    refine p7_101 C0 dX7_leaf_40 (fun M4 => ?_)
    refine V_iconst C0 dX7_leaf_43 ic_1 ?_
    exact V_zret C0 dX7_leaf_44)
set_option maxRecDepth 100000 in
set_option maxHeartbeats 4000000 in
theorem f_Md_number_b23_ok {X : XT} {G : GT} (C0 : Cx X G cX7_number 3 RX7 (some .boolean)) : ∀ (n : Nat) (x1 : Int32) (x2 : Int32) (M : Mem), V X G 2 vI 3 23 [(0, .ref (G.2 + 208)), (1, .int x1), (2, .int x2)] [] M (f_Md_number_b23 n x1 x2 M) := by
  intro n
  induction n with
  | zero =>
    intros
    exact V_none
  | succ n ih =>
    intro x1 x2 M
    rw [f_Md_number_b23]
    refine V_aload_n C0 0 rfl 0 rfl dX7_number_23 ?_
    refine k7_118 C0 (by decide) (fun lq rq Mq hh => mc_f_Md_here lq  M rq Mq  hh) (Nat.le_of_ble_eq_true rfl) dX7_number_24 (fun r1 M1 => ?_)
    refine V_bipush C0 dX7_number_27 bp_48 ?_
    refine V_bipush C0 dX7_number_29 bp_57 ?_
    refine k7_75 C0 (by decide) (fun lq rq Mq hh => mc_f_Md_in lq r1 48 57 M1 rq Mq  hh) (Nat.le_of_ble_eq_true rfl) dX7_number_31 (fun r2 M2 => ?_)
    refine V_ifeq C0 79 dX7_number_34 (by decide) (fun _ => ?_) (fun _ => ?_)
    · refine V_aload_n C0 0 rfl 0 rfl dX7_number_79 ?_
      refine V_iconst C0 dX7_number_80 ic_0 ?_
      refine V_iload_n C0 1 rfl 1 rfl dX7_number_81 ?_
      refine k7_122 C0 (by decide) (fun lq rq Mq hh => mc_f_Md_leaf lq 0 x1 M2 rq Mq  hh) (Nat.le_of_ble_eq_true rfl) dX7_number_82 (fun r3 M3 => ?_)
      exact V_zret C0 dX7_number_85
    · refine V_iload_n C0 1 rfl 1 rfl dX7_number_37 ?_
      refine V_ifeq C0 51 dX7_number_38 (by decide) (fun _ => ?_) (fun _ => ?_)
      · refine V_iconst C0 dX7_number_51 ic_0 ?_
        exact V_zret C0 dX7_number_52
      · refine V_aload_n C0 0 rfl 0 rfl dX7_number_41 ?_
        refine g7_84 C0 dX7_number_42 ?_
        refine V_iload_n C0 2 rfl 2 rfl dX7_number_45 ?_
        refine V_isub C0 dX7_number_46 ?_
        refine V_iconst C0 dX7_number_47 ic_3 ?_
        refine V_icmpne C0 53 dX7_number_48 (by decide) (fun _ => ?_) (fun _ => ?_)
        · refine V_bipush C0 dX7_number_53 bp_10 ?_
          refine V_iload_n C0 1 rfl 1 rfl dX7_number_55 ?_
          refine V_imul C0 dX7_number_56 ?_
          refine V_aload_n C0 0 rfl 0 rfl dX7_number_57 ?_
          refine k7_118 C0 (by decide) (fun lq rq Mq hh => mc_f_Md_here lq  M2 rq Mq  hh) (Nat.le_of_ble_eq_true rfl) dX7_number_58 (fun r4 M4 => ?_)
          refine V_iadd C0 dX7_number_61 ?_
          refine V_bipush C0 dX7_number_62 bp_48 ?_
          refine V_isub C0 dX7_number_64 ?_
          refine V_bi (fun y5 => ?_)
          refine V_istore_n C0 1 [(1, .int y5), (0, .ref (G.2 + 208)), (2, .int x2)] rfl (by decide) rfl dX7_number_65 ?_
          refine V_aload_n C0 0 rfl 1 rfl dX7_number_66 ?_
          refine V_dup C0 rfl dX7_number_67 ?_
          refine g7_84 C0 dX7_number_68 ?_
          refine V_iconst C0 dX7_number_71 ic_1 ?_
          refine V_iadd C0 dX7_number_72 ?_
          refine p7_84 C0 dX7_number_73 (fun M6 => ?_)
          refine V_goto C0 23 dX7_number_76 (by decide) ?_
          exact V_sub [1, 0, 2] rfl (ih y5 x2 M6)
        · refine V_iconst C0 dX7_number_51 ic_0 ?_
          exact V_zret C0 dX7_number_52
set_option maxRecDepth 100000 in
set_option maxHeartbeats 4000000 in
theorem mc_f_Md_number {G : GT} (l : Launch) (M : Mem) (r : Int32) (M1 : Mem) (ho : f_Md_number  M = some (r, M1)) : MC l G yX7_number cX7_number 3 (some .boolean) 2 [.ref (G.2 + 208)] M (vI r) M1 :=
  MC.ofV (own := RX7) (lv := [(0, .ref (G.2 + 208))]) (by decide +kernel) rfl rfl (Nat.le_of_ble_eq_true rfl) ho (fun X hX C0 => by
    unfold f_Md_number
    refine V_aload_n C0 0 rfl 0 rfl dX7_number_0 ?_
    refine k7_118 C0 (by decide) (fun lq rq Mq hh => mc_f_Md_here lq  M rq Mq  hh) (Nat.le_of_ble_eq_true rfl) dX7_number_1 (fun r1 M1 => ?_)
    refine V_bipush C0 dX7_number_4 bp_48 ?_
    refine V_isub C0 dX7_number_6 ?_
    refine V_bi (fun y2 => ?_)
    refine V_istore_n C0 1 [(1, .int y2), (0, .ref (G.2 + 208))] rfl (by decide) rfl dX7_number_7 ?_
    refine V_aload_n C0 0 rfl 1 rfl dX7_number_8 ?_
    refine g7_84 C0 dX7_number_9 ?_
    refine V_bi (fun y3 => ?_)
    refine V_istore_n C0 2 [(2, .int y3), (1, .int y2), (0, .ref (G.2 + 208))] rfl (by decide) rfl dX7_number_12 ?_
    refine V_aload_n C0 0 rfl 2 rfl dX7_number_13 ?_
    refine V_dup C0 rfl dX7_number_14 ?_
    refine g7_84 C0 dX7_number_15 ?_
    refine V_iconst C0 dX7_number_18 ic_1 ?_
    refine V_iadd C0 dX7_number_19 ?_
    refine p7_84 C0 dX7_number_20 (fun M4 => ?_)
    exact V_sub [2, 1, 0] rfl (f_Md_number_b23_ok C0 FU y2 y3 M4))
set_option maxRecDepth 100000 in
set_option maxHeartbeats 4000000 in
theorem f_Md_factor_b94_ok {X : XT} {G : GT} (C0 : Cx X G cX7_factor 4 RX7 (some .boolean)) (t0 : Int32) (t1 : Int32) (M : Mem) : V X G 3 vI 4 94 [(0, .ref (G.2 + 208))] [.int t0, .int t1, .ref (G.2 + 208)] M (f_Md_factor_b94 t0 t1 M) := by
  unfold f_Md_factor_b94
  refine V_iadd C0 dX7_factor_94 ?_
  refine p7_101 C0 dX7_factor_95 (fun M1 => ?_)
  refine V_aload_n C0 0 rfl 0 rfl dX7_factor_98 ?_
  refine V_dup C0 rfl dX7_factor_99 ?_
  refine g7_84 C0 dX7_factor_100 ?_
  refine V_iconst C0 dX7_factor_103 ic_1 ?_
  refine V_iadd C0 dX7_factor_104 ?_
  refine p7_84 C0 dX7_factor_105 (fun M2 => ?_)
  refine V_iconst C0 dX7_factor_108 ic_1 ?_
  exact V_zret C0 dX7_factor_109
set_option maxRecDepth 100000 in
set_option maxHeartbeats 4000000 in
theorem f_Md_factor_b48_ok {X : XT} {G : GT} (C0 : Cx X G cX7_factor 4 RX7 (some .boolean)) (x1 : Int32) (M : Mem) : V X G 3 vI 4 48 [(0, .ref (G.2 + 208)), (1, .int x1)] [] M (f_Md_factor_b48 x1 M) := by
  unfold f_Md_factor_b48
  refine V_aload_n C0 0 rfl 0 rfl dX7_factor_48 ?_
  refine g7_25 C0 dX7_factor_49 ?_
  refine V_aload_n C0 0 rfl 0 rfl dX7_factor_52 ?_
  refine g7_108 C0 dX7_factor_53 ?_
  refine V_iload_n C0 1 rfl 1 rfl dX7_factor_56 ?_
  refine V_iast C0 64 s214 n214 dX7_factor_57 (fun M1 => ?_)
  refine V_aload_n C0 0 rfl 0 rfl dX7_factor_58 ?_
  refine V_dup C0 rfl dX7_factor_59 ?_
  refine g7_108 C0 dX7_factor_60 ?_
  refine V_iconst C0 dX7_factor_63 ic_1 ?_
  refine V_iadd C0 dX7_factor_64 ?_
  refine p7_108 C0 dX7_factor_65 (fun M2 => ?_)
  refine V_aload_n C0 0 rfl 0 rfl dX7_factor_68 ?_
  refine V_dup C0 rfl dX7_factor_69 ?_
  refine g7_115 C0 dX7_factor_70 ?_
  refine V_iconst C0 dX7_factor_73 ic_1 ?_
  refine V_iadd C0 dX7_factor_74 ?_
  refine p7_115 C0 dX7_factor_75 (fun M3 => ?_)
  refine V_aload_n C0 0 rfl 0 rfl dX7_factor_78 ?_
  refine V_dup C0 rfl dX7_factor_79 ?_
  refine g7_101 C0 dX7_factor_80 ?_
  refine V_iload_n C0 1 rfl 1 rfl dX7_factor_83 ?_
  refine V_bipush C0 dX7_factor_84 bp_33 ?_
  refine V_icmpne C0 93 dX7_factor_86 (by decide) (fun _ => ?_) (fun _ => ?_)
  · refine V_iconst C0 dX7_factor_93 ic_0 ?_
    exact V_sub [0] rfl (f_Md_factor_b94_ok C0 0 (M3.1 208 9) M3)
  · refine V_iconst C0 dX7_factor_89 ic_1 ?_
    refine V_goto C0 94 dX7_factor_90 (by decide) ?_
    exact V_sub [0] rfl (f_Md_factor_b94_ok C0 1 (M3.1 208 9) M3)
set_option maxRecDepth 100000 in
set_option maxHeartbeats 4000000 in
theorem f_Md_factor_b22_ok {X : XT} {G : GT} (C0 : Cx X G cX7_factor 4 RX7 (some .boolean)) (x1 : Int32) (M : Mem) : V X G 3 vI 4 22 [(0, .ref (G.2 + 208)), (1, .int x1)] [] M (f_Md_factor_b22 x1 M) := by
  unfold f_Md_factor_b22
  refine V_aload_n C0 0 rfl 0 rfl dX7_factor_22 ?_
  refine g7_115 C0 dX7_factor_23 ?_
  refine V_bipush C0 dX7_factor_26 bp_8 ?_
  refine V_icmpeq C0 46 dX7_factor_28 (by decide) (fun _ => ?_) (fun _ => ?_)
  · refine V_iconst C0 dX7_factor_46 ic_0 ?_
    exact V_zret C0 dX7_factor_47
  · refine V_iload_n C0 1 rfl 1 rfl dX7_factor_31 ?_
    refine V_bipush C0 dX7_factor_32 bp_33 ?_
    refine V_icmpne C0 48 dX7_factor_34 (by decide) (fun _ => ?_) (fun _ => ?_)
    · exact V_sub [0, 1] rfl (f_Md_factor_b48_ok C0 x1 M)
    · refine V_aload_n C0 0 rfl 0 rfl dX7_factor_37 ?_
      refine g7_101 C0 dX7_factor_38 ?_
      refine V_bipush C0 dX7_factor_41 bp_30 ?_
      refine V_icmpne C0 48 dX7_factor_43 (by decide) (fun _ => ?_) (fun _ => ?_)
      · exact V_sub [0, 1] rfl (f_Md_factor_b48_ok C0 x1 M)
      · refine V_iconst C0 dX7_factor_46 ic_0 ?_
        exact V_zret C0 dX7_factor_47
set_option maxRecDepth 100000 in
set_option maxHeartbeats 4000000 in
theorem f_Md_factor_b228_ok {X : XT} {G : GT} (C0 : Cx X G cX7_factor 4 RX7 (some .boolean)) (t0 : Int32) (t1 : Int32) (M : Mem) : V X G 3 vI 4 228 [] [.int t0, .int t1, .ref (G.2 + 208)] M (f_Md_factor_b228 t0 t1 M) := by
  unfold f_Md_factor_b228
  refine k7_122 C0 (by decide) (fun lq rq Mq hh => mc_f_Md_leaf lq t1 t0 M rq Mq  hh) (Nat.le_of_ble_eq_true rfl) dX7_factor_228 (fun r1 M1 => ?_)
  exact V_zret C0 dX7_factor_231
set_option maxRecDepth 100000 in
set_option maxHeartbeats 4000000 in
theorem f_Md_factor_b213_ok {X : XT} {G : GT} (C0 : Cx X G cX7_factor 4 RX7 (some .boolean)) (x1 : Int32) (x2 : Int32) (t0 : Int32) (M : Mem) : V X G 3 vI 4 213 [(1, .int x1), (2, .int x2)] [.int t0, .ref (G.2 + 208)] M (f_Md_factor_b213 x1 x2 t0 M) := by
  unfold f_Md_factor_b213
  refine V_iload_n C0 2 rfl 1 rfl dX7_factor_213 ?_
  refine V_ifeq C0 224 dX7_factor_214 (by decide) (fun _ => ?_) (fun _ => ?_)
  · refine V_iload_n C0 1 rfl 0 rfl dX7_factor_224 ?_
    refine V_bipush C0 dX7_factor_225 bp_65 ?_
    refine V_isub C0 dX7_factor_227 ?_
    exact V_sub [] rfl (f_Md_factor_b228_ok C0 (x1 - 65) t0 M)
  · refine V_iload_n C0 1 rfl 0 rfl dX7_factor_217 ?_
    refine V_bipush C0 dX7_factor_218 bp_97 ?_
    refine V_isub C0 dX7_factor_220 ?_
    refine V_goto C0 228 dX7_factor_221 (by decide) ?_
    exact V_sub [] rfl (f_Md_factor_b228_ok C0 (x1 - 97) t0 M)
set_option maxRecDepth 100000 in
set_option maxHeartbeats 4000000 in
theorem f_Md_factor_b161_ok {X : XT} {G : GT} (C0 : Cx X G cX7_factor 4 RX7 (some .boolean)) (x1 : Int32) (x2 : Int32) (M : Mem) : V X G 3 vI 4 161 [(0, .ref (G.2 + 208)), (1, .int x1), (2, .int x2)] [] M (f_Md_factor_b161 x1 x2 M) := by
  unfold f_Md_factor_b161
  refine V_aload_n C0 0 rfl 0 rfl dX7_factor_161 ?_
  refine g7_101 C0 dX7_factor_162 ?_
  refine V_bipush C0 dX7_factor_165 bp_30 ?_
  refine V_icmpne C0 172 dX7_factor_167 (by decide) (fun _ => ?_) (fun _ => ?_)
  · refine V_aload_n C0 0 rfl 0 rfl dX7_factor_172 ?_
    refine V_iconst C0 dX7_factor_173 ic_1 ?_
    refine p7_126 C0 dX7_factor_174 (fun M1 => ?_)
    refine V_iload_n C0 1 rfl 1 rfl dX7_factor_177 ?_
    refine V_bipush C0 dX7_factor_178 bp_48 ?_
    refine V_bipush C0 dX7_factor_180 bp_57 ?_
    refine k7_75 C0 (by decide) (fun lq rq Mq hh => mc_f_Md_in lq x1 48 57 M1 rq Mq  hh) (Nat.le_of_ble_eq_true rfl) dX7_factor_182 (fun r2 M2 => ?_)
    refine V_ifeq C0 193 dX7_factor_185 (by decide) (fun _ => ?_) (fun _ => ?_)
    · refine V_aload_n C0 0 rfl 0 rfl dX7_factor_193 ?_
      refine V_dup C0 rfl dX7_factor_194 ?_
      refine g7_84 C0 dX7_factor_195 ?_
      refine V_iconst C0 dX7_factor_198 ic_1 ?_
      refine V_iadd C0 dX7_factor_199 ?_
      refine p7_84 C0 dX7_factor_200 (fun M3 => ?_)
      refine V_aload_n C0 0 rfl 0 rfl dX7_factor_203 ?_
      refine V_iload_n C0 2 rfl 2 rfl dX7_factor_204 ?_
      refine V_ifeq C0 212 dX7_factor_205 (by decide) (fun _ => ?_) (fun _ => ?_)
      · refine V_iconst C0 dX7_factor_212 ic_2 ?_
        exact V_sub [1, 2] rfl (f_Md_factor_b213_ok C0 x1 x2 2 M3)
      · refine V_iconst C0 dX7_factor_208 ic_1 ?_
        refine V_goto C0 213 dX7_factor_209 (by decide) ?_
        exact V_sub [1, 2] rfl (f_Md_factor_b213_ok C0 x1 x2 1 M3)
    · refine V_aload_n C0 0 rfl 0 rfl dX7_factor_188 ?_
      refine k7_130 C0 (by decide) (fun lq rq Mq hh => mc_f_Md_number lq  M2 rq Mq  hh) (Nat.le_of_ble_eq_true rfl) dX7_factor_189 (fun r4 M4 => ?_)
      exact V_zret C0 dX7_factor_192
  · refine V_iconst C0 dX7_factor_170 ic_0 ?_
    exact V_zret C0 dX7_factor_171
set_option maxRecDepth 100000 in
set_option maxHeartbeats 4000000 in
theorem f_Md_factor_b141_ok {X : XT} {G : GT} (C0 : Cx X G cX7_factor 4 RX7 (some .boolean)) (x1 : Int32) (x2 : Int32) (t0 : Int32) (M : Mem) : V X G 3 vI 4 141 [(0, .ref (G.2 + 208)), (1, .int x1), (2, .int x2)] [.int t0] M (f_Md_factor_b141 x1 x2 t0 M) := by
  unfold f_Md_factor_b141
  refine V_istore_n C0 3 [(3, .int t0), (0, .ref (G.2 + 208)), (1, .int x1), (2, .int x2)] rfl (by decide) rfl dX7_factor_141 ?_
  refine V_iload_n C0 2 rfl 3 rfl dX7_factor_142 ?_
  refine V_ifne C0 161 dX7_factor_143 (by decide) (fun _ => ?_) (fun _ => ?_)
  · exact V_sub [1, 2, 3] rfl (f_Md_factor_b161_ok C0 x1 x2 M)
  · refine V_iload_n C0 3 rfl 0 rfl dX7_factor_146 ?_
    refine V_ifne C0 161 dX7_factor_147 (by decide) (fun _ => ?_) (fun _ => ?_)
    · exact V_sub [1, 2, 3] rfl (f_Md_factor_b161_ok C0 x1 x2 M)
    · refine V_iload_n C0 1 rfl 2 rfl dX7_factor_150 ?_
      refine V_bipush C0 dX7_factor_151 bp_48 ?_
      refine V_bipush C0 dX7_factor_153 bp_57 ?_
      refine k7_75 C0 (by decide) (fun lq rq Mq hh => mc_f_Md_in lq x1 48 57 M rq Mq  hh) (Nat.le_of_ble_eq_true rfl) dX7_factor_155 (fun r1 M1 => ?_)
      refine V_ifeq C0 170 dX7_factor_158 (by decide) (fun _ => ?_) (fun _ => ?_)
      · refine V_iconst C0 dX7_factor_170 ic_0 ?_
        exact V_zret C0 dX7_factor_171
      · exact V_sub [1, 2, 3] rfl (f_Md_factor_b161_ok C0 x1 x2 M1)
set_option maxRecDepth 100000 in
set_option maxHeartbeats 4000000 in
theorem f_Md_factor_b140_ok {X : XT} {G : GT} (C0 : Cx X G cX7_factor 4 RX7 (some .boolean)) (x1 : Int32) (x2 : Int32) (M : Mem) : V X G 3 vI 4 140 [(0, .ref (G.2 + 208)), (1, .int x1), (2, .int x2)] [] M (f_Md_factor_b140 x1 x2 M) := by
  unfold f_Md_factor_b140
  refine V_iconst C0 dX7_factor_140 ic_0 ?_
  exact V_sub [0, 1, 2] rfl (f_Md_factor_b141_ok C0 x1 x2 0 M)
set_option maxRecDepth 100000 in
set_option maxHeartbeats 4000000 in
theorem mc_f_Md_factor {G : GT} (l : Launch) (M : Mem) (r : Int32) (M1 : Mem) (ho : f_Md_factor  M = some (r, M1)) : MC l G yX7_factor cX7_factor 4 (some .boolean) 3 [.ref (G.2 + 208)] M (vI r) M1 :=
  MC.ofV (own := RX7) (lv := [(0, .ref (G.2 + 208))]) (by decide +kernel) rfl rfl (Nat.le_of_ble_eq_true rfl) ho (fun X hX C0 => by
    unfold f_Md_factor
    refine V_aload_n C0 0 rfl 0 rfl dX7_factor_0 ?_
    refine k7_118 C0 (by decide) (fun lq rq Mq hh => mc_f_Md_here lq  M rq Mq  hh) (Nat.le_of_ble_eq_true rfl) dX7_factor_1 (fun r1 M1 => ?_)
    refine V_istore_n C0 1 [(1, .int r1), (0, .ref (G.2 + 208))] rfl (by decide) rfl dX7_factor_4 ?_
    refine V_aload_n C0 0 rfl 1 rfl dX7_factor_5 ?_
    refine V_iconst C0 dX7_factor_6 ic_0 ?_
    refine p7_126 C0 dX7_factor_7 (fun M2 => ?_)
    refine V_iload_n C0 1 rfl 0 rfl dX7_factor_10 ?_
    refine V_bipush C0 dX7_factor_11 bp_40 ?_
    refine V_icmpeq C0 22 dX7_factor_13 (by decide) (fun _ => ?_) (fun _ => ?_)
    · exact V_sub [1, 0] rfl (f_Md_factor_b22_ok C0 r1 M2)
    · refine V_iload_n C0 1 rfl 0 rfl dX7_factor_16 ?_
      refine V_bipush C0 dX7_factor_17 bp_33 ?_
      refine V_icmpne C0 110 dX7_factor_19 (by decide) (fun _ => ?_) (fun _ => ?_)
      · refine V_iload_n C0 1 rfl 0 rfl dX7_factor_110 ?_
        refine V_bipush C0 dX7_factor_111 bp_97 ?_
        refine V_bipush C0 dX7_factor_113 bp_104 ?_
        refine k7_75 C0 (by decide) (fun lq rq Mq hh => mc_f_Md_in lq r1 97 104 M2 rq Mq  hh) (Nat.le_of_ble_eq_true rfl) dX7_factor_115 (fun r3 M3 => ?_)
        refine V_istore_n C0 2 [(2, .int r3), (1, .int r1), (0, .ref (G.2 + 208))] rfl (by decide) rfl dX7_factor_118 ?_
        refine V_iload_n C0 1 rfl 1 rfl dX7_factor_119 ?_
        refine V_bipush C0 dX7_factor_120 bp_65 ?_
        refine V_icmplt C0 140 dX7_factor_122 (by decide) (fun _ => ?_) (fun _ => ?_)
        · exact V_sub [2, 1, 0] rfl (f_Md_factor_b140_ok C0 r1 r3 M3)
        · refine V_iload_n C0 1 rfl 1 rfl dX7_factor_125 ?_
          refine V_bipush C0 dX7_factor_126 bp_65 ?_
          refine V_aload_n C0 0 rfl 2 rfl dX7_factor_128 ?_
          refine g7_88 C0 dX7_factor_129 ?_
          refine V_iadd C0 dX7_factor_132 ?_
          refine V_icmpge C0 140 dX7_factor_133 (by decide) (fun _ => ?_) (fun _ => ?_)
          · exact V_sub [2, 1, 0] rfl (f_Md_factor_b140_ok C0 r1 r3 M3)
          · refine V_iconst C0 dX7_factor_136 ic_1 ?_
            refine V_goto C0 141 dX7_factor_137 (by decide) ?_
            exact V_sub [2, 1, 0] rfl (f_Md_factor_b141_ok C0 r1 r3 1 M3)
      · exact V_sub [1, 0] rfl (f_Md_factor_b22_ok C0 r1 M2))
set_option maxRecDepth 100000 in
set_option maxHeartbeats 4000000 in
theorem f_Md_fewest_b2_ok {X : XT} {G : GT} (C0 : Cx X G cX7_fewest 2 RX7 (some .int)) : ∀ (n : Nat) (x1 : Int32) (M : Mem), V X G 0 vI 2 2 [(0, .ref (G.2 + 208)), (1, .int x1)] [] M (f_Md_fewest_b2 n x1 M) := by
  intro n
  induction n with
  | zero =>
    intros
    exact V_none
  | succ n ih =>
    intro x1 M
    rw [f_Md_fewest_b2]
    refine V_aload_n C0 0 rfl 0 rfl dX7_fewest_2 ?_
    refine g7_68 C0 dX7_fewest_3 ?_
    refine V_iload_n C0 1 rfl 1 rfl dX7_fewest_6 ?_
    refine V_iald C0 1170 s228 n228 dX7_fewest_7 ?_
    refine V_ifne C0 17 dX7_fewest_8 (by decide) (fun _ => ?_) (fun _ => ?_)
    · refine V_iload_n C0 1 rfl 1 rfl dX7_fewest_17 ?_
      exact V_iret C0 dX7_fewest_18
    · refine V_iincB C0 1 1 (fun y1 => [(1, .int y1), (0, .ref (G.2 + 208))]) rfl ic_1 (by decide) (fun _ => rfl) dX7_fewest_11 (fun y1 => ?_)
      refine V_goto C0 2 dX7_fewest_14 (by decide) ?_
      exact V_sub [1, 0] rfl (ih y1 M)
set_option maxRecDepth 100000 in
set_option maxHeartbeats 4000000 in
theorem mc_f_Md_fewest {G : GT} (l : Launch) (M : Mem) (r : Int32) (M1 : Mem) (ho : f_Md_fewest  M = some (r, M1)) : MC l G yX7_fewest cX7_fewest 2 (some .int) 0 [.ref (G.2 + 208)] M (vI r) M1 :=
  MC.ofV (own := RX7) (lv := [(0, .ref (G.2 + 208))]) (by decide +kernel) rfl rfl (Nat.le_of_ble_eq_true rfl) ho (fun X hX C0 => by
    unfold f_Md_fewest
    refine V_iconst C0 dX7_fewest_0 ic_1 ?_
    refine V_istore_n C0 1 [(1, .int 1), (0, .ref (G.2 + 208))] rfl (by decide) rfl dX7_fewest_1 ?_
    exact V_sub [1, 0] rfl (f_Md_fewest_b2_ok C0 FU 1 M))
set_option maxRecDepth 100000 in
set_option maxHeartbeats 4000000 in
theorem mc_f_Md_isFormula {G : GT} (l : Launch) (x1 : Int32) (M : Mem) (r : Int32) (M1 : Mem) (ho : f_Md_isFormula x1 M = some (r, M1)) : MC l G yX7_isFormula cX7_isFormula 2 (some .boolean) 0 [.ref (G.2 + 208), .int x1] M (vI r) M1 :=
  MC.ofV (own := RX7) (lv := [(0, .ref (G.2 + 208)), (1, .int x1)]) (by decide +kernel) rfl rfl (Nat.le_of_ble_eq_true rfl) ho (fun X hX C0 => by
    unfold f_Md_isFormula
    refine V_iload_n C0 1 rfl 1 rfl dX7_isFormula_0 ?_
    refine V_iflt C0 18 dX7_isFormula_1 (by decide) (fun _ => ?_) (fun _ => ?_)
    · refine V_iconst C0 dX7_isFormula_18 ic_0 ?_
      exact V_zret C0 dX7_isFormula_19
    · refine V_iload_n C0 1 rfl 1 rfl dX7_isFormula_4 ?_
      refine V_aload_n C0 0 rfl 0 rfl dX7_isFormula_5 ?_
      refine g7_7 C0 dX7_isFormula_6 ?_
      refine V_iconst C0 dX7_isFormula_9 ic_0 ?_
      refine V_iald C0 376 s209 n209 dX7_isFormula_10 ?_
      refine V_icmpge C0 18 dX7_isFormula_11 (by decide) (fun _ => ?_) (fun _ => ?_)
      · refine V_iconst C0 dX7_isFormula_18 ic_0 ?_
        exact V_zret C0 dX7_isFormula_19
      · refine V_iconst C0 dX7_isFormula_14 ic_1 ?_
        refine V_goto C0 19 dX7_isFormula_15 (by decide) ?_
        exact V_zret C0 dX7_isFormula_19)
set_option maxRecDepth 100000 in
set_option maxHeartbeats 4000000 in
theorem f_Md_uses_b20_ok {X : XT} {G : GT} (C0 : Cx X G cX7_uses 5 RX7 (some .int)) (k4 : Int32 → Int32 → Int32 → Mem → Option (Int32 × Mem)) (hk4 : ∀ (x1 : Int32) (x2 : Int32) (x3 : Int32) (M : Mem), V X G 0 vI 5 4 [(0, .ref (G.2 + 208)), (1, .int x1), (2, .int x2), (3, .int x3)] [] M (k4 x1 x2 x3 M)) : ∀ (n : Nat) (x1 : Int32) (x2 : Int32) (x3 : Int32) (x4 : Int32) (M : Mem), V X G 0 vI 5 20 [(0, .ref (G.2 + 208)), (1, .int x1), (2, .int x2), (3, .int x3), (4, .int x4)] [] M (f_Md_uses_b20 k4 n x1 x2 x3 x4 M) := by
  intro n
  induction n with
  | zero =>
    intros
    exact V_none
  | succ n ih =>
    intro x1 x2 x3 x4 M
    rw [f_Md_uses_b20]
    refine V_iload C0 4 4 rfl dX7_uses_20 ?_
    refine V_bipush C0 dX7_uses_22 bp_90 ?_
    refine V_iload_n C0 3 rfl 3 rfl dX7_uses_24 ?_
    refine V_imul C0 dX7_uses_25 ?_
    refine V_aload_n C0 0 rfl 0 rfl dX7_uses_26 ?_
    refine g7_49 C0 dX7_uses_27 ?_
    refine V_iload_n C0 3 rfl 3 rfl dX7_uses_30 ?_
    refine V_iald C0 6 s222 n222 dX7_uses_31 ?_
    refine V_iadd C0 dX7_uses_32 ?_
    refine V_icmpge C0 81 dX7_uses_33 (by decide) (fun _ => ?_) (fun _ => ?_)
    · refine V_iincB C0 3 3 (fun y1 => [(3, .int y1), (0, .ref (G.2 + 208)), (1, .int x1), (2, .int x2), (4, .int x4)]) rfl ic_1 (by decide) (fun _ => rfl) dX7_uses_81 (fun y1 => ?_)
      refine V_goto C0 4 dX7_uses_84 (by decide) ?_
      exact V_sub [1, 2, 3, 0] rfl (hk4 x1 x2 y1 M)
    · refine V_aload_n C0 0 rfl 0 rfl dX7_uses_36 ?_
      refine g7_52 C0 dX7_uses_37 ?_
      refine V_iload_n C0 3 rfl 3 rfl dX7_uses_40 ?_
      refine V_zald C0 6 s223 n223 dX7_uses_41 ?_
      refine V_ifne C0 81 dX7_uses_42 (by decide) (fun _ => ?_) (fun _ => ?_)
      · refine V_iincB C0 3 3 (fun y2 => [(3, .int y2), (0, .ref (G.2 + 208)), (1, .int x1), (2, .int x2), (4, .int x4)]) rfl ic_1 (by decide) (fun _ => rfl) dX7_uses_81 (fun y2 => ?_)
        refine V_goto C0 4 dX7_uses_84 (by decide) ?_
        exact V_sub [1, 2, 3, 0] rfl (hk4 x1 x2 y2 M)
      · refine V_iload_n C0 2 rfl 2 rfl dX7_uses_45 ?_
        refine V_aload_n C0 0 rfl 0 rfl dX7_uses_46 ?_
        refine g7_31 C0 dX7_uses_47 ?_
        refine V_iload C0 4 4 rfl dX7_uses_50 ?_
        refine V_iald C0 540 s216 n216 dX7_uses_52 ?_
        refine V_iconst C0 dX7_uses_53 ic_2 ?_
        refine V_icmpne C0 72 dX7_uses_54 (by decide) (fun _ => ?_) (fun _ => ?_)
        · refine V_iconst C0 dX7_uses_72 ic_0 ?_
          refine V_iadd C0 dX7_uses_73 ?_
          refine V_bi (fun y3 => ?_)
          refine V_istore_n C0 2 [(2, .int y3), (0, .ref (G.2 + 208)), (1, .int x1), (3, .int x3), (4, .int x4)] rfl (by decide) rfl dX7_uses_74 ?_
          refine V_iincB C0 4 4 (fun y4 => [(4, .int y4), (2, .int y3), (0, .ref (G.2 + 208)), (1, .int x1), (3, .int x3)]) rfl ic_1 (by decide) (fun _ => rfl) dX7_uses_75 (fun y4 => ?_)
          refine V_goto C0 20 dX7_uses_78 (by decide) ?_
          exact V_sub [2, 3, 1, 4, 0] rfl (ih x1 y3 x3 y4 M)
        · refine V_aload_n C0 0 rfl 0 rfl dX7_uses_57 ?_
          refine g7_34 C0 dX7_uses_58 ?_
          refine V_iload C0 4 4 rfl dX7_uses_61 ?_
          refine V_iald C0 540 s217 n217 dX7_uses_63 ?_
          refine V_iload_n C0 1 rfl 1 rfl dX7_uses_64 ?_
          refine V_icmpne C0 72 dX7_uses_65 (by decide) (fun _ => ?_) (fun _ => ?_)
          · refine V_iconst C0 dX7_uses_72 ic_0 ?_
            refine V_iadd C0 dX7_uses_73 ?_
            refine V_bi (fun y5 => ?_)
            refine V_istore_n C0 2 [(2, .int y5), (0, .ref (G.2 + 208)), (1, .int x1), (3, .int x3), (4, .int x4)] rfl (by decide) rfl dX7_uses_74 ?_
            refine V_iincB C0 4 4 (fun y6 => [(4, .int y6), (2, .int y5), (0, .ref (G.2 + 208)), (1, .int x1), (3, .int x3)]) rfl ic_1 (by decide) (fun _ => rfl) dX7_uses_75 (fun y6 => ?_)
            refine V_goto C0 20 dX7_uses_78 (by decide) ?_
            exact V_sub [2, 3, 1, 4, 0] rfl (ih x1 y5 x3 y6 M)
          · refine V_iconst C0 dX7_uses_68 ic_1 ?_
            refine V_goto C0 73 dX7_uses_69 (by decide) ?_
            refine V_iadd C0 dX7_uses_73 ?_
            refine V_bi (fun y7 => ?_)
            refine V_istore_n C0 2 [(2, .int y7), (0, .ref (G.2 + 208)), (1, .int x1), (3, .int x3), (4, .int x4)] rfl (by decide) rfl dX7_uses_74 ?_
            refine V_iincB C0 4 4 (fun y8 => [(4, .int y8), (2, .int y7), (0, .ref (G.2 + 208)), (1, .int x1), (3, .int x3)]) rfl ic_1 (by decide) (fun _ => rfl) dX7_uses_75 (fun y8 => ?_)
            refine V_goto C0 20 dX7_uses_78 (by decide) ?_
            exact V_sub [2, 3, 1, 4, 0] rfl (ih x1 y7 x3 y8 M)
set_option maxRecDepth 100000 in
set_option maxHeartbeats 4000000 in
theorem f_Md_uses_b4_ok {X : XT} {G : GT} (C0 : Cx X G cX7_uses 5 RX7 (some .int)) : ∀ (n : Nat) (x1 : Int32) (x2 : Int32) (x3 : Int32) (M : Mem), V X G 0 vI 5 4 [(0, .ref (G.2 + 208)), (1, .int x1), (2, .int x2), (3, .int x3)] [] M (f_Md_uses_b4 n x1 x2 x3 M) := by
  intro n
  induction n with
  | zero =>
    intros
    exact V_none
  | succ n ih =>
    intro x1 x2 x3 M
    rw [f_Md_uses_b4]
    refine V_iload_n C0 3 rfl 3 rfl dX7_uses_4 ?_
    refine V_aload_n C0 0 rfl 0 rfl dX7_uses_5 ?_
    refine g7_7 C0 dX7_uses_6 ?_
    refine V_iconst C0 dX7_uses_9 ic_0 ?_
    refine V_iald C0 376 s209 n209 dX7_uses_10 ?_
    refine V_icmpge C0 87 dX7_uses_11 (by decide) (fun _ => ?_) (fun _ => ?_)
    · refine V_iload_n C0 2 rfl 2 rfl dX7_uses_87 ?_
      exact V_iret C0 dX7_uses_88
    · refine V_bipush C0 dX7_uses_14 bp_90 ?_
      refine V_iload_n C0 3 rfl 3 rfl dX7_uses_16 ?_
      refine V_imul C0 dX7_uses_17 ?_
      refine V_bi (fun y1 => ?_)
      refine V_istore C0 4 [(4, .int y1), (0, .ref (G.2 + 208)), (1, .int x1), (2, .int x2), (3, .int x3)] (by decide) rfl dX7_uses_18 ?_
      exact V_sub [1, 2, 3, 4, 0] rfl (f_Md_uses_b20_ok C0 (f_Md_uses_b4 n) ih FU x1 x2 x3 y1 M)
set_option maxRecDepth 100000 in
set_option maxHeartbeats 4000000 in
theorem mc_f_Md_uses {G : GT} (l : Launch) (x1 : Int32) (M : Mem) (r : Int32) (M1 : Mem) (ho : f_Md_uses x1 M = some (r, M1)) : MC l G yX7_uses cX7_uses 5 (some .int) 0 [.ref (G.2 + 208), .int x1] M (vI r) M1 :=
  MC.ofV (own := RX7) (lv := [(0, .ref (G.2 + 208)), (1, .int x1)]) (by decide +kernel) rfl rfl (Nat.le_of_ble_eq_true rfl) ho (fun X hX C0 => by
    unfold f_Md_uses
    refine V_iconst C0 dX7_uses_0 ic_0 ?_
    refine V_istore_n C0 2 [(2, .int 0), (0, .ref (G.2 + 208)), (1, .int x1)] rfl (by decide) rfl dX7_uses_1 ?_
    refine V_iconst C0 dX7_uses_2 ic_0 ?_
    refine V_istore_n C0 3 [(3, .int 0), (2, .int 0), (0, .ref (G.2 + 208)), (1, .int x1)] rfl (by decide) rfl dX7_uses_3 ?_
    exact V_sub [2, 3, 1, 0] rfl (f_Md_uses_b4_ok C0 FU x1 0 0 M))
