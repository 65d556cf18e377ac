/-! the law's loop -/
theorem law_stop {k L : Nat} (h1 : 4 * k ≤ L) (hL : L ≤ 2048) : (Int32.ofNat L - 4 < nI (4 * k)) ↔ L < 4 * k + 4 := by
  rw [show Int32.ofNat L = nI L from rfl]
  rcases Nat.lt_or_ge L 4 with h | h
  · have hk : k = 0 := by omega
    subst hk
    refine ⟨fun _ => by omega, fun _ => ?_⟩
    rcases (show L = 0 ∨ L = 1 ∨ L = 2 ∨ L = 3 by omega) with q | q | q | q <;> subst q <;> decide +kernel
  · rw [show (4 : Int32) = nI 4 from rfl, nI_sb h, nI_ltI (by omega) (by omega)]
    omega
section LLOOP
variable {p : Program} {l : Launch} {e : Env} {s : State} {m : MethodId} {below : List Frame} {meth : Method} {c : Code} {cells slots : Nat} {G : GT} {b L : Nat} {xs : Nat → Int32}
set_option maxHeartbeats 4000000 in
theorem law_loop (C0 : CL p s m #[Value.ref b] meth c G b L xs) (hr : meth.sig.returnType = ret) (hlocks : meth.locks = false) (hL : L ≤ 2048) (hf : cells ≤ 600000 ∧ slots ≤ 7302250) : ∀ n k, L < 4 * k + 4 * n → 4 * k ≤ L → ∀ (H : Heap) (locs : List Loc) (ls : Array Slot) (M : Mem) (st : S3), Rep G M H → InvL M st → va_S (fun q => G.2 ≤ q) s.heap H locs → lv_has ls 4 [(3, .int (nI (4 * k))), (2, .ref (G.2 + 208)), (1, .ref (G.2 + 0)), (0, .ref b)] →
    W p l e room_1 s m #[Value.ref b] below meth c H locs cells slots (lw_Z below #[Value.ref b] s) (F0 m 18 ls []) := by
  obtain ⟨hx, hb, hml, hown, hts, hK, hX, hbl, hsz⟩ := id C0
  have hbA : ¬ (fun q : Nat => G.2 ≤ q) b := Nat.not_le.mpr (by rw [← hsz]; exact hbl)
  intro n
  induction n with
  | zero => intro k h1 h2; omega
  | succ n ih =>
    intro k h1 h2 H locs ls M st hR hI hS hl
    refine lv_iload_n hx hb dL_law_18 rfl (lv_at hl 0 rfl) ?_
    refine lv_aload_n hx hb dL_law_19 rfl (lv_at hl 3 rfl) ?_
    refine va_slen hx hb hX hbl hbA hS dL_law_20 ?_
    refine lv_iconst (v := 4) hx hb dL_law_21 (by decide) ?_
    refine lv_isub hx hb dL_law_22 ?_
    refine lv_icmp_gt (tgt := 533) hx hb dL_law_23 (by decide) (fun _ => ?_) (fun c1 => ?_)
    · refine lv_iconst (v := 1) hx hb dL_law_533 (by decide) ?_
      refine va_forget (fun q hq => by rw [hsz]; exact hS.2.2 q hq) ?_
      refine W.widen hf.1 hf.2 ?_
      exact lw_ret hx hb hr hlocks dL_law_534
    · have h4 : 4 * k + 4 ≤ L := by
        rw [law_stop h2 hL] at c1
        omega
      have kk : ∀ (H1 : Heap) (locs1 : List Loc) (M1 : Mem) (s1 : S3), Rep G M1 H1 → InvL M1 s1 → va_S (fun q => G.2 ≤ q) s.heap H1 locs1 → W p l e room_1 s m #[Value.ref b] below meth c H1 locs1 cells slots (lw_Z below #[Value.ref b] s) (F0 m 527 ls []) := by
        intro H1 locs1 M1 s1 hR1 hI1 hS1
        refine lv_iinc (k := 0) (v := nI (4 * (k + 1))) (lv' := [(3, .int (nI (4 * (k + 1)))), (2, .ref (G.2 + 208)), (1, .ref (G.2 + 0)), (0, .ref b)]) hx hb dL_law_527 hl rfl (nI_add (4 * k) 4) (by decide) rfl (fun ls hl => ?_)
        refine lv_goto (tgt := 18) hx hb dL_law_530 (by decide) ?_
        exact ih (k + 1) (by omega) (by omega) H1 locs1 ls M1 s1 hR1 hI1 hS1 hl
      refine lv_aload_n hx hb dL_law_26 rfl (lv_at hl 3 rfl) ?_
      refine lv_iload_n hx hb dL_law_27 rfl (lv_at hl 0 rfl) ?_
      refine va_sld hx hb hX hbl hbA hS (vp_in_nI (by omega) (by omega)) dL_law_28 ?_
      refine lv_bipush (v := 31) hx hb dL_law_29 (by decide) ?_
      refine lv_iand hx hb dL_law_31 ?_
      generalize xs (nI (4 * k)).toNatClampNeg &&& 31 = v
      by_cases c0 : v = 0
      · subst c0
        exact lv_tableIn (tgt := 116) hx hb dL_law_32 (by decide) (by decide) rfl (by decide) (lc_append C0 h4 hL hR hI hS hl hf kk)
      by_cases c1 : v = 1
      · subst c1
        exact lv_tableIn (tgt := 139) hx hb dL_law_32 (by decide) (by decide) rfl (by decide) (lc_clearText C0 h4 hL hR hI hS hl hf kk)
      by_cases c2 : v = 2
      · subst c2
        exact lv_tableIn (tgt := 152) hx hb dL_law_32 (by decide) (by decide) rfl (by decide) (lc_read C0 h4 hL hR hI hS hl hf kk)
      by_cases c3 : v = 3
      · subst c3
        exact lv_tableIn (tgt := 165) hx hb dL_law_32 (by decide) (by decide) rfl (by decide) (lc_turn C0 h4 hL hR hI hS hl hf kk)
      by_cases c4 : v = 4
      · subst c4
        exact lv_tableIn (tgt := 198) hx hb dL_law_32 (by decide) (by decide) rfl (by decide) (lc_setCell C0 h4 hL hR hI hS hl hf kk)
      by_cases c5 : v = 5
      · subst c5
        exact lv_tableIn (tgt := 231) hx hb dL_law_32 (by decide) (by decide) rfl (by decide) (lc_setPlaces C0 h4 hL hR hI hS hl hf kk)
      by_cases c6 : v = 6
      · subst c6
        exact lv_tableIn (tgt := 254) hx hb dL_law_32 (by decide) (by decide) rfl (by decide) (lc_undo C0 h4 hL hR hI hS hl hf kk)
      by_cases c7 : v = 7
      · subst c7
        exact lv_tableIn (tgt := 267) hx hb dL_law_32 (by decide) (by decide) rfl (by decide) (lc_count C0 h4 hL hR hI hS hl hf kk)
      by_cases c8 : v = 8
      · subst c8
        exact lv_tableIn (tgt := 290) hx hb dL_law_32 (by decide) (by decide) rfl (by decide) (lc_formula C0 h4 hL hR hI hS hl hf kk)
      by_cases c9 : v = 9
      · subst c9
        exact lv_tableIn (tgt := 323) hx hb dL_law_32 (by decide) (by decide) rfl (by decide) (lc_node C0 h4 hL hR hI hS hl hf kk)
      by_cases c10 : v = 10
      · subst c10
        exact lv_tableIn (tgt := 366) hx hb dL_law_32 (by decide) (by decide) rfl (by decide) (lc_cell C0 h4 hL hR hI hS hl hf kk)
      by_cases c11 : v = 11
      · subst c11
        exact lv_tableIn (tgt := 389) hx hb dL_law_32 (by decide) (by decide) rfl (by decide) (lc_plan C0 h4 hL hR hI hS hl hf kk)
      by_cases c12 : v = 12
      · subst c12
        exact lv_tableIn (tgt := 412) hx hb dL_law_32 (by decide) (by decide) rfl (by decide) (lc_step C0 h4 hL hR hI hS hl hf kk)
      by_cases c13 : v = 13
      · subst c13
        exact lv_tableIn (tgt := 445) hx hb dL_law_32 (by decide) (by decide) rfl (by decide) (lc_costWith C0 h4 hL hR hI hS hl hf kk)
      by_cases c14 : v = 14
      · subst c14
        exact lv_tableIn (tgt := 468) hx hb dL_law_32 (by decide) (by decide) rfl (by decide) (lc_enough C0 h4 hL hR hI hS hl hf kk)
      by_cases c15 : v = 15
      · subst c15
        exact lv_tableIn (tgt := 481) hx hb dL_law_32 (by decide) (by decide) rfl (by decide) (lc_proved C0 h4 hL hR hI hS hl hf kk)
      by_cases c16 : v = 16
      · subst c16
        exact lv_tableIn (tgt := 504) hx hb dL_law_32 (by decide) (by decide) rfl (by decide) (lc_ways C0 h4 hL hR hI hS hl hf kk)
      refine lv_tableOut (tgt := 527) hx hb dL_law_32 (by have hz0 := lv_neT c0 (a := 0) rfl; have hz1 := lv_neT c1 (a := 1) rfl; have hz2 := lv_neT c2 (a := 2) rfl; have hz3 := lv_neT c3 (a := 3) rfl; have hz4 := lv_neT c4 (a := 4) rfl; have hz5 := lv_neT c5 (a := 5) rfl; have hz6 := lv_neT c6 (a := 6) rfl; have hz7 := lv_neT c7 (a := 7) rfl; have hz8 := lv_neT c8 (a := 8) rfl; have hz9 := lv_neT c9 (a := 9) rfl; have hz10 := lv_neT c10 (a := 10) rfl; have hz11 := lv_neT c11 (a := 11) rfl; have hz12 := lv_neT c12 (a := 12) rfl; have hz13 := lv_neT c13 (a := 13) rfl; have hz14 := lv_neT c14 (a := 14) rfl; have hz15 := lv_neT c15 (a := 15) rfl; have hz16 := lv_neT c16 (a := 16) rfl; omega) (by decide) ?_
      exact kk H locs M st hR hI hS
end LLOOP
