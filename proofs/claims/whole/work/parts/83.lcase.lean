/-! the law, call by call -/
section LCASE
variable {p : Program} {l : Launch} {e : Env} {s : State} {m : MethodId} {args : Array Value} {below : List Frame} {meth : Method} {c : Code} {H : Heap} {locs : List Loc} {cells slots : Nat} {Q : State → Prop} {G : GT} {b L k : Nat} {xs : Nat → Int32} {ls : Array Slot} {M : Mem} {st : S3}
set_option maxHeartbeats 1000000 in
theorem lc_append (C0 : CL p s m args meth c G b L xs) (h4 : 4 * k + 4 ≤ L) (hL : L ≤ 2048) (hR : Rep G M H) (hI : InvL M st) (hS : va_S (fun q => G.2 ≤ q) s.heap H locs) (hl : lv_has ls 4 [(3, .int (nI (4 * k))), (2, .ref (G.2 + 208)), (1, .ref (G.2 + 0)), (0, .ref b)]) (hf : cells ≤ 600000 ∧ slots ≤ 7302250)
    (kk : ∀ (H1 : Heap) (locs1 : List Loc) (M1 : Mem) (s1 : S3), Rep G M1 H1 → InvL M1 s1 → va_S (fun q => G.2 ≤ q) s.heap H1 locs1 → W p l e room_1 s m args below meth c H1 locs1 cells slots Q (F0 m 527 ls [])) : W p l e room_1 s m args below meth c H locs cells slots Q (F0 m 116 ls []) := by
  obtain ⟨hx, hb, hml, hown, hts, hK, hX, hbl, hsz⟩ := id C0
  have hbA : ¬ (fun q : Nat => G.2 ≤ q) b := Nat.not_le.mpr (by rw [← hsz]; exact hbl)
  obtain ⟨r, M1, M2, s2, e1, e2, hI2⟩ := st_append hI (xs (nI (4 * k) + 1).toNatClampNeg)
  refine lv_aload_n hx hb dL_law_116 rfl (lv_at hl 2 rfl) ?_
  refine lv_aload_n hx hb dL_law_117 rfl (lv_at hl 3 rfl) ?_
  refine lv_iload_n hx hb dL_law_118 rfl (lv_at hl 0 rfl) ?_
  refine lv_iconst (v := 1) hx hb dL_law_119 (by decide) ?_
  refine lv_iadd hx hb dL_law_120 ?_
  refine va_sld hx hb hX hbl hbA hS (lin (j := 1) (by omega) hL) dL_law_121 ?_
  refine L_call C0 hR hS 1 (ci := 6) (a := 0) (av := [.int (xs (nI (4 * k) + 1).toNatClampNeg)]) (mc_f_LP_append l _ M r _ e1) rfl (by decide) (shN6 s0) wmL_13 wiX6_append wvX6_append w0X6 wcX6_append (by decide +kernel) (by decide) rfl hl.1 (Nat.le_of_ble_eq_true rfl) rfl dL_law_122 hf (fun H locs hR hS => ?_)
  refine lv_aload_n hx hb dL_law_125 rfl (lv_at hl 1 rfl) ?_
  refine lv_aload_n hx hb dL_law_126 rfl (lv_at hl 3 rfl) ?_
  refine lv_iload_n hx hb dL_law_127 rfl (lv_at hl 0 rfl) ?_
  refine lv_iconst (v := 1) hx hb dL_law_128 (by decide) ?_
  refine lv_iadd hx hb dL_law_129 ?_
  refine va_sld hx hb hX hbl hbA hS (lin (j := 1) (by omega) hL) dL_law_130 ?_
  refine L_call C0 hR hS 1 (ci := 7) (a := 208) (av := [.int (xs (nI (4 * k) + 1).toNatClampNeg)]) (mc_f_Md_append l _ M1 r _ e2) rfl (by decide) (shN7 s208) wmL_17 wiX7_append wvX7_append w0X7 wcX7_append (by decide +kernel) (by decide) rfl hl.1 (Nat.le_of_ble_eq_true rfl) rfl dL_law_131 hf (fun H locs hR hS => ?_)
  refine lv_icmp_eq (tgt := 527) hx hb dL_law_134 (by decide) (fun _ => ?_) (fun c1 => absurd rfl c1)
  exact kk H locs M2 s2 hR hI2 hS
set_option maxHeartbeats 1000000 in
theorem lc_clearText (C0 : CL p s m args meth c G b L xs) (h4 : 4 * k + 4 ≤ L) (hL : L ≤ 2048) (hR : Rep G M H) (hI : InvL M st) (hS : va_S (fun q => G.2 ≤ q) s.heap H locs) (hl : lv_has ls 4 [(3, .int (nI (4 * k))), (2, .ref (G.2 + 208)), (1, .ref (G.2 + 0)), (0, .ref b)]) (hf : cells ≤ 600000 ∧ slots ≤ 7302250)
    (kk : ∀ (H1 : Heap) (locs1 : List Loc) (M1 : Mem) (s1 : S3), Rep G M1 H1 → InvL M1 s1 → va_S (fun q => G.2 ≤ q) s.heap H1 locs1 → W p l e room_1 s m args below meth c H1 locs1 cells slots Q (F0 m 527 ls [])) : W p l e room_1 s m args below meth c H locs cells slots Q (F0 m 139 ls []) := by
  obtain ⟨hx, hb, hml, hown, hts, hK, hX, hbl, hsz⟩ := id C0
  have hbA : ¬ (fun q : Nat => G.2 ≤ q) b := Nat.not_le.mpr (by rw [← hsz]; exact hbl)
  obtain ⟨r, M1, M2, s2, e1, e2, hI2⟩ := st_clear hI 
  refine lv_aload_n hx hb dL_law_139 rfl (lv_at hl 2 rfl) ?_
  refine L_call C0 hR hS 0 (ci := 6) (a := 0) (av := []) (mc_f_LP_clearText l  M r _ e1) rfl (by decide) (shN6 s0) wmL_18 wiX6_clearText wvX6_clearText w0X6 wcX6_clearText (by decide +kernel) (by decide) rfl hl.1 (Nat.le_of_ble_eq_true rfl) rfl dL_law_140 hf (fun H locs hR hS => ?_)
  refine lv_aload_n hx hb dL_law_143 rfl (lv_at hl 1 rfl) ?_
  refine L_call C0 hR hS 0 (ci := 7) (a := 208) (av := []) (mc_f_Md_clearText l  M1 r _ e2) rfl (by decide) (shN7 s208) wmL_22 wiX7_clearText wvX7_clearText w0X7 wcX7_clearText (by decide +kernel) (by decide) rfl hl.1 (Nat.le_of_ble_eq_true rfl) rfl dL_law_144 hf (fun H locs hR hS => ?_)
  refine lv_icmp_eq (tgt := 527) hx hb dL_law_147 (by decide) (fun _ => ?_) (fun c1 => absurd rfl c1)
  exact kk H locs M2 s2 hR hI2 hS
set_option maxHeartbeats 1000000 in
theorem lc_read (C0 : CL p s m args meth c G b L xs) (h4 : 4 * k + 4 ≤ L) (hL : L ≤ 2048) (hR : Rep G M H) (hI : InvL M st) (hS : va_S (fun q => G.2 ≤ q) s.heap H locs) (hl : lv_has ls 4 [(3, .int (nI (4 * k))), (2, .ref (G.2 + 208)), (1, .ref (G.2 + 0)), (0, .ref b)]) (hf : cells ≤ 600000 ∧ slots ≤ 7302250)
    (kk : ∀ (H1 : Heap) (locs1 : List Loc) (M1 : Mem) (s1 : S3), Rep G M1 H1 → InvL M1 s1 → va_S (fun q => G.2 ≤ q) s.heap H1 locs1 → W p l e room_1 s m args below meth c H1 locs1 cells slots Q (F0 m 527 ls [])) : W p l e room_1 s m args below meth c H locs cells slots Q (F0 m 152 ls []) := by
  obtain ⟨hx, hb, hml, hown, hts, hK, hX, hbl, hsz⟩ := id C0
  have hbA : ¬ (fun q : Nat => G.2 ≤ q) b := Nat.not_le.mpr (by rw [← hsz]; exact hbl)
  obtain ⟨r, M1, M2, s2, e1, e2, hI2⟩ := st_read hI 
  refine lv_aload_n hx hb dL_law_152 rfl (lv_at hl 2 rfl) ?_
  refine L_call C0 hR hS 0 (ci := 6) (a := 0) (av := []) (mc_f_LP_read l  M r _ e1) rfl (by decide) (shN6 s0) wmL_23 wiX6_read wvX6_read w0X6 wcX6_read (by decide +kernel) (by decide) rfl hl.1 (Nat.le_of_ble_eq_true rfl) rfl dL_law_153 hf (fun H locs hR hS => ?_)
  refine lv_aload_n hx hb dL_law_156 rfl (lv_at hl 1 rfl) ?_
  refine L_call C0 hR hS 0 (ci := 7) (a := 208) (av := []) (mc_f_Md_read l  M1 r _ e2) rfl (by decide) (shN7 s208) wmL_26 wiX7_read wvX7_read w0X7 wcX7_read (by decide +kernel) (by decide) rfl hl.1 (Nat.le_of_ble_eq_true rfl) rfl dL_law_157 hf (fun H locs hR hS => ?_)
  refine lv_icmp_eq (tgt := 527) hx hb dL_law_160 (by decide) (fun _ => ?_) (fun c1 => absurd rfl c1)
  exact kk H locs M2 s2 hR hI2 hS
set_option maxHeartbeats 1000000 in
theorem lc_turn (C0 : CL p s m args meth c G b L xs) (h4 : 4 * k + 4 ≤ L) (hL : L ≤ 2048) (hR : Rep G M H) (hI : InvL M st) (hS : va_S (fun q => G.2 ≤ q) s.heap H locs) (hl : lv_has ls 4 [(3, .int (nI (4 * k))), (2, .ref (G.2 + 208)), (1, .ref (G.2 + 0)), (0, .ref b)]) (hf : cells ≤ 600000 ∧ slots ≤ 7302250)
    (kk : ∀ (H1 : Heap) (locs1 : List Loc) (M1 : Mem) (s1 : S3), Rep G M1 H1 → InvL M1 s1 → va_S (fun q => G.2 ≤ q) s.heap H1 locs1 → W p l e room_1 s m args below meth c H1 locs1 cells slots Q (F0 m 527 ls [])) : W p l e room_1 s m args below meth c H locs cells slots Q (F0 m 165 ls []) := by
  obtain ⟨hx, hb, hml, hown, hts, hK, hX, hbl, hsz⟩ := id C0
  have hbA : ¬ (fun q : Nat => G.2 ≤ q) b := Nat.not_le.mpr (by rw [← hsz]; exact hbl)
  obtain ⟨r, M1, M2, s2, e1, e2, hI2⟩ := st_turn hI (xs (nI (4 * k) + 1).toNatClampNeg) (xs (nI (4 * k) + 2).toNatClampNeg)
  refine lv_aload_n hx hb dL_law_165 rfl (lv_at hl 2 rfl) ?_
  refine lv_aload_n hx hb dL_law_166 rfl (lv_at hl 3 rfl) ?_
  refine lv_iload_n hx hb dL_law_167 rfl (lv_at hl 0 rfl) ?_
  refine lv_iconst (v := 1) hx hb dL_law_168 (by decide) ?_
  refine lv_iadd hx hb dL_law_169 ?_
  refine va_sld hx hb hX hbl hbA hS (lin (j := 1) (by omega) hL) dL_law_170 ?_
  refine lv_aload_n hx hb dL_law_171 rfl (lv_at hl 3 rfl) ?_
  refine lv_iload_n hx hb dL_law_172 rfl (lv_at hl 0 rfl) ?_
  refine lv_iconst (v := 2) hx hb dL_law_173 (by decide) ?_
  refine lv_iadd hx hb dL_law_174 ?_
  refine va_sld hx hb hX hbl hbA hS (lin (j := 2) (by omega) hL) dL_law_175 ?_
  refine L_call C0 hR hS 2 (ci := 6) (a := 0) (av := [.int (xs (nI (4 * k) + 1).toNatClampNeg), .int (xs (nI (4 * k) + 2).toNatClampNeg)]) (mc_f_LP_turn l _ _ M r _ e1) rfl (by decide) (shN6 s0) wmL_27 wiX6_turn wvX6_turn w0X6 wcX6_turn (by decide +kernel) (by decide) rfl hl.1 (Nat.le_of_ble_eq_true rfl) rfl dL_law_176 hf (fun H locs hR hS => ?_)
  refine lv_aload_n hx hb dL_law_179 rfl (lv_at hl 1 rfl) ?_
  refine lv_aload_n hx hb dL_law_180 rfl (lv_at hl 3 rfl) ?_
  refine lv_iload_n hx hb dL_law_181 rfl (lv_at hl 0 rfl) ?_
  refine lv_iconst (v := 1) hx hb dL_law_182 (by decide) ?_
  refine lv_iadd hx hb dL_law_183 ?_
  refine va_sld hx hb hX hbl hbA hS (lin (j := 1) (by omega) hL) dL_law_184 ?_
  refine lv_aload_n hx hb dL_law_185 rfl (lv_at hl 3 rfl) ?_
  refine lv_iload_n hx hb dL_law_186 rfl (lv_at hl 0 rfl) ?_
  refine lv_iconst (v := 2) hx hb dL_law_187 (by decide) ?_
  refine lv_iadd hx hb dL_law_188 ?_
  refine va_sld hx hb hX hbl hbA hS (lin (j := 2) (by omega) hL) dL_law_189 ?_
  refine L_call C0 hR hS 2 (ci := 7) (a := 208) (av := [.int (xs (nI (4 * k) + 1).toNatClampNeg), .int (xs (nI (4 * k) + 2).toNatClampNeg)]) (mc_f_Md_turn l _ _ M1 r _ e2) rfl (by decide) (shN7 s208) wmL_31 wiX7_turn wvX7_turn w0X7 wcX7_turn (by decide +kernel) (by decide) rfl hl.1 (Nat.le_of_ble_eq_true rfl) rfl dL_law_190 hf (fun H locs hR hS => ?_)
  refine lv_icmp_eq (tgt := 527) hx hb dL_law_193 (by decide) (fun _ => ?_) (fun c1 => absurd rfl c1)
  exact kk H locs M2 s2 hR hI2 hS
set_option maxHeartbeats 1000000 in
theorem lc_setCell (C0 : CL p s m args meth c G b L xs) (h4 : 4 * k + 4 ≤ L) (hL : L ≤ 2048) (hR : Rep G M H) (hI : InvL M st) (hS : va_S (fun q => G.2 ≤ q) s.heap H locs) (hl : lv_has ls 4 [(3, .int (nI (4 * k))), (2, .ref (G.2 + 208)), (1, .ref (G.2 + 0)), (0, .ref b)]) (hf : cells ≤ 600000 ∧ slots ≤ 7302250)
    (kk : ∀ (H1 : Heap) (locs1 : List Loc) (M1 : Mem) (s1 : S3), Rep G M1 H1 → InvL M1 s1 → va_S (fun q => G.2 ≤ q) s.heap H1 locs1 → W p l e room_1 s m args below meth c H1 locs1 cells slots Q (F0 m 527 ls [])) : W p l e room_1 s m args below meth c H locs cells slots Q (F0 m 198 ls []) := by
  obtain ⟨hx, hb, hml, hown, hts, hK, hX, hbl, hsz⟩ := id C0
  have hbA : ¬ (fun q : Nat => G.2 ≤ q) b := Nat.not_le.mpr (by rw [← hsz]; exact hbl)
  obtain ⟨r, M1, M2, s2, e1, e2, hI2⟩ := st_setCell hI (xs (nI (4 * k) + 1).toNatClampNeg) (xs (nI (4 * k) + 2).toNatClampNeg)
  refine lv_aload_n hx hb dL_law_198 rfl (lv_at hl 2 rfl) ?_
  refine lv_aload_n hx hb dL_law_199 rfl (lv_at hl 3 rfl) ?_
  refine lv_iload_n hx hb dL_law_200 rfl (lv_at hl 0 rfl) ?_
  refine lv_iconst (v := 1) hx hb dL_law_201 (by decide) ?_
  refine lv_iadd hx hb dL_law_202 ?_
  refine va_sld hx hb hX hbl hbA hS (lin (j := 1) (by omega) hL) dL_law_203 ?_
  refine lv_aload_n hx hb dL_law_204 rfl (lv_at hl 3 rfl) ?_
  refine lv_iload_n hx hb dL_law_205 rfl (lv_at hl 0 rfl) ?_
  refine lv_iconst (v := 2) hx hb dL_law_206 (by decide) ?_
  refine lv_iadd hx hb dL_law_207 ?_
  refine va_sld hx hb hX hbl hbA hS (lin (j := 2) (by omega) hL) dL_law_208 ?_
  refine L_call C0 hR hS 2 (ci := 6) (a := 0) (av := [.int (xs (nI (4 * k) + 1).toNatClampNeg), .int (xs (nI (4 * k) + 2).toNatClampNeg)]) (mc_f_LP_setCell l _ _ M r _ e1) rfl (by decide) (shN6 s0) wmL_32 wiX6_setCell wvX6_setCell w0X6 wcX6_setCell (by decide +kernel) (by decide) rfl hl.1 (Nat.le_of_ble_eq_true rfl) rfl dL_law_209 hf (fun H locs hR hS => ?_)
  refine lv_aload_n hx hb dL_law_212 rfl (lv_at hl 1 rfl) ?_
  refine lv_aload_n hx hb dL_law_213 rfl (lv_at hl 3 rfl) ?_
  refine lv_iload_n hx hb dL_law_214 rfl (lv_at hl 0 rfl) ?_
  refine lv_iconst (v := 1) hx hb dL_law_215 (by decide) ?_
  refine lv_iadd hx hb dL_law_216 ?_
  refine va_sld hx hb hX hbl hbA hS (lin (j := 1) (by omega) hL) dL_law_217 ?_
  refine lv_aload_n hx hb dL_law_218 rfl (lv_at hl 3 rfl) ?_
  refine lv_iload_n hx hb dL_law_219 rfl (lv_at hl 0 rfl) ?_
  refine lv_iconst (v := 2) hx hb dL_law_220 (by decide) ?_
  refine lv_iadd hx hb dL_law_221 ?_
  refine va_sld hx hb hX hbl hbA hS (lin (j := 2) (by omega) hL) dL_law_222 ?_
  refine L_call C0 hR hS 2 (ci := 7) (a := 208) (av := [.int (xs (nI (4 * k) + 1).toNatClampNeg), .int (xs (nI (4 * k) + 2).toNatClampNeg)]) (mc_f_Md_setCell l _ _ M1 r _ e2) rfl (by decide) (shN7 s208) wmL_35 wiX7_setCell wvX7_setCell w0X7 wcX7_setCell (by decide +kernel) (by decide) rfl hl.1 (Nat.le_of_ble_eq_true rfl) rfl dL_law_223 hf (fun H locs hR hS => ?_)
  refine lv_icmp_eq (tgt := 527) hx hb dL_law_226 (by decide) (fun _ => ?_) (fun c1 => absurd rfl c1)
  exact kk H locs M2 s2 hR hI2 hS
set_option maxHeartbeats 1000000 in
theorem lc_setPlaces (C0 : CL p s m args meth c G b L xs) (h4 : 4 * k + 4 ≤ L) (hL : L ≤ 2048) (hR : Rep G M H) (hI : InvL M st) (hS : va_S (fun q => G.2 ≤ q) s.heap H locs) (hl : lv_has ls 4 [(3, .int (nI (4 * k))), (2, .ref (G.2 + 208)), (1, .ref (G.2 + 0)), (0, .ref b)]) (hf : cells ≤ 600000 ∧ slots ≤ 7302250)
    (kk : ∀ (H1 : Heap) (locs1 : List Loc) (M1 : Mem) (s1 : S3), Rep G M1 H1 → InvL M1 s1 → va_S (fun q => G.2 ≤ q) s.heap H1 locs1 → W p l e room_1 s m args below meth c H1 locs1 cells slots Q (F0 m 527 ls [])) : W p l e room_1 s m args below meth c H locs cells slots Q (F0 m 231 ls []) := by
  obtain ⟨hx, hb, hml, hown, hts, hK, hX, hbl, hsz⟩ := id C0
  have hbA : ¬ (fun q : Nat => G.2 ≤ q) b := Nat.not_le.mpr (by rw [← hsz]; exact hbl)
  obtain ⟨r, M1, M2, s2, e1, e2, hI2⟩ := st_setPlaces hI (xs (nI (4 * k) + 1).toNatClampNeg)
  refine lv_aload_n hx hb dL_law_231 rfl (lv_at hl 2 rfl) ?_
  refine lv_aload_n hx hb dL_law_232 rfl (lv_at hl 3 rfl) ?_
  refine lv_iload_n hx hb dL_law_233 rfl (lv_at hl 0 rfl) ?_
  refine lv_iconst (v := 1) hx hb dL_law_234 (by decide) ?_
  refine lv_iadd hx hb dL_law_235 ?_
  refine va_sld hx hb hX hbl hbA hS (lin (j := 1) (by omega) hL) dL_law_236 ?_
  refine L_call C0 hR hS 1 (ci := 6) (a := 0) (av := [.int (xs (nI (4 * k) + 1).toNatClampNeg)]) (mc_f_LP_setPlaces l _ M r _ e1) rfl (by decide) (shN6 s0) wmL_36 wiX6_setPlaces wvX6_setPlaces w0X6 wcX6_setPlaces (by decide +kernel) (by decide) rfl hl.1 (Nat.le_of_ble_eq_true rfl) rfl dL_law_237 hf (fun H locs hR hS => ?_)
  refine lv_aload_n hx hb dL_law_240 rfl (lv_at hl 1 rfl) ?_
  refine lv_aload_n hx hb dL_law_241 rfl (lv_at hl 3 rfl) ?_
  refine lv_iload_n hx hb dL_law_242 rfl (lv_at hl 0 rfl) ?_
  refine lv_iconst (v := 1) hx hb dL_law_243 (by decide) ?_
  refine lv_iadd hx hb dL_law_244 ?_
  refine va_sld hx hb hX hbl hbA hS (lin (j := 1) (by omega) hL) dL_law_245 ?_
  refine L_call C0 hR hS 1 (ci := 7) (a := 208) (av := [.int (xs (nI (4 * k) + 1).toNatClampNeg)]) (mc_f_Md_setPlaces l _ M1 r _ e2) rfl (by decide) (shN7 s208) wmL_39 wiX7_setPlaces wvX7_setPlaces w0X7 wcX7_setPlaces (by decide +kernel) (by decide) rfl hl.1 (Nat.le_of_ble_eq_true rfl) rfl dL_law_246 hf (fun H locs hR hS => ?_)
  refine lv_icmp_eq (tgt := 527) hx hb dL_law_249 (by decide) (fun _ => ?_) (fun c1 => absurd rfl c1)
  exact kk H locs M2 s2 hR hI2 hS
set_option maxHeartbeats 1000000 in
theorem lc_undo (C0 : CL p s m args meth c G b L xs) (h4 : 4 * k + 4 ≤ L) (hL : L ≤ 2048) (hR : Rep G M H) (hI : InvL M st) (hS : va_S (fun q => G.2 ≤ q) s.heap H locs) (hl : lv_has ls 4 [(3, .int (nI (4 * k))), (2, .ref (G.2 + 208)), (1, .ref (G.2 + 0)), (0, .ref b)]) (hf : cells ≤ 600000 ∧ slots ≤ 7302250)
    (kk : ∀ (H1 : Heap) (locs1 : List Loc) (M1 : Mem) (s1 : S3), Rep G M1 H1 → InvL M1 s1 → va_S (fun q => G.2 ≤ q) s.heap H1 locs1 → W p l e room_1 s m args below meth c H1 locs1 cells slots Q (F0 m 527 ls [])) : W p l e room_1 s m args below meth c H locs cells slots Q (F0 m 254 ls []) := by
  obtain ⟨hx, hb, hml, hown, hts, hK, hX, hbl, hsz⟩ := id C0
  have hbA : ¬ (fun q : Nat => G.2 ≤ q) b := Nat.not_le.mpr (by rw [← hsz]; exact hbl)
  obtain ⟨r, M1, M2, s2, e1, e2, hI2⟩ := st_undo hI 
  refine lv_aload_n hx hb dL_law_254 rfl (lv_at hl 2 rfl) ?_
  refine L_call C0 hR hS 0 (ci := 6) (a := 0) (av := []) (mc_f_LP_undo l  M r _ e1) rfl (by decide) (shN6 s0) wmL_40 wiX6_undo wvX6_undo w0X6 wcX6_undo (by decide +kernel) (by decide) rfl hl.1 (Nat.le_of_ble_eq_true rfl) rfl dL_law_255 hf (fun H locs hR hS => ?_)
  refine lv_aload_n hx hb dL_law_258 rfl (lv_at hl 1 rfl) ?_
  refine L_call C0 hR hS 0 (ci := 7) (a := 208) (av := []) (mc_f_Md_undo l  M1 r _ e2) rfl (by decide) (shN7 s208) wmL_43 wiX7_undo wvX7_undo w0X7 wcX7_undo (by decide +kernel) (by decide) rfl hl.1 (Nat.le_of_ble_eq_true rfl) rfl dL_law_259 hf (fun H locs hR hS => ?_)
  refine lv_icmp_eq (tgt := 527) hx hb dL_law_262 (by decide) (fun _ => ?_) (fun c1 => absurd rfl c1)
  exact kk H locs M2 s2 hR hI2 hS
set_option maxHeartbeats 1000000 in
theorem lc_count (C0 : CL p s m args meth c G b L xs) (h4 : 4 * k + 4 ≤ L) (hL : L ≤ 2048) (hR : Rep G M H) (hI : InvL M st) (hS : va_S (fun q => G.2 ≤ q) s.heap H locs) (hl : lv_has ls 4 [(3, .int (nI (4 * k))), (2, .ref (G.2 + 208)), (1, .ref (G.2 + 0)), (0, .ref b)]) (hf : cells ≤ 600000 ∧ slots ≤ 7302250)
    (kk : ∀ (H1 : Heap) (locs1 : List Loc) (M1 : Mem) (s1 : S3), Rep G M1 H1 → InvL M1 s1 → va_S (fun q => G.2 ≤ q) s.heap H1 locs1 → W p l e room_1 s m args below meth c H1 locs1 cells slots Q (F0 m 527 ls [])) : W p l e room_1 s m args below meth c H locs cells slots Q (F0 m 267 ls []) := by
  obtain ⟨hx, hb, hml, hown, hts, hK, hX, hbl, hsz⟩ := id C0
  have hbA : ¬ (fun q : Nat => G.2 ≤ q) b := Nat.not_le.mpr (by rw [← hsz]; exact hbl)
  obtain ⟨r, M1, M2, s2, e1, e2, hI2⟩ := st_count hI (xs (nI (4 * k) + 1).toNatClampNeg)
  refine lv_aload_n hx hb dL_law_267 rfl (lv_at hl 2 rfl) ?_
  refine lv_aload_n hx hb dL_law_268 rfl (lv_at hl 3 rfl) ?_
  refine lv_iload_n hx hb dL_law_269 rfl (lv_at hl 0 rfl) ?_
  refine lv_iconst (v := 1) hx hb dL_law_270 (by decide) ?_
  refine lv_iadd hx hb dL_law_271 ?_
  refine va_sld hx hb hX hbl hbA hS (lin (j := 1) (by omega) hL) dL_law_272 ?_
  refine L_call C0 hR hS 1 (ci := 6) (a := 0) (av := [.int (xs (nI (4 * k) + 1).toNatClampNeg)]) (mc_f_LP_count l _ M r _ e1) rfl (by decide) (shN6 s0) wmL_44 wiX6_count wvX6_count w0X6 wcX6_count (by decide +kernel) (by decide) rfl hl.1 (Nat.le_of_ble_eq_true rfl) rfl dL_law_273 hf (fun H locs hR hS => ?_)
  refine lv_aload_n hx hb dL_law_276 rfl (lv_at hl 1 rfl) ?_
  refine lv_aload_n hx hb dL_law_277 rfl (lv_at hl 3 rfl) ?_
  refine lv_iload_n hx hb dL_law_278 rfl (lv_at hl 0 rfl) ?_
  refine lv_iconst (v := 1) hx hb dL_law_279 (by decide) ?_
  refine lv_iadd hx hb dL_law_280 ?_
  refine va_sld hx hb hX hbl hbA hS (lin (j := 1) (by omega) hL) dL_law_281 ?_
  refine L_call C0 hR hS 1 (ci := 7) (a := 208) (av := [.int (xs (nI (4 * k) + 1).toNatClampNeg)]) (mc_f_Md_count l _ M1 r _ e2) rfl (by decide) (shN7 s208) wmL_47 wiX7_count wvX7_count w0X7 wcX7_count (by decide +kernel) (by decide) rfl hl.1 (Nat.le_of_ble_eq_true rfl) rfl dL_law_282 hf (fun H locs hR hS => ?_)
  refine lv_icmp_eq (tgt := 527) hx hb dL_law_285 (by decide) (fun _ => ?_) (fun c1 => absurd rfl c1)
  exact kk H locs M2 s2 hR hI2 hS
set_option maxHeartbeats 1000000 in
theorem lc_formula (C0 : CL p s m args meth c G b L xs) (h4 : 4 * k + 4 ≤ L) (hL : L ≤ 2048) (hR : Rep G M H) (hI : InvL M st) (hS : va_S (fun q => G.2 ≤ q) s.heap H locs) (hl : lv_has ls 4 [(3, .int (nI (4 * k))), (2, .ref (G.2 + 208)), (1, .ref (G.2 + 0)), (0, .ref b)]) (hf : cells ≤ 600000 ∧ slots ≤ 7302250)
    (kk : ∀ (H1 : Heap) (locs1 : List Loc) (M1 : Mem) (s1 : S3), Rep G M1 H1 → InvL M1 s1 → va_S (fun q => G.2 ≤ q) s.heap H1 locs1 → W p l e room_1 s m args below meth c H1 locs1 cells slots Q (F0 m 527 ls [])) : W p l e room_1 s m args below meth c H locs cells slots Q (F0 m 290 ls []) := by
  obtain ⟨hx, hb, hml, hown, hts, hK, hX, hbl, hsz⟩ := id C0
  have hbA : ¬ (fun q : Nat => G.2 ≤ q) b := Nat.not_le.mpr (by rw [← hsz]; exact hbl)
  obtain ⟨r, M1, M2, s2, e1, e2, hI2⟩ := st_formula hI (xs (nI (4 * k) + 1).toNatClampNeg) (xs (nI (4 * k) + 2).toNatClampNeg)
  refine lv_aload_n hx hb dL_law_290 rfl (lv_at hl 2 rfl) ?_
  refine lv_aload_n hx hb dL_law_291 rfl (lv_at hl 3 rfl) ?_
  refine lv_iload_n hx hb dL_law_292 rfl (lv_at hl 0 rfl) ?_
  refine lv_iconst (v := 1) hx hb dL_law_293 (by decide) ?_
  refine lv_iadd hx hb dL_law_294 ?_
  refine va_sld hx hb hX hbl hbA hS (lin (j := 1) (by omega) hL) dL_law_295 ?_
  refine lv_aload_n hx hb dL_law_296 rfl (lv_at hl 3 rfl) ?_
  refine lv_iload_n hx hb dL_law_297 rfl (lv_at hl 0 rfl) ?_
  refine lv_iconst (v := 2) hx hb dL_law_298 (by decide) ?_
  refine lv_iadd hx hb dL_law_299 ?_
  refine va_sld hx hb hX hbl hbA hS (lin (j := 2) (by omega) hL) dL_law_300 ?_
  refine L_call C0 hR hS 2 (ci := 6) (a := 0) (av := [.int (xs (nI (4 * k) + 1).toNatClampNeg), .int (xs (nI (4 * k) + 2).toNatClampNeg)]) (mc_f_LP_formula l _ _ M r _ e1) rfl (by decide) (shN6 s0) wmL_48 wiX6_formula wvX6_formula w0X6 wcX6_formula (by decide +kernel) (by decide) rfl hl.1 (Nat.le_of_ble_eq_true rfl) rfl dL_law_301 hf (fun H locs hR hS => ?_)
  refine lv_aload_n hx hb dL_law_304 rfl (lv_at hl 1 rfl) ?_
  refine lv_aload_n hx hb dL_law_305 rfl (lv_at hl 3 rfl) ?_
  refine lv_iload_n hx hb dL_law_306 rfl (lv_at hl 0 rfl) ?_
  refine lv_iconst (v := 1) hx hb dL_law_307 (by decide) ?_
  refine lv_iadd hx hb dL_law_308 ?_
  refine va_sld hx hb hX hbl hbA hS (lin (j := 1) (by omega) hL) dL_law_309 ?_
  refine lv_aload_n hx hb dL_law_310 rfl (lv_at hl 3 rfl) ?_
  refine lv_iload_n hx hb dL_law_311 rfl (lv_at hl 0 rfl) ?_
  refine lv_iconst (v := 2) hx hb dL_law_312 (by decide) ?_
  refine lv_iadd hx hb dL_law_313 ?_
  refine va_sld hx hb hX hbl hbA hS (lin (j := 2) (by omega) hL) dL_law_314 ?_
  refine L_call C0 hR hS 2 (ci := 7) (a := 208) (av := [.int (xs (nI (4 * k) + 1).toNatClampNeg), .int (xs (nI (4 * k) + 2).toNatClampNeg)]) (mc_f_Md_formula l _ _ M1 r _ e2) rfl (by decide) (shN7 s208) wmL_51 wiX7_formula wvX7_formula w0X7 wcX7_formula (by decide +kernel) (by decide) rfl hl.1 (Nat.le_of_ble_eq_true rfl) rfl dL_law_315 hf (fun H locs hR hS => ?_)
  refine lv_icmp_eq (tgt := 527) hx hb dL_law_318 (by decide) (fun _ => ?_) (fun c1 => absurd rfl c1)
  exact kk H locs M2 s2 hR hI2 hS
set_option maxHeartbeats 1000000 in
theorem lc_node (C0 : CL p s m args meth c G b L xs) (h4 : 4 * k + 4 ≤ L) (hL : L ≤ 2048) (hR : Rep G M H) (hI : InvL M st) (hS : va_S (fun q => G.2 ≤ q) s.heap H locs) (hl : lv_has ls 4 [(3, .int (nI (4 * k))), (2, .ref (G.2 + 208)), (1, .ref (G.2 + 0)), (0, .ref b)]) (hf : cells ≤ 600000 ∧ slots ≤ 7302250)
    (kk : ∀ (H1 : Heap) (locs1 : List Loc) (M1 : Mem) (s1 : S3), Rep G M1 H1 → InvL M1 s1 → va_S (fun q => G.2 ≤ q) s.heap H1 locs1 → W p l e room_1 s m args below meth c H1 locs1 cells slots Q (F0 m 527 ls [])) : W p l e room_1 s m args below meth c H locs cells slots Q (F0 m 323 ls []) := by
  obtain ⟨hx, hb, hml, hown, hts, hK, hX, hbl, hsz⟩ := id C0
  have hbA : ¬ (fun q : Nat => G.2 ≤ q) b := Nat.not_le.mpr (by rw [← hsz]; exact hbl)
  obtain ⟨r, M1, M2, s2, e1, e2, hI2⟩ := st_node hI (xs (nI (4 * k) + 1).toNatClampNeg) (xs (nI (4 * k) + 2).toNatClampNeg) (xs (nI (4 * k) + 3).toNatClampNeg)
  refine lv_aload_n hx hb dL_law_323 rfl (lv_at hl 2 rfl) ?_
  refine lv_aload_n hx hb dL_law_324 rfl (lv_at hl 3 rfl) ?_
  refine lv_iload_n hx hb dL_law_325 rfl (lv_at hl 0 rfl) ?_
  refine lv_iconst (v := 1) hx hb dL_law_326 (by decide) ?_
  refine lv_iadd hx hb dL_law_327 ?_
  refine va_sld hx hb hX hbl hbA hS (lin (j := 1) (by omega) hL) dL_law_328 ?_
  refine lv_aload_n hx hb dL_law_329 rfl (lv_at hl 3 rfl) ?_
  refine lv_iload_n hx hb dL_law_330 rfl (lv_at hl 0 rfl) ?_
  refine lv_iconst (v := 2) hx hb dL_law_331 (by decide) ?_
  refine lv_iadd hx hb dL_law_332 ?_
  refine va_sld hx hb hX hbl hbA hS (lin (j := 2) (by omega) hL) dL_law_333 ?_
  refine lv_aload_n hx hb dL_law_334 rfl (lv_at hl 3 rfl) ?_
  refine lv_iload_n hx hb dL_law_335 rfl (lv_at hl 0 rfl) ?_
  refine lv_iconst (v := 3) hx hb dL_law_336 (by decide) ?_
  refine lv_iadd hx hb dL_law_337 ?_
  refine va_sld hx hb hX hbl hbA hS (lin (j := 3) (by omega) hL) dL_law_338 ?_
  refine L_call C0 hR hS 3 (ci := 6) (a := 0) (av := [.int (xs (nI (4 * k) + 1).toNatClampNeg), .int (xs (nI (4 * k) + 2).toNatClampNeg), .int (xs (nI (4 * k) + 3).toNatClampNeg)]) (mc_f_LP_node l _ _ _ M r _ e1) rfl (by decide) (shN6 s0) wmL_52 wiX6_node wvX6_node w0X6 wcX6_node (by decide +kernel) (by decide) rfl hl.1 (Nat.le_of_ble_eq_true rfl) rfl dL_law_339 hf (fun H locs hR hS => ?_)
  refine lv_aload_n hx hb dL_law_342 rfl (lv_at hl 1 rfl) ?_
  refine lv_aload_n hx hb dL_law_343 rfl (lv_at hl 3 rfl) ?_
  refine lv_iload_n hx hb dL_law_344 rfl (lv_at hl 0 rfl) ?_
  refine lv_iconst (v := 1) hx hb dL_law_345 (by decide) ?_
  refine lv_iadd hx hb dL_law_346 ?_
  refine va_sld hx hb hX hbl hbA hS (lin (j := 1) (by omega) hL) dL_law_347 ?_
  refine lv_aload_n hx hb dL_law_348 rfl (lv_at hl 3 rfl) ?_
  refine lv_iload_n hx hb dL_law_349 rfl (lv_at hl 0 rfl) ?_
  refine lv_iconst (v := 2) hx hb dL_law_350 (by decide) ?_
  refine lv_iadd hx hb dL_law_351 ?_
  refine va_sld hx hb hX hbl hbA hS (lin (j := 2) (by omega) hL) dL_law_352 ?_
  refine lv_aload_n hx hb dL_law_353 rfl (lv_at hl 3 rfl) ?_
  refine lv_iload_n hx hb dL_law_354 rfl (lv_at hl 0 rfl) ?_
  refine lv_iconst (v := 3) hx hb dL_law_355 (by decide) ?_
  refine lv_iadd hx hb dL_law_356 ?_
  refine va_sld hx hb hX hbl hbA hS (lin (j := 3) (by omega) hL) dL_law_357 ?_
  refine L_call C0 hR hS 3 (ci := 7) (a := 208) (av := [.int (xs (nI (4 * k) + 1).toNatClampNeg), .int (xs (nI (4 * k) + 2).toNatClampNeg), .int (xs (nI (4 * k) + 3).toNatClampNeg)]) (mc_f_Md_node l _ _ _ M1 r _ e2) rfl (by decide) (shN7 s208) wmL_56 wiX7_node wvX7_node w0X7 wcX7_node (by decide +kernel) (by decide) rfl hl.1 (Nat.le_of_ble_eq_true rfl) rfl dL_law_358 hf (fun H locs hR hS => ?_)
  refine lv_icmp_eq (tgt := 527) hx hb dL_law_361 (by decide) (fun _ => ?_) (fun c1 => absurd rfl c1)
  exact kk H locs M2 s2 hR hI2 hS
set_option maxHeartbeats 1000000 in
theorem lc_cell (C0 : CL p s m args meth c G b L xs) (h4 : 4 * k + 4 ≤ L) (hL : L ≤ 2048) (hR : Rep G M H) (hI : InvL M st) (hS : va_S (fun q => G.2 ≤ q) s.heap H locs) (hl : lv_has ls 4 [(3, .int (nI (4 * k))), (2, .ref (G.2 + 208)), (1, .ref (G.2 + 0)), (0, .ref b)]) (hf : cells ≤ 600000 ∧ slots ≤ 7302250)
    (kk : ∀ (H1 : Heap) (locs1 : List Loc) (M1 : Mem) (s1 : S3), Rep G M1 H1 → InvL M1 s1 → va_S (fun q => G.2 ≤ q) s.heap H1 locs1 → W p l e room_1 s m args below meth c H1 locs1 cells slots Q (F0 m 527 ls [])) : W p l e room_1 s m args below meth c H locs cells slots Q (F0 m 366 ls []) := by
  obtain ⟨hx, hb, hml, hown, hts, hK, hX, hbl, hsz⟩ := id C0
  have hbA : ¬ (fun q : Nat => G.2 ≤ q) b := Nat.not_le.mpr (by rw [← hsz]; exact hbl)
  obtain ⟨r, M1, M2, s2, e1, e2, hI2⟩ := st_cell hI (xs (nI (4 * k) + 1).toNatClampNeg)
  refine lv_aload_n hx hb dL_law_366 rfl (lv_at hl 2 rfl) ?_
  refine lv_aload_n hx hb dL_law_367 rfl (lv_at hl 3 rfl) ?_
  refine lv_iload_n hx hb dL_law_368 rfl (lv_at hl 0 rfl) ?_
  refine lv_iconst (v := 1) hx hb dL_law_369 (by decide) ?_
  refine lv_iadd hx hb dL_law_370 ?_
  refine va_sld hx hb hX hbl hbA hS (lin (j := 1) (by omega) hL) dL_law_371 ?_
  refine L_call C0 hR hS 1 (ci := 6) (a := 0) (av := [.int (xs (nI (4 * k) + 1).toNatClampNeg)]) (mc_f_LP_cell l _ M r _ e1) rfl (by decide) (shN6 s0) wmL_57 wiX6_cell wvX6_cell w0X6 wcX6_cell (by decide +kernel) (by decide) rfl hl.1 (Nat.le_of_ble_eq_true rfl) rfl dL_law_372 hf (fun H locs hR hS => ?_)
  refine lv_aload_n hx hb dL_law_375 rfl (lv_at hl 1 rfl) ?_
  refine lv_aload_n hx hb dL_law_376 rfl (lv_at hl 3 rfl) ?_
  refine lv_iload_n hx hb dL_law_377 rfl (lv_at hl 0 rfl) ?_
  refine lv_iconst (v := 1) hx hb dL_law_378 (by decide) ?_
  refine lv_iadd hx hb dL_law_379 ?_
  refine va_sld hx hb hX hbl hbA hS (lin (j := 1) (by omega) hL) dL_law_380 ?_
  refine L_call C0 hR hS 1 (ci := 7) (a := 208) (av := [.int (xs (nI (4 * k) + 1).toNatClampNeg)]) (mc_f_Md_cell l _ M1 r _ e2) rfl (by decide) (shN7 s208) wmL_60 wiX7_cell wvX7_cell w0X7 wcX7_cell (by decide +kernel) (by decide) rfl hl.1 (Nat.le_of_ble_eq_true rfl) rfl dL_law_381 hf (fun H locs hR hS => ?_)
  refine lv_icmp_eq (tgt := 527) hx hb dL_law_384 (by decide) (fun _ => ?_) (fun c1 => absurd rfl c1)
  exact kk H locs M2 s2 hR hI2 hS
set_option maxHeartbeats 1000000 in
theorem lc_plan (C0 : CL p s m args meth c G b L xs) (h4 : 4 * k + 4 ≤ L) (hL : L ≤ 2048) (hR : Rep G M H) (hI : InvL M st) (hS : va_S (fun q => G.2 ≤ q) s.heap H locs) (hl : lv_has ls 4 [(3, .int (nI (4 * k))), (2, .ref (G.2 + 208)), (1, .ref (G.2 + 0)), (0, .ref b)]) (hf : cells ≤ 600000 ∧ slots ≤ 7302250)
    (kk : ∀ (H1 : Heap) (locs1 : List Loc) (M1 : Mem) (s1 : S3), Rep G M1 H1 → InvL M1 s1 → va_S (fun q => G.2 ≤ q) s.heap H1 locs1 → W p l e room_1 s m args below meth c H1 locs1 cells slots Q (F0 m 527 ls [])) : W p l e room_1 s m args below meth c H locs cells slots Q (F0 m 389 ls []) := by
  obtain ⟨hx, hb, hml, hown, hts, hK, hX, hbl, hsz⟩ := id C0
  have hbA : ¬ (fun q : Nat => G.2 ≤ q) b := Nat.not_le.mpr (by rw [← hsz]; exact hbl)
  obtain ⟨r, M1, M2, s2, e1, e2, hI2⟩ := st_plan hI (xs (nI (4 * k) + 1).toNatClampNeg)
  refine lv_aload_n hx hb dL_law_389 rfl (lv_at hl 2 rfl) ?_
  refine lv_aload_n hx hb dL_law_390 rfl (lv_at hl 3 rfl) ?_
  refine lv_iload_n hx hb dL_law_391 rfl (lv_at hl 0 rfl) ?_
  refine lv_iconst (v := 1) hx hb dL_law_392 (by decide) ?_
  refine lv_iadd hx hb dL_law_393 ?_
  refine va_sld hx hb hX hbl hbA hS (lin (j := 1) (by omega) hL) dL_law_394 ?_
  refine L_call C0 hR hS 1 (ci := 6) (a := 0) (av := [.int (xs (nI (4 * k) + 1).toNatClampNeg)]) (mc_f_LP_plan l _ M r _ e1) rfl (by decide) (shN6 s0) wmL_61 wiX6_plan wvX6_plan w0X6 wcX6_plan (by decide +kernel) (by decide) rfl hl.1 (Nat.le_of_ble_eq_true rfl) rfl dL_law_395 hf (fun H locs hR hS => ?_)
  refine lv_aload_n hx hb dL_law_398 rfl (lv_at hl 1 rfl) ?_
  refine lv_aload_n hx hb dL_law_399 rfl (lv_at hl 3 rfl) ?_
  refine lv_iload_n hx hb dL_law_400 rfl (lv_at hl 0 rfl) ?_
  refine lv_iconst (v := 1) hx hb dL_law_401 (by decide) ?_
  refine lv_iadd hx hb dL_law_402 ?_
  refine va_sld hx hb hX hbl hbA hS (lin (j := 1) (by omega) hL) dL_law_403 ?_
  refine L_call C0 hR hS 1 (ci := 7) (a := 208) (av := [.int (xs (nI (4 * k) + 1).toNatClampNeg)]) (mc_f_Md_plan l _ M1 r _ e2) rfl (by decide) (shN7 s208) wmL_64 wiX7_plan wvX7_plan w0X7 wcX7_plan (by decide +kernel) (by decide) rfl hl.1 (Nat.le_of_ble_eq_true rfl) rfl dL_law_404 hf (fun H locs hR hS => ?_)
  refine lv_icmp_eq (tgt := 527) hx hb dL_law_407 (by decide) (fun _ => ?_) (fun c1 => absurd rfl c1)
  exact kk H locs M2 s2 hR hI2 hS
set_option maxHeartbeats 1000000 in
theorem lc_step (C0 : CL p s m args meth c G b L xs) (h4 : 4 * k + 4 ≤ L) (hL : L ≤ 2048) (hR : Rep G M H) (hI : InvL M st) (hS : va_S (fun q => G.2 ≤ q) s.heap H locs) (hl : lv_has ls 4 [(3, .int (nI (4 * k))), (2, .ref (G.2 + 208)), (1, .ref (G.2 + 0)), (0, .ref b)]) (hf : cells ≤ 600000 ∧ slots ≤ 7302250)
    (kk : ∀ (H1 : Heap) (locs1 : List Loc) (M1 : Mem) (s1 : S3), Rep G M1 H1 → InvL M1 s1 → va_S (fun q => G.2 ≤ q) s.heap H1 locs1 → W p l e room_1 s m args below meth c H1 locs1 cells slots Q (F0 m 527 ls [])) : W p l e room_1 s m args below meth c H locs cells slots Q (F0 m 412 ls []) := by
  obtain ⟨hx, hb, hml, hown, hts, hK, hX, hbl, hsz⟩ := id C0
  have hbA : ¬ (fun q : Nat => G.2 ≤ q) b := Nat.not_le.mpr (by rw [← hsz]; exact hbl)
  obtain ⟨r, M1, M2, s2, e1, e2, hI2⟩ := st_step hI (xs (nI (4 * k) + 1).toNatClampNeg) (xs (nI (4 * k) + 2).toNatClampNeg)
  refine lv_aload_n hx hb dL_law_412 rfl (lv_at hl 2 rfl) ?_
  refine lv_aload_n hx hb dL_law_413 rfl (lv_at hl 3 rfl) ?_
  refine lv_iload_n hx hb dL_law_414 rfl (lv_at hl 0 rfl) ?_
  refine lv_iconst (v := 1) hx hb dL_law_415 (by decide) ?_
  refine lv_iadd hx hb dL_law_416 ?_
  refine va_sld hx hb hX hbl hbA hS (lin (j := 1) (by omega) hL) dL_law_417 ?_
  refine lv_aload_n hx hb dL_law_418 rfl (lv_at hl 3 rfl) ?_
  refine lv_iload_n hx hb dL_law_419 rfl (lv_at hl 0 rfl) ?_
  refine lv_iconst (v := 2) hx hb dL_law_420 (by decide) ?_
  refine lv_iadd hx hb dL_law_421 ?_
  refine va_sld hx hb hX hbl hbA hS (lin (j := 2) (by omega) hL) dL_law_422 ?_
  refine L_call C0 hR hS 2 (ci := 6) (a := 0) (av := [.int (xs (nI (4 * k) + 1).toNatClampNeg), .int (xs (nI (4 * k) + 2).toNatClampNeg)]) (mc_f_LP_step l _ _ M r _ e1) rfl (by decide) (shN6 s0) wmL_65 wiX6_step wvX6_step w0X6 wcX6_step (by decide +kernel) (by decide) rfl hl.1 (Nat.le_of_ble_eq_true rfl) rfl dL_law_423 hf (fun H locs hR hS => ?_)
  refine lv_aload_n hx hb dL_law_426 rfl (lv_at hl 1 rfl) ?_
  refine lv_aload_n hx hb dL_law_427 rfl (lv_at hl 3 rfl) ?_
  refine lv_iload_n hx hb dL_law_428 rfl (lv_at hl 0 rfl) ?_
  refine lv_iconst (v := 1) hx hb dL_law_429 (by decide) ?_
  refine lv_iadd hx hb dL_law_430 ?_
  refine va_sld hx hb hX hbl hbA hS (lin (j := 1) (by omega) hL) dL_law_431 ?_
  refine lv_aload_n hx hb dL_law_432 rfl (lv_at hl 3 rfl) ?_
  refine lv_iload_n hx hb dL_law_433 rfl (lv_at hl 0 rfl) ?_
  refine lv_iconst (v := 2) hx hb dL_law_434 (by decide) ?_
  refine lv_iadd hx hb dL_law_435 ?_
  refine va_sld hx hb hX hbl hbA hS (lin (j := 2) (by omega) hL) dL_law_436 ?_
  refine L_call C0 hR hS 2 (ci := 7) (a := 208) (av := [.int (xs (nI (4 * k) + 1).toNatClampNeg), .int (xs (nI (4 * k) + 2).toNatClampNeg)]) (mc_f_Md_step l _ _ M1 r _ e2) rfl (by decide) (shN7 s208) wmL_68 wiX7_step wvX7_step w0X7 wcX7_step (by decide +kernel) (by decide) rfl hl.1 (Nat.le_of_ble_eq_true rfl) rfl dL_law_437 hf (fun H locs hR hS => ?_)
  refine lv_icmp_eq (tgt := 527) hx hb dL_law_440 (by decide) (fun _ => ?_) (fun c1 => absurd rfl c1)
  exact kk H locs M2 s2 hR hI2 hS
set_option maxHeartbeats 1000000 in
theorem lc_costWith (C0 : CL p s m args meth c G b L xs) (h4 : 4 * k + 4 ≤ L) (hL : L ≤ 2048) (hR : Rep G M H) (hI : InvL M st) (hS : va_S (fun q => G.2 ≤ q) s.heap H locs) (hl : lv_has ls 4 [(3, .int (nI (4 * k))), (2, .ref (G.2 + 208)), (1, .ref (G.2 + 0)), (0, .ref b)]) (hf : cells ≤ 600000 ∧ slots ≤ 7302250)
    (kk : ∀ (H1 : Heap) (locs1 : List Loc) (M1 : Mem) (s1 : S3), Rep G M1 H1 → InvL M1 s1 → va_S (fun q => G.2 ≤ q) s.heap H1 locs1 → W p l e room_1 s m args below meth c H1 locs1 cells slots Q (F0 m 527 ls [])) : W p l e room_1 s m args below meth c H locs cells slots Q (F0 m 445 ls []) := by
  obtain ⟨hx, hb, hml, hown, hts, hK, hX, hbl, hsz⟩ := id C0
  have hbA : ¬ (fun q : Nat => G.2 ≤ q) b := Nat.not_le.mpr (by rw [← hsz]; exact hbl)
  obtain ⟨r, M1, M2, s2, e1, e2, hI2⟩ := st_cost hI (xs (nI (4 * k) + 1).toNatClampNeg)
  refine lv_aload_n hx hb dL_law_445 rfl (lv_at hl 2 rfl) ?_
  refine lv_aload_n hx hb dL_law_446 rfl (lv_at hl 3 rfl) ?_
  refine lv_iload_n hx hb dL_law_447 rfl (lv_at hl 0 rfl) ?_
  refine lv_iconst (v := 1) hx hb dL_law_448 (by decide) ?_
  refine lv_iadd hx hb dL_law_449 ?_
  refine va_sld hx hb hX hbl hbA hS (lin (j := 1) (by omega) hL) dL_law_450 ?_
  refine L_call C0 hR hS 1 (ci := 6) (a := 0) (av := [.int (xs (nI (4 * k) + 1).toNatClampNeg)]) (mc_f_LP_costWith l _ M r _ e1) rfl (by decide) (shN6 s0) wmL_69 wiX6_costWith wvX6_costWith w0X6 wcX6_costWith (by decide +kernel) (by decide) rfl hl.1 (Nat.le_of_ble_eq_true rfl) rfl dL_law_451 hf (fun H locs hR hS => ?_)
  refine lv_aload_n hx hb dL_law_454 rfl (lv_at hl 1 rfl) ?_
  refine lv_aload_n hx hb dL_law_455 rfl (lv_at hl 3 rfl) ?_
  refine lv_iload_n hx hb dL_law_456 rfl (lv_at hl 0 rfl) ?_
  refine lv_iconst (v := 1) hx hb dL_law_457 (by decide) ?_
  refine lv_iadd hx hb dL_law_458 ?_
  refine va_sld hx hb hX hbl hbA hS (lin (j := 1) (by omega) hL) dL_law_459 ?_
  refine L_call C0 hR hS 1 (ci := 7) (a := 208) (av := [.int (xs (nI (4 * k) + 1).toNatClampNeg)]) (mc_f_Md_costWith l _ M1 r _ e2) rfl (by decide) (shN7 s208) wmL_72 wiX7_costWith wvX7_costWith w0X7 wcX7_costWith (by decide +kernel) (by decide) rfl hl.1 (Nat.le_of_ble_eq_true rfl) rfl dL_law_460 hf (fun H locs hR hS => ?_)
  refine lv_icmp_eq (tgt := 527) hx hb dL_law_463 (by decide) (fun _ => ?_) (fun c1 => absurd rfl c1)
  exact kk H locs M2 s2 hR hI2 hS
set_option maxHeartbeats 1000000 in
theorem lc_enough (C0 : CL p s m args meth c G b L xs) (h4 : 4 * k + 4 ≤ L) (hL : L ≤ 2048) (hR : Rep G M H) (hI : InvL M st) (hS : va_S (fun q => G.2 ≤ q) s.heap H locs) (hl : lv_has ls 4 [(3, .int (nI (4 * k))), (2, .ref (G.2 + 208)), (1, .ref (G.2 + 0)), (0, .ref b)]) (hf : cells ≤ 600000 ∧ slots ≤ 7302250)
    (kk : ∀ (H1 : Heap) (locs1 : List Loc) (M1 : Mem) (s1 : S3), Rep G M1 H1 → InvL M1 s1 → va_S (fun q => G.2 ≤ q) s.heap H1 locs1 → W p l e room_1 s m args below meth c H1 locs1 cells slots Q (F0 m 527 ls [])) : W p l e room_1 s m args below meth c H locs cells slots Q (F0 m 468 ls []) := by
  obtain ⟨hx, hb, hml, hown, hts, hK, hX, hbl, hsz⟩ := id C0
  have hbA : ¬ (fun q : Nat => G.2 ≤ q) b := Nat.not_le.mpr (by rw [← hsz]; exact hbl)
  obtain ⟨r, M1, M2, s2, e1, e2, hI2⟩ := st_enough hI 
  refine lv_aload_n hx hb dL_law_468 rfl (lv_at hl 2 rfl) ?_
  refine L_call C0 hR hS 0 (ci := 6) (a := 0) (av := []) (mc_f_LP_enough l  M r _ e1) rfl (by decide) (shN6 s0) wmL_73 wiX6_enough wvX6_enough w0X6 wcX6_enough (by decide +kernel) (by decide) rfl hl.1 (Nat.le_of_ble_eq_true rfl) rfl dL_law_469 hf (fun H locs hR hS => ?_)
  refine lv_aload_n hx hb dL_law_472 rfl (lv_at hl 1 rfl) ?_
  refine L_call C0 hR hS 0 (ci := 7) (a := 208) (av := []) (mc_f_Md_enough l  M1 r _ e2) rfl (by decide) (shN7 s208) wmL_76 wiX7_enough wvX7_enough w0X7 wcX7_enough (by decide +kernel) (by decide) rfl hl.1 (Nat.le_of_ble_eq_true rfl) rfl dL_law_473 hf (fun H locs hR hS => ?_)
  refine lv_icmp_eq (tgt := 527) hx hb dL_law_476 (by decide) (fun _ => ?_) (fun c1 => absurd rfl c1)
  exact kk H locs M2 s2 hR hI2 hS
set_option maxHeartbeats 1000000 in
theorem lc_proved (C0 : CL p s m args meth c G b L xs) (h4 : 4 * k + 4 ≤ L) (hL : L ≤ 2048) (hR : Rep G M H) (hI : InvL M st) (hS : va_S (fun q => G.2 ≤ q) s.heap H locs) (hl : lv_has ls 4 [(3, .int (nI (4 * k))), (2, .ref (G.2 + 208)), (1, .ref (G.2 + 0)), (0, .ref b)]) (hf : cells ≤ 600000 ∧ slots ≤ 7302250)
    (kk : ∀ (H1 : Heap) (locs1 : List Loc) (M1 : Mem) (s1 : S3), Rep G M1 H1 → InvL M1 s1 → va_S (fun q => G.2 ≤ q) s.heap H1 locs1 → W p l e room_1 s m args below meth c H1 locs1 cells slots Q (F0 m 527 ls [])) : W p l e room_1 s m args below meth c H locs cells slots Q (F0 m 481 ls []) := by
  obtain ⟨hx, hb, hml, hown, hts, hK, hX, hbl, hsz⟩ := id C0
  have hbA : ¬ (fun q : Nat => G.2 ≤ q) b := Nat.not_le.mpr (by rw [← hsz]; exact hbl)
  obtain ⟨r, M1, M2, s2, e1, e2, hI2⟩ := st_proved hI (xs (nI (4 * k) + 1).toNatClampNeg)
  refine lv_aload_n hx hb dL_law_481 rfl (lv_at hl 2 rfl) ?_
  refine lv_aload_n hx hb dL_law_482 rfl (lv_at hl 3 rfl) ?_
  refine lv_iload_n hx hb dL_law_483 rfl (lv_at hl 0 rfl) ?_
  refine lv_iconst (v := 1) hx hb dL_law_484 (by decide) ?_
  refine lv_iadd hx hb dL_law_485 ?_
  refine va_sld hx hb hX hbl hbA hS (lin (j := 1) (by omega) hL) dL_law_486 ?_
  refine L_call C0 hR hS 1 (ci := 6) (a := 0) (av := [.int (xs (nI (4 * k) + 1).toNatClampNeg)]) (mc_f_LP_proved l _ M r _ e1) rfl (by decide) (shN6 s0) wmL_77 wiX6_proved wvX6_proved w0X6 wcX6_proved (by decide +kernel) (by decide) rfl hl.1 (Nat.le_of_ble_eq_true rfl) rfl dL_law_487 hf (fun H locs hR hS => ?_)
  refine lv_aload_n hx hb dL_law_490 rfl (lv_at hl 1 rfl) ?_
  refine lv_aload_n hx hb dL_law_491 rfl (lv_at hl 3 rfl) ?_
  refine lv_iload_n hx hb dL_law_492 rfl (lv_at hl 0 rfl) ?_
  refine lv_iconst (v := 1) hx hb dL_law_493 (by decide) ?_
  refine lv_iadd hx hb dL_law_494 ?_
  refine va_sld hx hb hX hbl hbA hS (lin (j := 1) (by omega) hL) dL_law_495 ?_
  refine L_call C0 hR hS 1 (ci := 7) (a := 208) (av := [.int (xs (nI (4 * k) + 1).toNatClampNeg)]) (mc_f_Md_proved l _ M1 r _ e2) rfl (by decide) (shN7 s208) wmL_80 wiX7_proved wvX7_proved w0X7 wcX7_proved (by decide +kernel) (by decide) rfl hl.1 (Nat.le_of_ble_eq_true rfl) rfl dL_law_496 hf (fun H locs hR hS => ?_)
  refine lv_icmp_eq (tgt := 527) hx hb dL_law_499 (by decide) (fun _ => ?_) (fun c1 => absurd rfl c1)
  exact kk H locs M2 s2 hR hI2 hS
set_option maxHeartbeats 1000000 in
theorem lc_ways (C0 : CL p s m args meth c G b L xs) (h4 : 4 * k + 4 ≤ L) (hL : L ≤ 2048) (hR : Rep G M H) (hI : InvL M st) (hS : va_S (fun q => G.2 ≤ q) s.heap H locs) (hl : lv_has ls 4 [(3, .int (nI (4 * k))), (2, .ref (G.2 + 208)), (1, .ref (G.2 + 0)), (0, .ref b)]) (hf : cells ≤ 600000 ∧ slots ≤ 7302250)
    (kk : ∀ (H1 : Heap) (locs1 : List Loc) (M1 : Mem) (s1 : S3), Rep G M1 H1 → InvL M1 s1 → va_S (fun q => G.2 ≤ q) s.heap H1 locs1 → W p l e room_1 s m args below meth c H1 locs1 cells slots Q (F0 m 527 ls [])) : W p l e room_1 s m args below meth c H locs cells slots Q (F0 m 504 ls []) := by
  obtain ⟨hx, hb, hml, hown, hts, hK, hX, hbl, hsz⟩ := id C0
  have hbA : ¬ (fun q : Nat => G.2 ≤ q) b := Nat.not_le.mpr (by rw [← hsz]; exact hbl)
  obtain ⟨r, M1, M2, s2, e1, e2, hI2⟩ := st_ways hI (xs (nI (4 * k) + 1).toNatClampNeg)
  refine lv_aload_n hx hb dL_law_504 rfl (lv_at hl 2 rfl) ?_
  refine lv_aload_n hx hb dL_law_505 rfl (lv_at hl 3 rfl) ?_
  refine lv_iload_n hx hb dL_law_506 rfl (lv_at hl 0 rfl) ?_
  refine lv_iconst (v := 1) hx hb dL_law_507 (by decide) ?_
  refine lv_iadd hx hb dL_law_508 ?_
  refine va_sld hx hb hX hbl hbA hS (lin (j := 1) (by omega) hL) dL_law_509 ?_
  refine L_call C0 hR hS 1 (ci := 6) (a := 0) (av := [.int (xs (nI (4 * k) + 1).toNatClampNeg)]) (mc_f_LP_ways l _ M r _ e1) rfl (by decide) (shN6 s0) wmL_81 wiX6_ways wvX6_ways w0X6 wcX6_ways (by decide +kernel) (by decide) rfl hl.1 (Nat.le_of_ble_eq_true rfl) rfl dL_law_510 hf (fun H locs hR hS => ?_)
  refine lv_aload_n hx hb dL_law_513 rfl (lv_at hl 1 rfl) ?_
  refine lv_aload_n hx hb dL_law_514 rfl (lv_at hl 3 rfl) ?_
  refine lv_iload_n hx hb dL_law_515 rfl (lv_at hl 0 rfl) ?_
  refine lv_iconst (v := 1) hx hb dL_law_516 (by decide) ?_
  refine lv_iadd hx hb dL_law_517 ?_
  refine va_sld hx hb hX hbl hbA hS (lin (j := 1) (by omega) hL) dL_law_518 ?_
  refine L_call C0 hR hS 1 (ci := 7) (a := 208) (av := [.int (xs (nI (4 * k) + 1).toNatClampNeg)]) (mc_f_Md_ways l _ M1 r _ e2) rfl (by decide) (shN7 s208) wmL_84 wiX7_ways wvX7_ways w0X7 wcX7_ways (by decide +kernel) (by decide) rfl hl.1 (Nat.le_of_ble_eq_true rfl) rfl dL_law_519 hf (fun H locs hR hS => ?_)
  refine lv_icmp_eq (tgt := 527) hx hb dL_law_522 (by decide) (fun _ => ?_) (fun c1 => absurd rfl c1)
  exact kk H locs M2 s2 hR hI2 hS
end LCASE
