/-! reading, on the class's side -/
def CT (M : Mem) (tx : List Int32) (i : Nat) : Prop := M.1 1 1 = nI tx.length ∧ (∀ j, j < tx.length → M.1 2 j = tx.getD j 0) ∧ M.1 1 2 = nI i
abbrev QC (f : Nat) : Nat → Prop := fun a => a = 1 ∨ F3 f a
theorem CT.set {M : Mem} {tx : List Int32} {i j : Nat} (h : CT M tx i) : CT (mset M 1 2 (nI j)) tx j := by
  obtain ⟨h1, h2, h3⟩ := h
  exact ⟨by simp [ms1, h1], fun k hk => by rw [mset_ne (by omega)]; exact h2 k hk, by simp [ms1]⟩
theorem CT.off {M M' : Mem} {tx : List Int32} {i f : Nat} (h : CT M tx i) (hf : 6 ≤ f) (ho : Off (F3 f) M M') : CT M' tx i := by
  obtain ⟨h1, h2, h3⟩ := h
  exact ⟨by rw [ho.1 1 (fun q => by rcases q with q | q | q <;> omega)]; exact h1, fun k hk => by rw [ho.1 2 (fun q => by rcases q with q | q | q <;> omega)]; exact h2 k hk, by rw [ho.1 1 (fun q => by rcases q with q | q | q <;> omega)]; exact h3⟩
theorem QC_f {f : Nat} {M M' : Mem} (h : Off (F3 f) M M') : Off (QC f) M M' := h.mono (fun a q => Or.inr q)
theorem FA.set1 {M : Mem} {f : Nat} {l : Fm} {v : Int32} (h : FA M f l) (hf : 6 ≤ f) : FA (mset M 1 2 v) f l := h.off (Off.set (S := fun a => a = 1) rfl) (fun a ha q => by rcases ha with w | w | w <;> omega)
theorem sign_ok {M : Mem} {tx : List Int32} {i : Nat} (h : CT M tx i) (hi : i ≤ tx.length) (hx : tx.length ≤ 100) : f_Reader_sign M = some (sg tx i, M) := by
  obtain ⟨h1, h2, h3⟩ := h
  rw [f_Reader_sign, h3, h1, if_neg (nI_pos (by omega))]
  by_cases c : i < tx.length
  · rw [if_neg (nI_ge c (by omega)), if_neg (by rw [show (100 : Int32) = nI 100 from rfl]; exact nI_ge (by omega) (by omega)), gd_of (inbT (by omega) (by omega)), ixN (by omega), h2 i c]
    rfl
  · rw [if_pos (nI_le (by omega) (by omega))]
    have : sg tx i = 0 := by simp [sg, List.getElem?_eq_none (Nat.le_of_not_lt c)]
    rw [this]
theorem pass_ok {M : Mem} {tx : List Int32} {i : Nat} {x : Int32} (h : CT M tx i) (hi : i ≤ tx.length) (hx : tx.length ≤ 100) : f_Reader_pass x M = some (if sg tx i = x then 1 else 0, mset M 1 2 (nI (if sg tx i = x then i + 1 else i))) := by
  rw [f_Reader_pass, sign_ok h hi hx, bd_s]
  by_cases c : sg tx i = x
  · rw [if_pos c, if_pos c, if_pos c, f_Reader_pass_b13, if_neg (by decide), bm_e, h.2.2, nI_s, isB1, gd_t]
  · rw [if_neg c, if_neg c, if_neg c, f_Reader_pass_b13, if_pos rfl, bm_e, h.2.2, nI_z, isB0, gd_t]
theorem isDigit_ok {M : Mem} {c : Int32} : f_Reader_isDigit c M = some (if dig c then 1 else 0, M) := by
  rw [f_Reader_isDigit]
  simp only [isB0, isB1, gd_t]
  by_cases c1 : c < 48
  · rw [if_pos c1, if_neg (fun q => q.1 c1)]
  · rw [if_neg c1]
    by_cases c2 : 57 < c
    · rw [if_pos c2, if_neg (fun q => q.2 c2)]
    · rw [if_neg c2, if_pos ⟨c1, c2⟩]
theorem cnum {tx : List Int32} (hx : tx.length ≤ 100) : ∀ (r n k i : Nat) (M : Mem), r ≤ 3 → r < n → i ≤ tx.length → CT M tx i →
    ∃ M', f_Reader_readNumber_b4 n (nI k) (nI (3 - r)) M = some ((pNum tx r (nI k) i).1, M') ∧ CT M' tx (pNum tx r (nI k) i).2 ∧ Off (fun a => a = 1) M M' := by
  intro r
  induction r with
  | zero =>
    intro n k i M hr hn hi h
    obtain ⟨n', rfl⟩ : ∃ n', n = n' + 1 := ⟨n - 1, by omega⟩
    rw [f_Reader_readNumber_b4, if_pos (by decide)]
    exact ⟨M, rfl, h, Off.rf⟩
  | succ r ih =>
    intro n k i M hr hn hi h
    obtain ⟨n', rfl⟩ : ∃ n', n = n' + 1 := ⟨n - 1, by omega⟩
    rw [f_Reader_readNumber_b4, if_neg (show ¬ (3 : Int32) ≤ nI (3 - (r + 1)) by rw [show (3 : Int32) = nI 3 from rfl]; exact nI_ge (by omega) (by omega)), sign_ok h hi hx, bd_s, isDigit_ok, bd_s, pNum]
    by_cases c : dig (sg tx i)
    · rw [if_pos c, if_pos c, if_neg (show ¬ (1 : Int32) = 0 by decide)]
      have hlt := sg_lt (dig_ne c)
      obtain ⟨z, hz, hz10⟩ := dig_k c
      have e : (10 : Int32) * nI k + sg tx i - 48 = nI (10 * k + z) := by
        rw [hz, show (10 : Int32) = nI 10 from rfl, nI_mul, nI_add, show (48 : Int32) = nI 48 from rfl, nI_sb (by omega)]
        congr 1; omega
      have go : ∃ M', f_Reader_readNumber_b27 (f_Reader_readNumber_b4 n') (nI k) (nI (3 - (r + 1))) M = some ((pNum tx r (10 * nI k + sg tx i - 48) (i + 1)).1, M') ∧ CT M' tx (pNum tx r (10 * nI k + sg tx i - 48) (i + 1)).2 ∧ Off (fun a => a = 1) M M' := by
        rw [f_Reader_readNumber_b27, sign_ok h hi hx, bd_s, bi_e, bi_e, bm_e, h.2.2, nI_s, nI_s, e, show 3 - (r + 1) + 1 = 3 - r by omega]
        obtain ⟨M1, e1, e2, e3⟩ := ih n' (10 * k + z) (i + 1) (mset M 1 2 (nI (i + 1))) (by omega) (by omega) hlt h.set
        exact ⟨M1, e1, e2, (Off.set (S := fun a => a = 1) rfl).tr e3⟩
      by_cases d : r = 2
      · rw [if_pos (Or.inl d), if_pos (by rw [d]; rfl)]
        exact go
      · rw [if_neg (show ¬ nI (3 - (r + 1)) = 0 from nI_ne0 (by omega) (by omega))]
        by_cases d2 : nI k ≤ 0
        · rw [if_pos d2, if_neg (fun q => by rcases q with q | q; exact d q; exact q d2)]
          exact ⟨M, rfl, h, Off.rf⟩
        · rw [if_neg d2, if_pos (Or.inr d2)]
          exact go
    · rw [if_neg c, if_neg c, if_pos rfl]
      exact ⟨M, rfl, h, Off.rf⟩
def Cok (tx : List Int32) (f : Nat) (M : Mem) (o : Option (Int32 × Mem)) (r : PR) : Prop := ∃ M', o = some (if r.1 = true then 1 else 0, M') ∧ CT M' tx r.2.1 ∧ FA M' f r.2.2 ∧ Off (QC f) M M'
theorem cleaf {tx : List Int32} (hx : tx.length ≤ 100) {f fm i : Nat} {l : Fm} {M : Mem} (hf : (sh f).1 = 1) (h30 : ln (f + 1) = 30) (hf6 : 6 ≤ f) (hi : i ≤ tx.length) (h : CT M tx i) (hF : FA M f l) (hfm : fm ≤ 5) : Cok tx f M (f_Reader_readLeaf f (nI fm) M) (pLeaf tx fm i l) := by
  have hl := hF.2.1
  rw [h30] at hl
  rw [f_Reader_readLeaf, sign_ok h hi hx, bd_s, isFull_ok hf hF, bd_s, h30, pLeaf]
  by_cases c0 : l.length = 30
  · rw [if_neg (show ¬ l.length < 30 by omega), if_neg (show ¬ (1 : Int32) = 0 by decide), if_pos c0, isB0, gd_t]
    exact ⟨M, rfl, h, hF, Off.rf⟩
  rw [if_pos (show l.length < 30 by omega), if_pos rfl, if_neg c0, isDigit_ok, bd_s]
  by_cases c1 : dig (sg tx i)
  · rw [if_pos c1, if_neg (show ¬ (1 : Int32) = 0 by decide), if_pos c1]
    obtain ⟨M1, e1, e2, e3⟩ := cnum hx 3 FU 0 i M (Nat.le_refl _) (by rw [FU_e]; omega) hi h
    rw [f_Reader_readNumber, show f_Reader_readNumber_b4 FU 0 0 M = _ from e1, bd_s]
    have hF1 : FA M1 f l := hF.off e3 (fun a ha q => by rcases ha with w | w | w <;> omega)
    obtain ⟨M2, a1, a2, a3⟩ := add_ok (a := 0) (b := (pNum tx 3 (nI 0) i).1) hf hF1 (by omega)
    rw [a1, bd_s, isB1, gd_t]
    exact ⟨M2, rfl, e2.off hf6 a3, a2, (e3.mono (fun a q => Or.inl q)).tr (QC_f a3)⟩
  rw [if_neg c1, if_pos rfl, if_neg c1]
  have go : ∀ kd v, sg tx i ≠ 0 → ∃ M', (bd (f_Reader_pass (sg tx i) M) fun r4 M4 => (if r4 = 0 then gd (isB 0) (some (0, M4)) else bd (f_Form_add f kd v M4) fun r5 M5 => (if r5 = 0 then gd (isB 0) (some (0, M5)) else gd (isB 1) (some (1, M5))))) = some ((1 : Int32), M') ∧ CT M' tx (i + 1) ∧ FA M' f (l ++ [(kd, v)]) ∧ Off (QC f) M M' := by
    intro kd v _
    obtain ⟨M2, a1, a2, a3⟩ := add_ok (a := kd) (b := v) hf (hF.set1 (v := nI (i + 1)) hf6) (by omega)
    rw [pass_ok h hi hx, if_pos rfl, if_pos rfl, bd_s, if_neg (by decide), a1, bd_s, if_neg (by decide), isB1, gd_t]
    exact ⟨M2, rfl, (h.set).off hf6 a3, a2, (Off.set (S := QC f) (Or.inl rfl)).tr (QC_f a3)⟩
  have rest : ¬ (¬ sg tx i < 97 ∧ ¬ 105 ≤ sg tx i) → Cok tx f M (f_Reader_readLeaf_b69 f (nI fm) (sg tx i) M) (if ¬ sg tx i < 97 ∧ ¬ 105 ≤ sg tx i then (true, i + 1, l ++ [(1, sg tx i - 97)]) else if ¬ sg tx i < 65 ∧ ¬ 65 + nI fm ≤ sg tx i then (true, i + 1, l ++ [(2, sg tx i - 65)]) else (false, i, l)) := by
    intro c2
    rw [if_neg c2, f_Reader_readLeaf_b69]
    by_cases d1 : sg tx i < 65
    · rw [if_pos d1, if_neg (fun q => q.1 d1), isB0, gd_t]
      exact ⟨M, rfl, h, hF, Off.rf⟩
    rw [if_neg d1]
    by_cases d2 : 65 + nI fm ≤ sg tx i
    · rw [if_pos d2, if_neg (fun q => q.2 d2), isB0, gd_t]
      exact ⟨M, rfl, h, hF, Off.rf⟩
    rw [if_neg d2, if_pos ⟨d1, d2⟩]
    exact go 2 (sg tx i - 65) (fun q => by rw [q] at d1; exact d1 (by decide))
  by_cases c2 : sg tx i < 97
  · rw [if_pos c2]; exact rest (fun q => q.1 c2)
  rw [if_neg c2]
  by_cases c3 : 105 ≤ sg tx i
  · rw [if_pos c3]; exact rest (fun q => q.2 c3)
  rw [if_neg c3, if_pos ⟨c2, c3⟩]
  exact go 1 (sg tx i - 97) (fun q => by rw [q] at c2; exact c2 (by decide))
/-- the deeper reader does as it should -/
def RcC (tx : List Int32) (fm f d0 : Nat) (rc : Nat → Int32 → Int32 → Mem → Option (Int32 × Mem)) (rp : Nat → Nat → Fm → PR) : Prop := ∀ dep i l M, d0 ≤ dep → dep ≤ 8 → i ≤ tx.length → CT M tx i → FA M f l → Cok tx f M (rc f (nI fm) (nI dep) M) (rp dep i l)
theorem Cok.b {tx : List Int32} {f : Nat} {M : Mem} {o : Option (Int32 × Mem)} {r : PR} (h : Cok tx f M o r) : ∃ M', o = some (if r.1 = true then 1 else 0, M') ∧ CT M' tx r.2.1 ∧ FA M' f r.2.2 ∧ Off (QC f) M M' := h
theorem cfac {tx : List Int32} (hx : tx.length ≤ 100) {f fm d0 dep i : Nat} {l : Fm} {M : Mem} {rc : Nat → Int32 → Int32 → Mem → Option (Int32 × Mem)} {rp : Nat → Nat → Fm → PR} (hrc : RcC tx fm f d0 rc rp) (hd : d0 ≤ dep + 1) (hd8 : dep ≤ 8) (hf : (sh f).1 = 1) (h30 : ln (f + 1) = 30) (hf6 : 6 ≤ f) (hi : i ≤ tx.length) (h : CT M tx i) (hF : FA M f l) (hfm : fm ≤ 5) : Cok tx f M (f_Reader_readFactor rc f (nI fm) (nI dep) M) (pFac rp tx fm dep i l) := by
  have b18 : Cok tx f M (f_Reader_readFactor_b18 rc f (nI fm) (nI dep) M) (if 8 ≤ dep then (false, i, l) else rp (dep + 1) i l) := by
    rw [f_Reader_readFactor_b18]
    by_cases c : 8 ≤ dep
    · rw [if_pos (show (8 : Int32) ≤ nI dep by rw [l8]; exact nI_le c (by omega)), if_pos c, isB0, gd_t]
      exact ⟨M, rfl, h, hF, Off.rf⟩
    · rw [if_neg (show ¬ (8 : Int32) ≤ nI dep by rw [l8]; exact nI_ge (by omega) (by omega)), if_neg c, nI_s]
      obtain ⟨M1, e1, e2, e3, e4⟩ := (hrc (dep + 1) i l M hd (by omega) hi h hF).b
      rw [e1, bd_s]
      by_cases d : (rp (dep + 1) i l).1 = true
      · rw [if_pos d, if_neg (by decide), isB1, gd_t]
        exact ⟨M1, by rw [if_pos d], e2, e3, e4⟩
      · rw [if_neg d, if_pos rfl, isB0, gd_t]
        exact ⟨M1, by rw [if_neg d], e2, e3, e4⟩
  rw [f_Reader_readFactor, sign_ok h hi hx, bd_s, pFac]
  by_cases c : sg tx i = 40
  · rw [if_pos c, if_pos (Or.inl c)]; exact b18
  rw [if_neg c, sign_ok h hi hx, bd_s]
  by_cases d : sg tx i = 33
  · rw [if_pos d, if_pos (Or.inr d)]; exact b18
  rw [if_neg d, if_neg (fun q => by rcases q with q | q; exact c q; exact d q)]
  obtain ⟨M1, e1, e2, e3, e4⟩ := (cleaf hx hf h30 hf6 hi h hF hfm).b
  rw [e1, bd_s]
  refine ⟨M1, ?_, e2, e3, e4⟩
  split
  · rw [isB1, gd_t]
  · rw [isB0, gd_t]
