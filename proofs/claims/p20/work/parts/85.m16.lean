/-! types: the formula is typed and laid -/
def TyRows (M : Mem) (ap hr og n a b sr : Nat) : Prop := (LR M ap 1 ∧ LR M hr 16 ∧ LR M og 16) ∧ LR M n 8 ∧ LR M a 64 ∧ LR M b 64 ∧ LR M sr 64
def TyH (M : Mem) (hr og : Nat) (hk ho : Nat → Int32) : Prop := ∀ k, k < 15 → M.1 hr k = hk k ∧ M.1 og k = ho k
def TyF (M : Mem) (n a b f : Nat) (l : Fm) : Prop := M.1 n f = nI l.length ∧ ∀ k, k < l.length → M.1 a (16 * f + k) = (nd l k).1 ∧ M.1 b (16 * f + k) = bc (nd l k)
def NAB (M M' : Mem) (n a b f : Nat) : Prop := (∀ i, i ≠ f → M'.1 n i = M.1 n i) ∧ ∀ p, ¬ (16 * f ≤ p ∧ p < 16 * f + 16) → M'.1 a p = M.1 a p ∧ M'.1 b p = M.1 b p
theorem NAB.tr {M M1 M2 : Mem} {n a b f : Nat} (h : NAB M M1 n a b f) (h2 : NAB M1 M2 n a b f) : NAB M M2 n a b f := ⟨fun i hi => (h2.1 i hi).trans (h.1 i hi), fun p hp => ⟨((h2.2 p hp).1).trans (h.2 p hp).1, ((h2.2 p hp).2).trans (h.2 p hp).2⟩⟩
theorem NAB.of {M M' : Mem} {n a b f : Nat} (h1 : M'.1 n = M.1 n) (h2 : M'.1 a = M.1 a) (h3 : M'.1 b = M.1 b) : NAB M M' n a b f := ⟨fun i _ => by rw [h1], fun p _ => ⟨by rw [h2], by rw [h3]⟩⟩
def DI (ap hr og n a b sr : Nat) : Prop := (ap ≠ hr ∧ ap ≠ og ∧ ap ≠ n ∧ ap ≠ a ∧ ap ≠ b ∧ ap ≠ sr) ∧ (n ≠ hr ∧ n ≠ og ∧ n ≠ a ∧ n ≠ b ∧ n ≠ sr) ∧ (a ≠ hr ∧ a ≠ og ∧ a ≠ b ∧ a ≠ sr) ∧ (b ≠ hr ∧ b ≠ og ∧ b ≠ sr) ∧ sr ≠ hr ∧ sr ≠ og
abbrev T5 (ap n a b sr : Nat) : Nat → Prop := fun c => c = ap ∨ c = n ∨ c = a ∨ c = b ∨ c = sr
def TS (M : Mem) (ap hr og n a b sr f : Nat) (hk ho : Nat → Int32) (s : S3) (l : Fm) : Prop := (RepC M s ∧ OKs s ∧ M.1 ap 0 = nI s.1.length) ∧ TyRows M ap hr og n a b sr ∧ TyH M hr og hk ho ∧ TyF M n a b f l
theorem chr_ok {c : Nat} (h1 : 1 ≤ c) (h2 : c ≤ 255) : ¬ nI c < 1 ∧ nI c ≤ 255 := ⟨nI_nlt (a := c) (b := 1) h1 (by omega), nI_le (b := 255) h2 (by omega)⟩
section TYS
variable {ap hr og n a b sr f D kn : Nat} {hk ho : Nat → Int32} {s : S3} {l : Fm} {M : Mem}
theorem TS.put (h : TS M ap hr og n a b sr f hk ho s l) (hd : DI ap hr og n a b sr) {c : Int32} (hc : ¬ c < 1 ∧ c ≤ 255) (hl : s.1.length < 100) :
    ∃ M', f_L_put ap c M = some (1, M') ∧ TS M' ap hr og n a b sr f hk ho (s.1 ++ [c], s.2) l ∧ FrL (fun z => z = ap) 0 0 M M' := by
  obtain ⟨⟨h1, h2, h3⟩, ⟨⟨r1, r2, r3⟩, r4, r5, r6, r7⟩, h5, h6, h7⟩ := h
  obtain ⟨⟨d1, d2, d3, d4, d5, d6⟩, -⟩ := hd
  obtain ⟨M', e1, e2, e3, e4, e5⟩ := lput_ok h1 h2 r1 h3 hc.1 hc.2 hl
  refine ⟨M', e1, ⟨⟨e2, e3, by rw [e4, List.length_append, List.length_singleton]⟩, ⟨⟨r1.fr e5, r2.fr e5, r3.fr e5⟩, r4.fr e5, r5.fr e5, r6.fr e5, r7.fr e5⟩, fun k hk => by rw [e5.row r2.lt (Ne.symm d1), e5.row r3.lt (Ne.symm d2)]; exact h5 k hk, by rw [e5.row r4.lt (Ne.symm d3)]; exact h6, fun k hk => by rw [e5.row r5.lt (Ne.symm d4), e5.row r6.lt (Ne.symm d5)]; exact h7 k hk⟩, e5⟩
theorem TS.push (h : TS M ap hr og n a b sr f hk ho s l) (hd : DI ap hr og n a b sr) {j : Nat} {v : Int32} : TS (mset M sr j v) ap hr og n a b sr f hk ho s l := by
  obtain ⟨⟨h1, h2, h3⟩, hR, h5, h6, h7⟩ := h
  obtain ⟨⟨d1, d2, d3, d4, d5, d6⟩, ⟨e1, e2, e3, e4, e5⟩, ⟨f1, f2, f3, f4⟩, ⟨g1, g2, g3⟩, k1, k2⟩ := hd
  have h208 := hR.2.2.2.2.1
  exact ⟨⟨h1.ck h2 (CK.rf.set h208), h2, by rw [ms_a d6]; exact h3⟩, hR, fun k hk => by rw [ms_a (Ne.symm k1), ms_a (Ne.symm k2)]; exact h5 k hk, by rw [ms_a e5]; exact h6, fun k hk => by rw [ms_a f4, ms_a g3]; exact h7 k hk⟩
def mnode (M : Mem) (n a b f m : Nat) (K O : Int32) : Mem := mset (mset (mset M a (16 * f + m) K) b (16 * f + m) O) n f (nI (m + 1))
theorem TS.node (h : TS M ap hr og n a b sr f hk ho s l) (hd : DI ap hr og n a b sr) {q : Nd} (hl : l.length < 16) : TS (mnode M n a b f l.length q.1 (bc q)) ap hr og n a b sr f hk ho s (l ++ [q]) ∧ NAB M (mnode M n a b f l.length q.1 (bc q)) n a b f ∧ FrL (T5 ap n a b sr) 0 0 M (mnode M n a b f l.length q.1 (bc q)) ∧ (mnode M n a b f l.length q.1 (bc q)).1 sr = M.1 sr := by
  obtain ⟨⟨h1, h2, h3⟩, hR, h5, h6, h7⟩ := h
  obtain ⟨⟨d1, d2, d3, d4, d5, d6⟩, ⟨e1, e2, e3, e4, e5⟩, ⟨f1, f2, f3, f4⟩, ⟨g1, g2, g3⟩, k1, k2⟩ := hd
  have r4 := hR.2.1.1
  have r5 := hR.2.2.1.1
  have r6 := hR.2.2.2.1.1
  have ra : (mnode M n a b f l.length q.1 (bc q)).1 a = upd (M.1 a) (16 * f + l.length) q.1 := by rw [mnode, mset_ne (Ne.symm e3), mset_ne f3, mset_eq]
  have rb : (mnode M n a b f l.length q.1 (bc q)).1 b = upd (M.1 b) (16 * f + l.length) (bc q) := by rw [mnode, mset_ne (Ne.symm e4), mset_eq, mset_ne (Ne.symm f3)]
  have rn : (mnode M n a b f l.length q.1 (bc q)).1 n = upd (M.1 n) f (nI (l.length + 1)) := by rw [mnode, mset_eq, mset_ne e4, mset_ne e3]
  have ro : ∀ z, z ≠ a → z ≠ b → z ≠ n → (mnode M n a b f l.length q.1 (bc q)).1 z = M.1 z := fun z z1 z2 z3 => by rw [mnode, mset_ne z3, mset_ne z2, mset_ne z1]
  refine ⟨⟨⟨h1.ck h2 (((CK.rf.set r5).set r6).set r4), h2, by rw [ro ap d4 d5 d3]; exact h3⟩, hR, fun k hk => by rw [ro hr (Ne.symm f1) (Ne.symm g1) (Ne.symm e1), ro og (Ne.symm f2) (Ne.symm g2) (Ne.symm e2)]; exact h5 k hk, ?_, fun k hk => ?_⟩, ⟨fun i hi => by rw [rn]; exact if_neg hi, fun p hp => ⟨by rw [ra]; exact if_neg (by omega), by rw [rb]; exact if_neg (by omega)⟩⟩, ?_, ro sr (Ne.symm f4) (Ne.symm g3) (Ne.symm e5)⟩
  · rw [rn, List.length_append, List.length_singleton]
    exact if_pos rfl
  · rw [ra, rb]
    rw [List.length_append, List.length_singleton] at hk
    show (if 16 * f + k = 16 * f + l.length then q.1 else M.1 a (16 * f + k)) = _ ∧ (if 16 * f + k = 16 * f + l.length then bc q else M.1 b (16 * f + k)) = _
    by_cases e : k = l.length
    · subst e
      rw [if_pos rfl, if_pos rfl, nd_ge (Nat.le_refl _), Nat.sub_self]
      exact ⟨rfl, rfl⟩
    · rw [if_neg (by omega), if_neg (by omega), nd_lt (by omega)]
      exact h7 k (by omega)
  · exact ((FrL.rf.set (Or.inl (Or.inr (Or.inr (Or.inl rfl))))).set (Or.inl (Or.inr (Or.inr (Or.inr (Or.inl rfl)))))).set (Or.inl (Or.inr (Or.inl rfl)))
/-- where typing ends -/
def TyEnd (o : Option (Int32 × Mem)) (M : Mem) (ap hr og n a b sr f : Nat) (hk ho : Nat → Int32) (s : S3) (l : Fm) (tx : List Int32) (x : Fm) : Prop := ∃ M', o = some (1, M') ∧ TS M' ap hr og n a b sr f hk ho (s.1 ++ tx, s.2) (l ++ x) ∧ NAB M M' n a b f ∧ FrL (T5 ap n a b sr) 0 0 M M'
theorem TyEnd.of {o : Option (Int32 × Mem)} {M1 : Mem} {s1 : S3} {l1 : Fm} {tx tx1 : List Int32} {x x1 : Fm} (h : TyEnd o M1 ap hr og n a b sr f hk ho s1 l1 tx1 x1) (ht : s1.1 ++ tx1 = s.1 ++ tx) (hs : s1.2 = s.2) (hx : l1 ++ x1 = l ++ x) (hN : NAB M M1 n a b f) (hF : FrL (T5 ap n a b sr) 0 0 M M1) : TyEnd o M ap hr og n a b sr f hk ho s l tx x := by
  obtain ⟨M', e1, e2, e3, e4⟩ := h
  rw [ht, hs, hx] at e2
  exact ⟨M', e1, e2, hN.tr e3, hF.tr e4 (fun a h => Or.inl h)⟩
theorem ap_nab (h : TS M ap hr og n a b sr f hk ho s l) (hd : DI ap hr og n a b sr) {M' : Mem} (hF : FrL (fun z => z = ap) 0 0 M M') : NAB M M' n a b f ∧ FrL (T5 ap n a b sr) 0 0 M M' ∧ M'.1 sr = M.1 sr := by
  obtain ⟨-, ⟨⟨r1, r2, r3⟩, r4, r5, r6, r7⟩, -⟩ := h
  obtain ⟨⟨d1, d2, d3, d4, d5, d6⟩, -⟩ := hd
  exact ⟨NAB.of (hF.row r4.lt (Ne.symm d3)) (hF.row r5.lt (Ne.symm d4)) (hF.row r6.lt (Ne.symm d5)), hF.mono (fun a h => Or.inl (Or.inl h)) (Nat.le_refl _) (Nat.le_refl _), hF.row r7.lt (Ne.symm d6)⟩
theorem sr_nab (hd : DI ap hr og n a b sr) {j : Nat} {v : Int32} : NAB M (mset M sr j v) n a b f ∧ FrL (T5 ap n a b sr) 0 0 M (mset M sr j v) := by
  obtain ⟨-, ⟨e1, e2, e3, e4, e5⟩, ⟨f1, f2, f3, f4⟩, ⟨g1, g2, g3⟩, -⟩ := hd
  exact ⟨NAB.of (mset_ne e5) (mset_ne f4) (mset_ne g3), FrL.rf.set (Or.inl (Or.inr (Or.inr (Or.inr (Or.inr rfl)))))⟩
end TYS
