/-! the law's own rows in the memory -/
def LR (M : Mem) (a n : Nat) : Prop := 208 ≤ a ∧ a < M.2 5 ∧ M.2 (10 + a) = n
theorem lx_ok {M : Mem} {a n k : Nat} (h : LR M a n) (hk : k < n) (hn : n ≤ 1000) : lx M a (nI k) = true := by
  obtain ⟨h1, h2, h3⟩ := h
  rw [lx, h3, inbT hk (by omega)]
  simp [h1, h2]
theorem LR.set {M : Mem} {a n b k : Nat} {v : Int32} (h : LR M a n) : LR (mset M b k v) a n := h
theorem LR.lt {M : Mem} {a n : Nat} (h : LR M a n) : 208 ≤ a ∧ a < M.2 5 := ⟨h.1, h.2.1⟩
theorem LR.nw {M : Mem} {n : Nat} (h : 208 ≤ M.2 5) : LR (mnew M n) (M.2 5) n := ⟨h, by rw [mnew_5]; omega, mnew_ln⟩
theorem bN_1 {α : Type} {M : Mem} {f : Nat → Mem → Option α} : bN M 1 f = f (M.2 5) (mnew M 1) := rfl
theorem bN_2 {α : Type} {M : Mem} {f : Nat → Mem → Option α} : bN M 2 f = f (M.2 5) (mnew M 2) := rfl
theorem bN_8 {α : Type} {M : Mem} {f : Nat → Mem → Option α} : bN M 8 f = f (M.2 5) (mnew M 8) := rfl
theorem bN_16 {α : Type} {M : Mem} {f : Nat → Mem → Option α} : bN M 16 f = f (M.2 5) (mnew M 16) := rfl
theorem bN_64 {α : Type} {M : Mem} {f : Nat → Mem → Option α} : bN M 64 f = f (M.2 5) (mnew M 64) := rfl
/-- only rows of a kind, and new ones, have changed among the law's; how many more cells and slots there may be -/
def FrL (S : Nat → Prop) (c w : Nat) (M M' : Mem) : Prop := (∀ a, 208 ≤ a → a < M.2 5 → ¬ S a → M'.1 a = M.1 a) ∧ (∀ a, 208 ≤ a → a < M.2 5 → M'.2 (10 + a) = M.2 (10 + a)) ∧ (M.2 5 ≤ M'.2 5 ∧ M'.2 5 ≤ M.2 5 + c) ∧ M'.2 6 ≤ M.2 6 + w
/-- the class's cells are as they were -/
def CK (M M' : Mem) : Prop := (∀ a, a < 208 → M'.1 a = M.1 a) ∧ ∀ i, i < 5 → M'.2 i = M.2 i
theorem CK.rf {M : Mem} : CK M M := ⟨fun _ _ => rfl, fun _ _ => rfl⟩
theorem CK.tr {M M1 M2 : Mem} (h : CK M M1) (h2 : CK M1 M2) : CK M M2 := ⟨fun a ha => (h2.1 a ha).trans (h.1 a ha), fun i hi => (h2.2 i hi).trans (h.2 i hi)⟩
theorem CK.set {M M1 : Mem} {a k : Nat} {v : Int32} (h : CK M M1) (ha : 208 ≤ a) : CK M (mset M1 a k v) := ⟨fun b hb => by rw [mset_ne (by omega)]; exact h.1 b hb, h.2⟩
theorem CK.nw {M M1 : Mem} {n : Nat} (h : CK M M1) (h5 : 208 ≤ M1.2 5) : CK M (mnew M1 n) := ⟨fun b hb => by rw [mnew_ne (by omega)]; exact h.1 b hb, fun i hi => by rw [mnew_lt hi]; exact h.2 i hi⟩
theorem FrL.rf {S : Nat → Prop} {M : Mem} : FrL S 0 0 M M := ⟨fun _ _ _ _ => rfl, fun _ _ _ => rfl, ⟨Nat.le_refl _, Nat.le_refl _⟩, Nat.le_refl _⟩
theorem FrL.mono {S S' : Nat → Prop} {c w c' w' : Nat} {M M' : Mem} (h : FrL S c w M M') (hS : ∀ a, S a → S' a ∨ M.2 5 ≤ a) (hc : c ≤ c') (hw : w ≤ w') : FrL S' c' w' M M' :=
  ⟨fun a h1 h2 h3 => h.1 a h1 h2 (fun q => by rcases hS a q with r | r; exact h3 r; omega), h.2.1, ⟨h.2.2.1.1, by have := h.2.2.1.2; omega⟩, by have := h.2.2.2; omega⟩
theorem FrL.tr {S S1 : Nat → Prop} {c w c1 w1 : Nat} {M M1 M2 : Mem} (h : FrL S c w M M1) (h2 : FrL S1 c1 w1 M1 M2) (hS : ∀ a, S1 a → S a ∨ M.2 5 ≤ a) : FrL S (c + c1) (w + w1) M M2 := by
  obtain ⟨a1, a2, a3, a4⟩ := h
  obtain ⟨b1, b2, b3, b4⟩ := h2
  refine ⟨fun a h1 h2 h3 => ?_, fun a h1 h2 => ?_, ⟨by omega, by omega⟩, by omega⟩
  · rw [b1 a h1 (by omega) (fun q => by rcases hS a q with r | r; exact h3 r; omega), a1 a h1 h2 h3]
  · rw [b2 a h1 (by omega), a2 a h1 h2]
theorem FrL.set {S : Nat → Prop} {c w a k : Nat} {v : Int32} {M M1 : Mem} (h : FrL S c w M M1) (ha : S a ∨ M.2 5 ≤ a) : FrL S c w M (mset M1 a k v) :=
  ⟨fun b h1 h2 h3 => by rw [mset_ne (fun q => by rw [q] at h2 h3; rcases ha with r | r; exact h3 r; omega)]; exact h.1 b h1 h2 h3, h.2⟩
theorem FrL.nw {S : Nat → Prop} {c w n : Nat} {M M1 : Mem} (h : FrL S c w M M1) : FrL S (c + 1) (w + n) M (mnew M1 n) := by
  obtain ⟨a1, a2, a3, a4⟩ := h
  refine ⟨fun a h1 h2 h3 => ?_, fun a h1 h2 => ?_, ?_, ?_⟩
  · rw [mnew_ne (by omega)]; exact a1 a h1 h2 h3
  · rw [mnew_ln2 (by omega)]; exact a2 a h1 h2
  · rw [mnew_5]; omega
  · rw [mnew_6]; omega
theorem FrL.row {S : Nat → Prop} {c w a : Nat} {M M' : Mem} (h : FrL S c w M M') (ha : 208 ≤ a ∧ a < M.2 5) (hS : ¬ S a) : M'.1 a = M.1 a := h.1 a ha.1 ha.2 hS
theorem LR.fr {S : Nat → Prop} {c w a n : Nat} {M M' : Mem} (h : LR M a n) (hf : FrL S c w M M') : LR M' a n := by
  obtain ⟨h1, h2, h3⟩ := h
  have := hf.2.2.1.1
  exact ⟨h1, by omega, by rw [hf.2.1 a h1 h2]; exact h3⟩
/-- a call of the class -/
theorem OffC.fr {S : Nat → Prop} {M M' : Mem} (h : OffC M M') : FrL S 0 0 M M' := ⟨fun a h1 _ _ => h.1 a h1, fun a _ _ => h.2 _ (by omega), ⟨by rw [h.2 5 (by omega)]; exact Nat.le_refl _, by rw [h.2 5 (by omega)]; exact Nat.le_refl _⟩, by rw [h.2 6 (by omega)]; exact Nat.le_refl _⟩
theorem bk_ok {β : Type} {M M' : Mem} {v : Int32} {o : Option (Int32 × Mem)} {k : Int32 → Mem → Option β} (h : o = some (v, M')) (hc : OffC M M') : bk M o k = k v M' := by
  rw [h]
  exact if_pos ⟨hc.2 5 (by omega), hc.2 6 (by omega)⟩
theorem RepC.ck {M M' : Mem} {s : S3} (h : RepC M s) (hk : OKs s) (hc : CK M M') : RepC M' s := by
  obtain ⟨⟨h1, h2⟩, h3, ⟨h4, h5, h6, h7, h8⟩, h9, h10⟩ := h
  have oP : Off (fun a => 208 ≤ a) M (M'.1, M.2) := ⟨fun a ha => hc.1 a (by omega), rfl⟩
  refine ⟨⟨by rw [hc.1 1 (by omega)]; exact h1, fun i hi => by rw [hc.1 2 (by omega)]; exact h2 i hi⟩, (show SA (M'.1, M.2) 24 s.2.1 from h3.off oP hk.2.2.1.1.2 (fun a ha => by have : _ ∧ _ := ha; omega)), ⟨by rw [hc.1 0 (by omega)]; exact h4, h5, fun i hi => by rw [hc.2 i hi]; exact h6 i hi, fun i i' hi hi' hh => h7 i i' hi hi' (by rw [hc.2 i hi, hc.2 i' hi'] at hh; exact hh), fun j hj => ?_⟩, (show EXA (M'.1, M.2) s.2.1 from h9.off oP hk.2.2.1.1.2 (fun a ha => by have : _ ∧ _ := ha; omega)), (show EX0 (M'.1, M.2) from h10.off oP (fun a ha => by have : _ ∧ _ := ha; omega))⟩
  rw [hc.2 j (by omega)]
  obtain ⟨i, hi, hm⟩ := h6 j (by omega)
  have hmem : s.2.2.getD j st0 ∈ s.2.2 := by
    rw [List.getD_eq_getElem?_getD, List.getElem?_eq_getElem hj]
    exact List.getElem_mem _
  exact (show SA (M'.1, M.2) (M.2 j) (s.2.2.getD j st0) from (h8 j hj).off oP (hk.2.2.2.1 _ hmem).1.2 (fun a ha => by have : _ ∧ _ := ha; omega))
theorem ms_eq {M : Mem} {a k : Nat} {v : Int32} : (mset M a k v).1 a k = v := by rw [ms1, if_pos rfl, if_pos rfl]
theorem ms_k {M : Mem} {a k j : Nat} {v : Int32} (h : j ≠ k) : (mset M a k v).1 a j = M.1 a j := by rw [ms1, if_pos rfl, if_neg h]
theorem ms_a {M : Mem} {a k b j : Nat} {v : Int32} (h : b ≠ a) : (mset M a k v).1 b j = M.1 b j := by rw [ms1, if_neg h]
theorem ms_k' {M : Mem} {a k j : Nat} {v : Int32} : (mset M a k v).1 a j = if j = k then v else M.1 a j := by rw [ms1, if_pos rfl]
/-- the sheet that the law holds -/
def bc (q : Nd) : Int32 := if q.1 < 3 then q.2 else -1000009
def LF (M : Mem) (n a b : Nat) (fs : List Fm) : Prop := ∀ f, f < fs.length → M.1 n f = nI (gf fs f).length ∧ ∀ k, k < (gf fs f).length → M.1 a (16 * f + k) = (nd (gf fs f) k).1 ∧ M.1 b (16 * f + k) = bc (nd (gf fs f) k)
/-- formulas as the law types them -/
def OKL (fs : List Fm) : Prop := (1 ≤ fs.length ∧ fs.length ≤ 4) ∧ ∀ i, i < fs.length → wf (gf fs i) ∧ (gf fs i).length ≤ 15 ∧ ∀ k, k < (gf fs i).length → okN i (nd (gf fs i) k)
theorem OKL.s {fs : List Fm} (h : OKL fs) : OKS fs := ⟨⟨h.1.1, by have := h.1.2; omega⟩, fun i hi => ⟨(h.2 i hi).1, by have := (h.2 i hi).2.1; omega, (h.2 i hi).2.2⟩⟩
/-- the law's rows: how many formulas and places, cells, sizes, kinds, contents -/
def LSR (M : Mem) (g n a b : Nat) (fs : List Fm) : Prop := (LR M g 2 ∧ LR M n 8 ∧ LR M a 64 ∧ LR M b 64) ∧ M.1 g 0 = nI fs.length ∧ LF M n a b fs
theorem LF.rows {M M' : Mem} {n a b : Nat} {fs : List Fm} (h : LF M n a b fs) (h1 : M'.1 n = M.1 n) (h2 : M'.1 a = M.1 a) (h3 : M'.1 b = M.1 b) : LF M' n a b fs := by
  intro f hf
  rw [h1, h2, h3]
  exact h f hf
theorem LSR.fr {S : Nat → Prop} {c w g n a b : Nat} {fs : List Fm} {M M' : Mem} (h : LSR M g n a b fs) (hf : FrL S c w M M') (h1 : ¬ S g) (h2 : ¬ S n) (h3 : ¬ S a) (h4 : ¬ S b) : LSR M' g n a b fs := by
  obtain ⟨⟨r1, r2, r3, r4⟩, e1, e2⟩ := h
  exact ⟨⟨r1.fr hf, r2.fr hf, r3.fr hf, r4.fr hf⟩, by rw [hf.row r1.lt h1]; exact e1, e2.rows (hf.row r2.lt h2) (hf.row r3.lt h3) (hf.row r4.lt h4)⟩
theorem OKL.nd {fs : List Fm} (h : OKL fs) {f k : Nat} (hf : f < fs.length) (hk : k < (gf fs f).length) : okN f (nd (gf fs f) k) := (h.2 f hf).2.2 k hk
