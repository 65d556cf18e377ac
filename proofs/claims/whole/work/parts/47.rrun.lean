/-! the stack of the reference's plan -/
def TP (M : Mem) (tp k : Nat) (p : Int32) (s : Nat) : Prop := M.1 208 37 = nI (tp + 1) ∧ M.1 225 tp = nI k ∧ M.1 226 tp = p ∧ M.1 227 tp = nI s
/-- the rows of an expanded form, for the reference's plan -/
def EB (M : Mem) (i : Nat) (lv : Nd → Int32) (l : Fm) : Prop := M.1 208 33 = nI i ∧ i < 6 ∧ ∀ k, k < l.length → M.1 216 (90 * i + k) = (nd l k).1 ∧ M.1 218 (90 * i + k) = nI (tr lv l k).1 ∧ M.1 219 (90 * i + k) = nI (tr lv l k).2.1
theorem EB.q {tp : Nat} {M M' : Mem} {i : Nat} {lv : Nd → Int32} {l : Fm} (h : EB M i lv l) (hq : QF tp M M') : EB M' i lv l := by
  obtain ⟨h1, h2, h3⟩ := h
  refine ⟨by rw [hq.2.1 33 (by omega)]; exact h1, h2, fun k hk => ?_⟩
  rw [hq.1.1 216 (by omega), hq.1.1 218 (by omega), hq.1.1 219 (by omega)]
  exact h3 k hk
def pushM (M : Mem) (tq : Nat) (x1 x2 : Int32) : Mem := mset (mset (mset (mset M 225 tq x1) 226 tq x2) 227 tq 0) 208 37 (nI (tq + 1))
theorem pushes_e {M : Mem} {tq : Nat} {x1 x2 : Int32} (h : M.1 208 37 = nI tq) (ht : tq < 100) : f_Md_pushes x1 x2 M = some ((), pushM M tq x1 x2) := by
  have g : inb (nI tq) 100 = true := inbT ht (by omega)
  have e1 : ∀ (A : Mem) a k v, a ≠ 208 → (mset A a k v).1 208 37 = A.1 208 37 := fun A a k v ha => by rw [mset_ne (fun q => ha q.symm)]
  rw [f_Md_pushes]
  simp only [bm_e, e1 _ 225 _ _ (by omega), e1 _ 226 _ _ (by omega), e1 _ 227 _ _ (by omega), h, g, gd_t, ixN (show tq < 2 ^ 31 by omega), nI_s]
  rfl
theorem push_q {M : Mem} {tq : Nat} {x1 x2 : Int32} : QF tq M (pushM M tq x1 x2) := by
  refine ⟨?_, fun k hk => ?_, fun j hj => ?_⟩
  · exact (((Off.set (by show _ ∨ _; omega)).tr (Off.set (by show _ ∨ _; omega))).tr (Off.set (by show _ ∨ _; omega))).tr (Off.set (by show _ ∨ _; omega))
  · have : k ≠ 37 := by omega
    simp [pushM, ms1, this]
  · have : j ≠ tq := by omega
    simp [pushM, ms1, this]
theorem push_t {M : Mem} {tq : Nat} {k : Nat} {p : Int32} : TP (pushM M tq (nI k) p) tq k p 0 := by
  refine ⟨?_, ?_, ?_, ?_⟩ <;> simp [pushM, ms1, nI_0]
theorem PB.keep {M M' : Mem} {t : List Ev} {w : Int32} (h : PB M t w) (h1 : ∀ k, 25 ≤ k → k ≤ 31 → M'.1 208 k = M.1 208 k) (h2 : M'.1 224 = M.1 224) : PB M' t w := by
  rw [PB, h1 25 (by omega) (by omega), h1 26 (by omega) (by omega), h1 27 (by omega) (by omega), h1 28 (by omega) (by omega), h1 29 (by omega) (by omega), h1 30 (by omega) (by omega), h1 31 (by omega) (by omega), h2]
  exact h
theorem push_p {M : Mem} {t : List Ev} {w : Int32} {tq : Nat} {x1 x2 : Int32} (h : PB M t w) : PB (pushM M tq x1 x2) t w :=
  h.keep (fun k h1 h2 => by have : k ≠ 37 := by omega
                            simp [pushM, ms1, this]) (by funext j; simp [pushM, ms1])
/-- a number of turns of the loop -/
def RUN (M : Mem) (c : Nat) (M' : Mem) : Prop := ∀ k41 x1 x3 m, f_Md_plans_b76 k41 (m + c) x1 x3 M = f_Md_plans_b76 k41 m x1 x3 M'
theorem RUN.tr {M M1 M2 : Mem} {a b : Nat} (h : RUN M a M1) (g : RUN M1 b M2) : RUN M (a + b) M2 := fun k41 x1 x3 m => by
  rw [Nat.add_comm a b, ← Nat.add_assoc, h, g]
theorem RUN.one {M M' : Mem} {tp : Nat} (h : M.1 208 37 = nI (tp + 1)) (ht : tp < 100) (hg : f_Md_goesOn M = some ((), M')) : RUN M 1 M' := fun k41 x1 x3 m => by
  rw [f_Md_plans_b76, h, if_neg (by rw [← nI_0]; exact nI_ge (by omega) (by omega)), hg, bd_s]
/-- a step is done and the top goes -/
theorem pop_ok {M : Mem} {t : List Ev} {w : Int32} {i nn tp : Nat} {kd pr mo : Int32} (h : PB M t w) (hl : t.length < 726) (h33 : M.1 208 33 = nI i) (h37 : M.1 208 37 = nI (tp + 1)) : ∃ M', (bd (f_Md_does kd (nI nn) pr mo M) fun _ M1 => bm (mset M1 208 37 ((M1.1 208 37) - 1)) fun M2 => some ((), M2)) = some ((), M') ∧ PB M' (t ++ [(kd, i, nn, pr, mo)]) w ∧ QF tp M M' ∧ M'.1 208 37 = nI tp := by
  obtain ⟨M1, e1, p1, o1, s1⟩ := does_ok (kd := kd) (pr := pr) (mo := mo) (nn := nn) h hl h33
  rw [e1, bd_s, bm_e, s1 37 (by omega), h37, nI_m1]
  refine ⟨_, rfl, p1.keep (fun k h1 h2 => by have : k ≠ 37 := by omega
                                             simp [ms1, this]) (by rw [mset_ne (by omega)]), ⟨(o1.mono (fun a q => by omega)).tr (Off.set (Or.inl rfl)), fun k hk => ?_, fun j hj => ?_⟩, by simp [ms1]⟩
  · have : k ≠ 37 := by omega
    rw [ms1, if_pos rfl, if_neg this]
    exact s1 k (by omega)
  · rw [mset_ne (by omega), mset_ne (by omega), mset_ne (by omega), o1.1 225 (by omega), o1.1 226 (by omega), o1.1 227 (by omega)]
    exact ⟨rfl, rfl, rfl⟩
theorem does_q {M : Mem} {t : List Ev} {w : Int32} {i nn tp : Nat} {kd pr mo : Int32} (h : PB M t w) (hl : t.length < 726) (h33 : M.1 208 33 = nI i) : ∃ M', f_Md_does kd (nI nn) pr mo M = some ((), M') ∧ PB M' (t ++ [(kd, i, nn, pr, mo)]) w ∧ QF tp M M' ∧ M'.1 208 37 = M.1 208 37 ∧ M'.1 225 = M.1 225 ∧ M'.1 226 = M.1 226 ∧ M'.1 227 = M.1 227 := by
  obtain ⟨M1, e1, p1, o1, s1⟩ := does_ok (kd := kd) (pr := pr) (mo := mo) (nn := nn) h hl h33
  refine ⟨M1, e1, p1, ⟨o1.mono (fun a q => by omega), fun k hk => s1 k (by omega), fun j hj => ?_⟩, s1 37 (by omega), o1.1 _ (by omega), o1.1 _ (by omega), o1.1 _ (by omega)⟩
  rw [o1.1 225 (by omega), o1.1 226 (by omega), o1.1 227 (by omega)]
  exact ⟨rfl, rfl, rfl⟩
/-- what goesOn reads first -/
theorem gos_e {M : Mem} {tp k s i : Nat} {p : Int32} {lv : Nd → Int32} {l : Fm} (hT : TP M tp k p s) (hE : EB M i lv l) (hk : k < l.length) (hl : l.length ≤ 60) (htp : tp < 100) : f_Md_goesOn M = (if 3 ≤ (nd l k).1 then (if (nd l k).1 = 3 then gd (inb (nI tp) 100) ((if nI s = 0 then gd (inb (nI tp) 100) (bm (mset M 227 (ix (nI tp)) 1) fun M10 => bd (f_Md_pushes (nI (k + 1)) p M10) fun _ M11 => some ((), M11))
  else bd (f_Md_does 1 (nI k) 1 0 M) fun _ M8 => bm (mset M8 208 37 ((M8.1 208 37) - 1)) fun M9 => some ((), M9)))
  else bi (nI (k + 1)) fun y6 => gd (inb (nI (90 * i + k + 1)) 540) (bi (y6 + (M.1 218 (ix (nI (90 * i + k + 1))))) fun y7 => gd (inb ((90 * nI i) + y7) 540) (gd (inb ((90 * nI i) + y6) 540) ((if (M.1 219 (ix ((90 * nI i) + y7))) ≤ (M.1 219 (ix ((90 * nI i) + y6))) then f_Md_goesOn_b194 (nI tp) (nI k) p (nd l k).1 y6 y7 0 M
  else f_Md_goesOn_b194 (nI tp) (nI k) p (nd l k).1 y6 y7 1 M)))))
  else (if (nd l k).1 = 2 then f_Md_goesOn_b58 (nI k) (nd l k).1 5 M
  else f_Md_goesOn_b58 (nI k) (nd l k).1 0 M)) := by
  obtain ⟨t1, t2, t3, t4⟩ := hT
  obtain ⟨h33, hi, hr⟩ := hE
  have g : inb (nI tp) 100 = true := inbT htp (by omega)
  have g2 : inb (nI (90 * i + k)) 540 = true := inbT (by omega) (by omega)
  rw [f_Md_goesOn, t1, nI_m1, bi_e, gd_of g, bi_e, bi_e, gd_of g, bi_e, ixN (show tp < 2 ^ 31 by omega), t2, t3, h33, w90, gd_of g2, bi_e, ixN (show 90 * i + k < 2 ^ 31 by omega), (hr k hk).1, t4, nI_s, nI_s]
theorem gos_pair {M : Mem} {tp k s i : Nat} {p : Int32} {lv : Nd → Int32} {l : Fm} (hw : wf l) (hT : TP M tp k p s) (hE : EB M i lv l) (hk : k < l.length) (hl : l.length ≤ 60) (htp : tp < 100) (ha : ar (nd l k).1 = 2) {one two : Nat}
    (h1 : one = if (tr lv l (k + 1)).2.1 < (tr lv l (k + 1 + (tr lv l (k + 1)).1)).2.1 then k + 1 + (tr lv l (k + 1)).1 else k + 1) (h2 : two = if (tr lv l (k + 1)).2.1 < (tr lv l (k + 1 + (tr lv l (k + 1)).1)).2.1 then k + 1 else k + 1 + (tr lv l (k + 1)).1) :
    f_Md_goesOn M = f_Md_goesOn_b249 (nI tp) (nI k) p (nd l k).1 (nI one) (nI two) (if p ≤ nI (tr lv l two).2.1 then 0 else 1) M := by
  have c3 : 3 ≤ (nd l k).1 := ar_3.mpr (by omega)
  have n3 : ¬ (nd l k).1 = 3 := fun q => by rw [q] at ha; exact absurd ha (by decide)
  obtain ⟨b1, b2⟩ := wf_2 (lv := lv) hw hk ha
  have hnb : ∀ z, z < l.length → (tr lv l z).2.1 ≤ 60 := fun z hz => by
    have z1 := tr_le (lv := lv) (l := l) (l.length - z + 1) z (by omega)
    have z2 := wf_size (lv := lv) hw hz
    omega
  have hn1 := hnb _ b1
  have hn2 := hnb _ b2
  rw [gos_e hT hE hk hl htp, if_pos c3, if_neg n3, bi_e, gd_of (inbT (by have := hE.2.1; omega) (by omega)), bi_e, ixN (by have := hE.2.1; omega)]
  obtain ⟨h33, hi, hr⟩ := hE
  have e218 := (hr (k + 1) b1).2.1
  rw [show 90 * i + (k + 1) = 90 * i + k + 1 by omega] at e218
  rw [e218, nI_add, w90, w90]
  generalize hA : k + 1 = A at *
  generalize hB : A + (tr lv l A).1 = B at *
  have gA : inb (nI (90 * i + A)) 540 = true := inbT (by omega) (by omega)
  have gB : inb (nI (90 * i + B)) 540 = true := inbT (by omega) (by omega)
  rw [gd_of gB, gd_of gA, ixN (show 90 * i + B < 2 ^ 31 by omega), ixN (show 90 * i + A < 2 ^ 31 by omega), (hr A b1).2.2, (hr B b2).2.2]
  have fin : ∀ o tw : Nat, tw < l.length → f_Md_goesOn_b222 (nI tp) (nI k) p (nd l k).1 (nI o) (nI tw) M = f_Md_goesOn_b249 (nI tp) (nI k) p (nd l k).1 (nI o) (nI tw) (if p ≤ nI (tr lv l tw).2.1 then 0 else 1) M := by
    intro o tw htw
    rw [f_Md_goesOn_b222, h33, w90, gd_of (inbT (by omega) (by omega)), ixN (by omega), (hr tw htw).2.2]
    split <;> rfl
  by_cases cn : (tr lv l A).2.1 < (tr lv l B).2.1
  · rw [if_pos cn] at h1 h2
    rw [if_neg (nI_ge cn (by omega)), f_Md_goesOn_b194, if_neg (by decide), f_Md_goesOn_b208, if_neg (by decide), h1, h2]
    exact fin B A b1
  · rw [if_neg cn] at h1 h2
    rw [if_pos (nI_le (by omega) (by omega)), f_Md_goesOn_b194, if_pos rfl, f_Md_goesOn_b208, if_pos rfl, h1, h2]
    exact fin A B b2
