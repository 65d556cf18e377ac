/-! reading, on the reference's side: the rows, puts and settles -/
abbrev ES : Type := Int32 × Fm
def isBin (c : Int32) : Prop := c = 42 ∨ c = 43 ∨ c = 45
def isUn (c : Int32) : Prop := c = 40 ∨ c = 33
def kd0 (c : Int32) : Int32 := if c = 33 then 3 else if c = 43 then 4 else if c = 45 then 5 else 6
def bnd (c : Int32) : Nat := if c = 40 then 0 else if c = 33 then 3 else if c = 42 then 2 else 1
def lay0 : List ES → Fm
  | [] => []
  | e :: C => lay0 C ++ e.2
def opn (e : ES) : Fm := if e.1 = 40 then [] else (kd0 e.1, 0) :: e.2
def layC : List ES → Fm
  | [] => []
  | e :: C => layC C ++ opn e
def nseg : List ES → Nat
  | [] => 0
  | e :: C => nseg C + (if e.1 = 40 ∨ e.1 = 33 then 0 else 1)
def deepC : List ES → Nat
  | [] => 0
  | e :: C => deepC C + (if e.1 = 40 ∨ e.1 = 33 then 1 else 0)
def okC : List ES → Prop
  | [] => True
  | e :: C => ((isUn e.1 ∧ e.2 = []) ∨ (isBin e.1 ∧ wf e.2)) ∧ okC C
def WA2 (M : Mem) : List ES → Prop
  | [] => True
  | e :: C => M.1 214 C.length = e.1 ∧ WA2 M C
def SG2 (M : Mem) : List ES → Prop
  | [] => True
  | e :: C => (¬ (e.1 = 40 ∨ e.1 = 33) → M.1 213 (nseg C) = nI (lay0 C).length) ∧ SG2 M C
def FR (M : Mem) (fm : Nat) (l : Fm) : Prop := ∀ k, k < l.length → M.1 212 (16 + 60 * fm + 2 * k) = (nd l k).1 ∧ (ar (nd l k).1 = 0 → M.1 212 (17 + 60 * fm + 2 * k) = (nd l k).2)
def TX (M : Mem) (tx : List Int32) : Prop := M.1 208 4 = nI tx.length ∧ ∀ j, j < tx.length → M.1 211 j = tx.getD j 0
/-- what reading a formula leaves as it was -/
def QP (fm : Nat) (M M' : Mem) : Prop := Off (fun a => a = 208 ∨ a = 212 ∨ a = 213 ∨ a = 214) M M' ∧ (∀ k, (k < 6 ∨ k = 7 ∨ 15 < k) → M'.1 208 k = M.1 208 k) ∧ ∀ j, (j < 16 + 60 * fm ∨ 16 + 60 * fm + 60 ≤ j) → M'.1 212 j = M.1 212 j
theorem QP.rf {fm : Nat} {M : Mem} : QP fm M M := ⟨Off.rf, fun _ _ => rfl, fun _ _ => rfl⟩
theorem QP.tr {fm : Nat} {M M1 M2 : Mem} (h : QP fm M M1) (g : QP fm M1 M2) : QP fm M M2 := ⟨h.1.tr g.1, fun k hk => (g.2.1 k hk).trans (h.2.1 k hk), fun j hj => (g.2.2 j hj).trans (h.2.2 j hj)⟩
theorem QP.s {fm : Nat} {M : Mem} {k : Nat} {v : Int32} (h : ¬ (k < 6 ∨ k = 7 ∨ 15 < k)) : QP fm M (mset M 208 k v) := ⟨Off.set (Or.inl rfl), fun j hj => by
  have : j ≠ k := fun q => h (by omega)
  simp [ms1, this], fun j hj => by simp [ms1]⟩
theorem QP.a {fm : Nat} {M : Mem} {a k : Nat} {v : Int32} (h : a = 213 ∨ a = 214) : QP fm M (mset M a k v) := ⟨Off.set (by omega), fun j hj => by rw [mset_ne (by omega)], fun j hj => by rw [mset_ne (by omega)]⟩
theorem TX.q {fm : Nat} {M M' : Mem} {tx : List Int32} (h : TX M tx) (hq : QP fm M M') : TX M' tx := ⟨by rw [hq.2.1 4 (by omega)]; exact h.1, fun j hj => by rw [hq.1.1 211 (by omega)]; exact h.2 j hj⟩
def hs (tx : List Int32) (i : Nat) : Int32 := if i < tx.length then sg tx i else -1000009
theorem here_ok {M : Mem} {tx : List Int32} {i : Nat} (h : TX M tx) (h6 : M.1 208 6 = nI i) (hi : i ≤ tx.length) (hx : tx.length ≤ 100) : f_Md_here M = some (hs tx i, M) := by
  rw [f_Md_here, h.1, h6, hs]
  by_cases c : i < tx.length
  · rw [if_neg (nI_ge c (by omega)), if_pos c, gd_of (inbT (by omega) (by omega)), ixN (by omega), h.2 i c]
    rfl
  · rw [if_pos (nI_le (by omega) (by omega)), if_neg c]
theorem hs_eq {tx : List Int32} {i : Nat} {x : Int32} (h0 : x ≠ 0) (h9 : x ≠ -1000009) : hs tx i = x ↔ sg tx i = x := by
  rw [hs]
  by_cases c : i < tx.length
  · rw [if_pos c]
  · rw [if_neg c]
    have e : sg tx i = 0 := by simp [sg, List.getElem?_eq_none (Nat.le_of_not_lt c)]
    rw [e]
    exact ⟨fun q => absurd q.symm h9, fun q => absurd q.symm h0⟩
theorem wb (fm : Nat) : (16 : Int32) + 60 * nI fm = nI (16 + 60 * fm) := by rw [show (16 : Int32) = nI 16 from rfl, show (60 : Int32) = nI 60 from rfl, nI_mul, nI_add]
theorem puts18 {p B : Nat} {kd ct : Int32} : ∀ (n q : Nat) (M : Mem), p ≤ q → q - p < n → B + 2 * q + 1 < 376 →
    ∃ M', f_Md_puts_b18 n (nI p) kd ct (nI B) (nI q) M = some ((), M') ∧ (∀ j, M'.1 212 j = if j = B + 2 * p then kd else if j = B + 2 * p + 1 then ct else if B + 2 * p + 2 ≤ j ∧ j < B + 2 * q + 2 then M.1 212 (j - 2) else M.1 212 j) ∧ M'.1 208 = upd (M.1 208) 8 (M.1 208 8 + 1) ∧ Off (fun a => a = 208 ∨ a = 212) M M' := by
  intro n
  induction n with
  | zero => intro q M _ h; omega
  | succ n ih =>
    intro q M hp hn hB
    have w : ∀ k, nI B + (2 : Int32) * nI k = nI (B + 2 * k) := fun k => by rw [show (2 : Int32) = nI 2 from rfl, nI_mul, nI_add]
    rw [f_Md_puts_b18]
    by_cases c : q = p
    · subst c
      have g1 : inb (nI (B + 2 * q)) 376 = true := inbT (by omega) (by omega)
      have g2 : inb (nI (B + 2 * q + 1)) 376 = true := inbT (by omega) (by omega)
      rw [if_pos (nI_le (Nat.le_refl _) (by omega)), w, nI_s, gd_of g1, bm_e, gd_of g2, bm_e, bm_e, ixN (by omega), ixN (by omega)]
      refine ⟨_, rfl, fun j => ?_, ?_, ((Off.set (Or.inr rfl)).tr (Off.set (Or.inr rfl))).tr (Off.set (Or.inl rfl))⟩
      · rw [mset_ne (show (212 : Nat) ≠ 208 by omega), ms1, if_pos rfl, ms1, if_pos rfl]
        by_cases d : j = B + 2 * q
        · rw [if_pos d, if_neg (by omega), if_pos d]
        · rw [if_neg d, if_neg d]
          by_cases d2 : j = B + 2 * q + 1
          · rw [if_pos d2, if_pos d2]
          · rw [if_neg d2, if_neg d2, if_neg (by omega)]
      · rw [mset_eq, mset_ne (show (208 : Nat) ≠ 212 by omega), mset_ne (show (208 : Nat) ≠ 212 by omega)]
    · obtain ⟨z, rfl⟩ : ∃ z, q = z + 1 := ⟨q - 1, by omega⟩
      have e2 : nI (B + 2 * (z + 1)) - 2 = nI (B + 2 * z) := by rw [show (2 : Int32) = nI 2 from rfl, nI_sb (by omega)]; congr 1
      have e1 : nI (B + 2 * (z + 1)) - 1 = nI (B + 2 * z + 1) := by rw [show (1 : Int32) = nI 1 from rfl, nI_sb (by omega)]; congr 1
      have g1 : inb (nI (B + 2 * z)) 376 = true := inbT (by omega) (by omega)
      have g2 : inb (nI (B + 2 * z + 1)) 376 = true := inbT (by omega) (by omega)
      have g3 : inb (nI (B + 2 * (z + 1))) 376 = true := inbT (by omega) (by omega)
      have g4 : inb (nI (B + 2 * (z + 1) + 1)) 376 = true := inbT (by omega) (by omega)
      rw [if_neg (nI_ge (by omega) (by omega)), w, e2, e1, nI_s, gd_of g1, gd_of g3, bm_e, gd_of g2, gd_of g4, bm_e, bi_e, nI_p, ixN (by omega), ixN (by omega), ixN (by omega), ixN (by omega)]
      have o1 : Off (fun a => a = 208 ∨ a = 212) M (mset (mset M 212 (B + 2 * (z + 1)) (M.1 212 (B + 2 * z))) 212 (B + 2 * (z + 1) + 1) ((mset M 212 (B + 2 * (z + 1)) (M.1 212 (B + 2 * z))).1 212 (B + 2 * z + 1))) := (Off.set (Or.inr rfl)).tr (Off.set (Or.inr rfl))
      have hw : ∀ j, (mset (mset M 212 (B + 2 * (z + 1)) (M.1 212 (B + 2 * z))) 212 (B + 2 * (z + 1) + 1) ((mset M 212 (B + 2 * (z + 1)) (M.1 212 (B + 2 * z))).1 212 (B + 2 * z + 1))).1 212 j = if j = B + 2 * z + 2 ∨ j = B + 2 * z + 3 then M.1 212 (j - 2) else M.1 212 j := by
        intro j
        rw [ms1, if_pos rfl, ms1, if_pos rfl, ms1, if_pos rfl, if_neg (show ¬ B + 2 * z + 1 = B + 2 * (z + 1) by omega)]
        by_cases d : j = B + 2 * z + 3
        · rw [if_pos (by omega), if_pos (Or.inr d), d]
          congr 1
        · rw [if_neg (by omega)]
          by_cases d2 : j = B + 2 * z + 2
          · rw [if_pos (by omega), if_pos (Or.inl d2), d2]
            congr 1
          · rw [if_neg (by omega), if_neg (by omega)]
      have h8 : (mset (mset M 212 (B + 2 * (z + 1)) (M.1 212 (B + 2 * z))) 212 (B + 2 * (z + 1) + 1) ((mset M 212 (B + 2 * (z + 1)) (M.1 212 (B + 2 * z))).1 212 (B + 2 * z + 1))).1 208 = M.1 208 := by rw [mset_ne (by omega), mset_ne (by omega)]
      generalize mset (mset M 212 (B + 2 * (z + 1)) (M.1 212 (B + 2 * z))) 212 (B + 2 * (z + 1) + 1) ((mset M 212 (B + 2 * (z + 1)) (M.1 212 (B + 2 * z))).1 212 (B + 2 * z + 1)) = M1 at *
      obtain ⟨M2, u1, u2, u3, u4⟩ := ih z M1 (by omega) (by omega) (by omega)
      refine ⟨M2, u1, fun j => ?_, by rw [u3, h8], o1.tr u4⟩
      rw [u2 j]
      by_cases d : j = B + 2 * p
      · rw [if_pos d, if_pos d]
      rw [if_neg d, if_neg d]
      by_cases d2 : j = B + 2 * p + 1
      · rw [if_pos d2, if_pos d2]
      rw [if_neg d2, if_neg d2]
      by_cases d3 : B + 2 * p + 2 ≤ j ∧ j < B + 2 * z + 2
      · rw [if_pos d3, if_pos (by omega), hw, if_neg (by omega)]
      · rw [if_neg d3, hw]
        by_cases d4 : j = B + 2 * z + 2 ∨ j = B + 2 * z + 3
        · rw [if_pos d4, if_pos (by omega)]
        · rw [if_neg d4, if_neg (by omega)]
theorem nd_ins {l : Fm} {p k : Nat} {q : Nd} (hp : p ≤ l.length) : nd (ins p q l) k = if k < p then nd l k else if k = p then q else nd l (k - 1) := by
  rw [ins]
  by_cases c : k < p
  · rw [if_pos c, nd_lt (by simp; omega), nd_take c]
  · rw [if_neg c, nd_ge (by simp; omega)]
    have e : k - (l.take p).length = k - p := by simp; omega
    rw [e]
    by_cases d : k = p
    · rw [if_pos d, d, Nat.sub_self, nd_0]
    · rw [if_neg d]
      obtain ⟨z, hz⟩ : ∃ z, k - p = z + 1 := ⟨k - p - 1, by omega⟩
      rw [hz, nd_s, nd_drop]
      congr 1; omega
theorem puts_ok {M : Mem} {fm p : Nat} {l : Fm} {kd ct : Int32} {ct' : Int32} (h7 : M.1 208 7 = nI fm) (h8 : M.1 208 8 = nI l.length) (hF : FR M fm l) (hfm : fm ≤ 5) (hp : p ≤ l.length) (hl : l.length < 30) (hc : ar kd = 0 → ct = ct') :
    ∃ M', f_Md_puts (nI p) kd ct M = some ((), M') ∧ FR M' fm (ins p (kd, ct') l) ∧ M'.1 208 = upd (M.1 208) 8 (nI (l.length + 1)) ∧ Off (fun a => a = 208 ∨ a = 212) M M' ∧ ∀ j, (j < 16 + 60 * fm ∨ 16 + 60 * fm + 60 ≤ j) → M'.1 212 j = M.1 212 j := by
  rw [f_Md_puts, h7, h8, wb, bi_e, bi_e]
  obtain ⟨M1, e1, e2, e3, e4⟩ := puts18 (p := p) (B := 16 + 60 * fm) (kd := kd) (ct := ct) FU l.length M hp (by rw [FU_e]; omega) (by omega)
  refine ⟨M1, e1, fun k hk => ?_, by rw [e3, h8, nI_s], e4, fun j hj => by rw [e2, if_neg (by omega), if_neg (by omega), if_neg (by omega)]⟩
  rw [ins_len] at hk
  rw [nd_ins hp, e2, e2]
  by_cases c : k < p
  · rw [if_pos c, if_neg (by omega), if_neg (by omega), if_neg (by omega), if_neg (by omega), if_neg (by omega), if_neg (by omega)]
    exact hF k (by omega)
  · rw [if_neg c]
    by_cases d : k = p
    · rw [if_pos d, if_pos (by omega), if_neg (by omega), if_pos (by omega)]
      exact ⟨rfl, fun a => hc a⟩
    · rw [if_neg d, if_neg (by omega), if_neg (by omega), if_pos (by omega), if_neg (by omega), if_neg (by omega), if_pos (by omega)]
      have := hF (k - 1) (by omega)
      rw [show 16 + 60 * fm + 2 * k - 2 = 16 + 60 * fm + 2 * (k - 1) by omega, show 17 + 60 * fm + 2 * k - 2 = 17 + 60 * fm + 2 * (k - 1) by omega]
      exact this
