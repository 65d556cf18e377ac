/-! formulas in a heap: their nodes, their text -/
def nod (hk ho : Nat → Int32) (k : Nat) : Nd := (hk k, if hk k < 3 then ho k else 0)
def hT (hk ho : Nat → Int32) : Nat → Nat → Fm
  | 0, k => [nod hk ho k]
  | d + 1, k => if hk k < 3 then [nod hk ho k] else if hk k = 3 then nod hk ho k :: hT hk ho d (2 * k + 1) else nod hk ho k :: (hT hk ho d (2 * k + 1) ++ hT hk ho d (2 * k + 2))
def numX (v : Int32) : List Int32 := if v < 10 then [48 + (v - v / 10 * 10)] else [48 + v / 10, 48 + (v - v / 10 * 10)]
def lfX (hk ho : Nat → Int32) (k : Nat) : List Int32 := if hk k = 0 then numX (ho k) else if hk k = 1 then [97 + ho k] else [65 + ho k]
def opc (kd : Int32) : Int32 := if kd = 4 then 43 else if kd = 5 then 45 else 42
def hX (hk ho : Nat → Int32) : Nat → Nat → List Int32
  | 0, k => lfX hk ho k
  | d + 1, k => if hk k < 3 then lfX hk ho k else if hk k = 3 then 33 :: hX hk ho d (2 * k + 1) else 40 :: (hX hk ho d (2 * k + 1) ++ opc (hk k) :: (hX hk ho d (2 * k + 2) ++ [41]))
def hm (hk : Nat → Int32) : Nat → Nat → Nat
  | 0, _ => 1
  | d + 1, k => if hk k < 3 then 1 else if hk k = 3 then 1 + hm hk d (2 * k + 1) else 3 + hm hk d (2 * k + 1) + hm hk d (2 * k + 2)
/-- the heap's nodes are in order -/
def HPf (hk ho : Nat → Int32) (D kn : Nat) : Prop := ∀ p, p < 15 → HN (lev p) D kn (hk p) (ho p)
theorem lev_d : ∀ k, k < 7 → lev (2 * k + 1) = lev k + 1 ∧ lev (2 * k + 2) = lev k + 1 := by decide
theorem lev_1 {k : Nat} (h : lev k < 3) : 2 * k + 1 < 15 ∧ 2 * k + 2 < 15 ∧ lev (2 * k + 1) = lev k + 1 ∧ lev (2 * k + 2) = lev k + 1 := by
  have hk : k < 7 := by
    rcases Nat.lt_or_ge k 7 with q | q
    · exact q
    · rw [lev, if_neg (by omega), if_neg (by omega), if_neg (by omega)] at h
      omega
  exact ⟨by omega, by omega, lev_d k hk⟩
section HT
variable {hk ho : Nat → Int32} {D kn : Nat}
theorem HN_in {lv : Nat} {kd o : Int32} (h : HN lv D kn kd o) (h3 : ¬ kd < 3) : lv < D ∧ (kd = 3 ∨ kd = 4 ∨ kd = 5 ∨ kd = 6) ∧ o = -1000009 := by
  rcases h with ⟨h1, h2, h4⟩ | ⟨h1, -⟩ | ⟨h1, -⟩ | ⟨h1, -⟩
  · exact ⟨h2, h1, h4⟩
  · rw [h1] at h3; exact absurd (by decide) h3
  · rw [h1] at h3; exact absurd (by decide) h3
  · rw [h1] at h3; exact absurd (by decide) h3
theorem HN_lf {lv : Nat} {kd o : Int32} (h : HN lv D kn kd o) (h3 : kd < 3) : (kd = 0 ∧ ∃ h, h < 40 ∧ o = nI h) ∨ (kd = 1 ∧ ∃ c, c < 8 ∧ o = nI c) ∨ (kd = 2 ∧ ∃ c, c < kn ∧ o = nI c) := by
  rcases h with ⟨h1, h2, h4⟩ | h | h | h
  · rcases h1 with h1 | h1 | h1 | h1 <;> rw [h1] at h3 <;> exact absurd h3 (by decide)
  · exact Or.inl h
  · exact Or.inr (Or.inl h)
  · exact Or.inr (Or.inr h)
theorem bc_nod {lv k : Nat} (h : HN lv D kn (hk k) (ho k)) : bc (nod hk ho k) = ho k := by
  rw [bc, nod]
  show (if hk k < 3 then (if hk k < 3 then ho k else 0) else -1000009) = ho k
  by_cases c : hk k < 3
  · rw [if_pos c, if_pos c]
  · rw [if_neg c, (HN_in h c).2.2]
/-- a node may be looked at with the depth d -/
def VD (D d k : Nat) : Prop := k < 15 ∧ D ≤ d + lev k
theorem VD_s (hH : HPf hk ho D kn) (hD : D ≤ 3) {d k : Nat} (h : VD D d k) (h3 : ¬ hk k < 3) : ∃ e, d = e + 1 ∧ VD D e (2 * k + 1) ∧ VD D e (2 * k + 2) := by
  obtain ⟨h1, h2⟩ := h
  have hl := (HN_in (hH k h1) h3).1
  obtain ⟨a1, a2, a3, a4⟩ := lev_1 (k := k) (by omega)
  exact ⟨d - 1, by omega, ⟨a1, by omega⟩, a2, by omega⟩
theorem hT_0 {d k : Nat} (h : hk k < 3) : hT hk ho d k = [nod hk ho k] := by
  cases d with
  | zero => rfl
  | succ d => rw [hT, if_pos h]
theorem hX_0 {d k : Nat} (h : hk k < 3) : hX hk ho d k = lfX hk ho k := by
  cases d with
  | zero => rfl
  | succ d => rw [hX, if_pos h]
theorem hm_0 {d k : Nat} (h : hk k < 3) : hm hk d k = 1 := by
  cases d with
  | zero => rfl
  | succ d => rw [hm, if_pos h]
theorem numX_len (v : Int32) : 1 ≤ (numX v).length ∧ (numX v).length ≤ 2 := by
  rw [numX]
  split
  · exact ⟨by simp, by simp⟩
  · exact ⟨by simp, by simp⟩
theorem lfX_len (k : Nat) : 1 ≤ (lfX hk ho k).length ∧ (lfX hk ho k).length ≤ 2 := by
  rw [lfX]
  split
  · exact numX_len _
  · split
    · exact ⟨by simp, by simp⟩
    · exact ⟨by simp, by simp⟩
theorem hX_len : ∀ (d k : Nat), 1 ≤ (hX hk ho d k).length ∧ (hX hk ho d k).length + 3 ≤ 5 * 2 ^ d
  | 0, k => by
    have := lfX_len (hk := hk) (ho := ho) k
    exact ⟨this.1, by show (lfX hk ho k).length + 3 ≤ 5 * 1; omega⟩
  | d + 1, k => by
    have h1 := hX_len d (2 * k + 1)
    have h2 := hX_len d (2 * k + 2)
    have h0 := lfX_len (hk := hk) (ho := ho) k
    have hp : 2 ^ (d + 1) = 2 * 2 ^ d := by rw [Nat.pow_succ, Nat.mul_comm]
    have hp0 : 1 ≤ 2 ^ d := Nat.one_le_two_pow
    rw [hX, hp]
    split
    · omega
    · split
      · rw [List.length_cons]; omega
      · rw [List.length_cons, List.length_append, List.length_cons, List.length_append, List.length_singleton]; omega
theorem hT_len : ∀ (d k : Nat), 1 ≤ (hT hk ho d k).length ∧ (hT hk ho d k).length + 1 ≤ 2 * 2 ^ d
  | 0, k => ⟨by simp [hT], by simp [hT]⟩
  | d + 1, k => by
    have h1 := hT_len d (2 * k + 1)
    have h2 := hT_len d (2 * k + 2)
    have hp : 2 ^ (d + 1) = 2 * 2 ^ d := by rw [Nat.pow_succ, Nat.mul_comm]
    have hp0 : 1 ≤ 2 ^ d := Nat.one_le_two_pow
    rw [hT, hp]
    split
    · rw [List.length_singleton]; omega
    · split
      · rw [List.length_cons]; omega
      · rw [List.length_cons, List.length_append]; omega
theorem hm_le : ∀ (d k : Nat), 1 ≤ hm hk d k ∧ hm hk d k + 3 ≤ 4 * 2 ^ d
  | 0, k => ⟨by show 1 ≤ 1; omega, by show 1 + 3 ≤ 4 * 1; omega⟩
  | d + 1, k => by
    have h1 := hm_le d (2 * k + 1)
    have h2 := hm_le d (2 * k + 2)
    have hp : 2 ^ (d + 1) = 2 * 2 ^ d := by rw [Nat.pow_succ, Nat.mul_comm]
    have hp0 : 1 ≤ 2 ^ d := Nat.one_le_two_pow
    rw [hm, hp]
    split
    · omega
    · split <;> omega
end HT
/-- what stands on the stack: a depth and a node, or a character -/
abbrev SE : Type := Nat × Nat
def rnd (hk ho : Nat → Int32) (e : SE) : List Int32 := if 99 < e.2 then [nI (e.2 - 100)] else hX hk ho e.1 e.2
def prs (hk ho : Nat → Int32) (e : SE) : Fm := if 99 < e.2 then [] else hT hk ho e.1 e.2
def stp (hk : Nat → Int32) (e : SE) : Nat := if 99 < e.2 then 1 else hm hk e.1 e.2
def rndS (hk ho : Nat → Int32) (S : List SE) : List Int32 := S.flatMap (rnd hk ho)
def prsS (hk ho : Nat → Int32) (S : List SE) : Fm := S.flatMap (prs hk ho)
def stpS (hk : Nat → Int32) : List SE → Nat
  | [] => 0
  | e :: S => stp hk e + stpS hk S
theorem rndS_c {hk ho : Nat → Int32} {e : SE} {S : List SE} : rndS hk ho (e :: S) = rnd hk ho e ++ rndS hk ho S := by simp [rndS]
theorem prsS_c {hk ho : Nat → Int32} {e : SE} {S : List SE} : prsS hk ho (e :: S) = prs hk ho e ++ prsS hk ho S := by simp [prsS]
theorem stpS_len {hk : Nat → Int32} : ∀ {S : List SE}, S.length ≤ stpS hk S
  | [] => Nat.le_refl _
  | e :: S => by
    rw [List.length_cons, stpS, stp]
    have := stpS_len (hk := hk) (S := S)
    have := (hm_le (hk := hk) e.1 e.2).1
    split <;> omega
/-- what stands on the stack is in order: nodes, or characters that a text may have -/
def SV (D : Nat) (S : List SE) : Prop := ∀ e ∈ S, (99 < e.2 ∧ 101 ≤ e.2 ∧ e.2 ≤ 355) ∨ (¬ 99 < e.2 ∧ VD D e.1 e.2)
def SR (M : Mem) (sr : Nat) : List SE → Prop
  | [] => True
  | e :: S => M.1 sr S.length = nI e.2 ∧ SR M sr S
theorem SR.set {M : Mem} {sr j : Nat} {v : Int32} : ∀ {S : List SE}, SR M sr S → S.length ≤ j → SR (mset M sr j v) sr S
  | [], _, _ => trivial
  | e :: S, h, hj => by
    rw [List.length_cons] at hj
    exact ⟨by rw [ms_k (by omega)]; exact h.1, SR.set h.2 (by omega)⟩
theorem SR.row {M M' : Mem} {sr : Nat} (hr : M'.1 sr = M.1 sr) : ∀ {S : List SE}, SR M sr S → SR M' sr S
  | [], _ => trivial
  | e :: S, h => ⟨by rw [hr]; exact h.1, SR.row hr h.2⟩
