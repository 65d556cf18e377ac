/-! orders by the greatest number of places: the sums -/
def od (lv : Nd → Int32) (l : Fm) (p k : Nat) : Nat := WW lv l p k - WW lv l (p - 1) k
theorem WW_mono {lv : Nd → Int32} {l : Fm} (hw : wf l) : ∀ (n k p : Nat), l.length - k < n → k < l.length → WW lv l p k ≤ WW lv l (p + 1) k := by
  intro n
  induction n with
  | zero => intro k p h; omega
  | succ n ih =>
    intro k p hn hk
    cases p with
    | zero => rw [WW_0]; exact Nat.zero_le _
    | succ p =>
      rcases ar_cases (nd l k).1 with c | c | c
      · rw [WW_a0 hk c, WW_a0 hk c]; exact Nat.le_refl _
      · rw [WW_a1 hw hk c, WW_a1 hw hk c]
        exact ih (k + 1) (p + 1) (by omega) (wf_1 hw hk c)
      · obtain ⟨h1, h2⟩ := wf_2 (lv := lv) hw hk c
        rw [WW_a2 hw hk c, WW_a2 hw hk c]
        exact Nat.add_le_add (Nat.mul_le_mul (ih _ _ (by omega) h1) (ih _ _ (by omega) h2)) (Nat.mul_le_mul (ih _ _ (by omega) h2) (ih _ _ (by omega) h1))
theorem WW_full {lv : Nd → Int32} {l : Fm} (hw : wf l) : ∀ (n k p : Nat), l.length - k < n → k < l.length → pc lv l k ≤ p → WW lv l (p + 1) k = 2 ^ pc lv l k := by
  intro n
  induction n with
  | zero => intro k p h; omega
  | succ n ih =>
    intro k p hn hk hp
    rcases ar_cases (nd l k).1 with c | c | c
    · rw [WW_a0 hk c, pc_a0 hk c]
    · rw [pc_a1 hk c] at hp ⊢
      rw [WW_a1 hw hk c]
      exact ih (k + 1) p (by omega) (wf_1 hw hk c) hp
    · obtain ⟨h1, h2⟩ := wf_2 (lv := lv) hw hk c
      rw [pc_a2 (lv := lv) hk c] at hp ⊢
      obtain ⟨q, rfl⟩ : ∃ q, p = q + 1 := ⟨p - 1, by omega⟩
      rw [WW_a2 hw hk c, ih _ _ (by omega) h1 (by omega), ih _ _ (by omega) h2 (by omega), ih _ _ (by omega) h1 (by omega), ih _ _ (by omega) h2 (by omega), Nat.pow_succ, Nat.pow_add]
      rw [Nat.mul_comm (2 ^ pc lv l (k + 1 + (tr lv l (k + 1)).1))]
      omega
theorem od_0 {lv : Nd → Int32} {l : Fm} {k : Nat} : od lv l 0 k = 0 := by rw [od, WW_0]
theorem od_big {lv : Nd → Int32} {l : Fm} (hw : wf l) {p k : Nat} (hk : k < l.length) (hp : pc lv l k + 1 < p) : od lv l p k = 0 := by
  obtain ⟨q, rfl⟩ : ∃ q, p = q + 2 := ⟨p - 2, by omega⟩
  rw [od, WW_full hw (l.length - k + 1) k (q + 1) (by omega) hk (by omega), show q + 2 - 1 = q + 1 by omega, WW_full hw (l.length - k + 1) k q (by omega) hk (by omega), Nat.sub_self]
theorem od_sum {lv : Nd → Int32} {l : Fm} (hw : wf l) {k : Nat} (hk : k < l.length) : ∀ P, sumN (fun a => od lv l a k) (P + 1) = WW lv l P k
  | 0 => by rw [sumN, sumN, od_0, WW_0]
  | P + 1 => by
    rw [sumN, od_sum hw hk P, od, Nat.add_sub_cancel]
    have := WW_mono (lv := lv) hw (l.length - k + 1) k P (by omega) hk
    omega
theorem od_le {lv : Nd → Int32} {l : Fm} (hw : wf l) {p k : Nat} (hk : k < l.length) : od lv l p k ≤ 2 ^ pc lv l k := by
  have := WW_le (lv := lv) hw (l.length - k + 1) k p (by omega) hk
  rw [od]; omega
/-! sums -/
theorem sum_c {f g : Nat → Nat} : ∀ n, (∀ i, i < n → f i = g i) → sumN f n = sumN g n
  | 0, _ => rfl
  | n + 1, h => by rw [sumN, sumN, sum_c n (fun i hi => h i (by omega)), h n (by omega)]
theorem sum_0 : ∀ n, sumN (fun _ => 0) n = 0
  | 0 => rfl
  | n + 1 => by rw [sumN, sum_0 n]
theorem sum_z {f : Nat → Nat} (h : ∀ t, f t = 0) : ∀ n, sumN f n = 0
  | 0 => rfl
  | n + 1 => by rw [sumN, sum_z h n, h]
theorem sum_a {f g : Nat → Nat} : ∀ n, sumN (fun i => f i + g i) n = sumN f n + sumN g n
  | 0 => rfl
  | n + 1 => by rw [sumN, sumN, sumN, sum_a n]; omega
theorem sum_x {F : Nat → Nat → Nat} {m : Nat} : ∀ n, sumN (fun a => sumN (fun b => F a b) m) n = sumN (fun b => sumN (fun a => F a b) n) m
  | 0 => (sum_0 m).symm
  | n + 1 => by
    rw [sumN, sum_x n, ← sum_a]
    rfl
theorem sum_ap {f : Nat → Nat} {x : Nat} : ∀ n, sumN f (x + n) = sumN f x + sumN (fun b => f (x + b)) n
  | 0 => rfl
  | n + 1 => by rw [← Nat.add_assoc, sumN, sumN, sum_ap n, Nat.add_assoc]
theorem sum_2 {f : Nat → Nat} : ∀ m, sumN f (13 * m) = sumN (fun a => sumN (fun b => f (13 * a + b)) 13) m
  | 0 => rfl
  | m + 1 => by
    rw [show 13 * (m + 1) = 13 * m + 13 by omega, sum_ap, sum_2 m]
    rfl
def q1 (f g : Nat → Nat) (P a b : Nat) : Nat := f a * g b * (if max a (b + 1) = P + 1 then 1 else 0)
theorem q1_in {f g : Nat → Nat} {P a : Nat} : ∀ n, sumN (fun b => q1 f g P a b) n = if a < P + 1 then (if n ≤ P then 0 else f a * g P) else if a = P + 1 then f a * sumN g (min n (P + 1)) else 0
  | 0 => by
    rw [sumN]
    split
    · rw [if_pos (Nat.zero_le _)]
    · split
      · rw [Nat.zero_min, sumN, Nat.mul_zero]
      · rfl
  | n + 1 => by
    rw [sumN, q1_in n, q1]
    by_cases c1 : a < P + 1
    · rw [if_pos c1, if_pos c1]
      by_cases c2 : n + 1 ≤ P
      · rw [if_pos (by omega), if_pos c2, if_neg (by omega), Nat.mul_zero]
      · rw [if_neg c2]
        by_cases c3 : n = P
        · subst c3
          rw [if_pos (Nat.le_refl _), if_pos (by omega), Nat.mul_one, Nat.zero_add]
        · rw [if_neg (by omega), if_neg (by omega), Nat.mul_zero, Nat.add_zero]
    · rw [if_neg c1, if_neg c1]
      by_cases c2 : a = P + 1
      · rw [if_pos c2, if_pos c2]
        by_cases c3 : n ≤ P
        · rw [if_pos (by omega), Nat.min_eq_left (by omega), Nat.min_eq_left (by omega), sumN, Nat.mul_add, Nat.mul_one]
        · rw [if_neg (by omega), Nat.min_eq_right (by omega), Nat.min_eq_right (by omega), Nat.mul_zero, Nat.add_zero]
      · rw [if_neg c2, if_neg c2, if_neg (by omega), Nat.mul_zero]
theorem q1_out {f g : Nat → Nat} {P : Nat} (hP : P + 1 < 13) : ∀ n, sumN (fun a => sumN (fun b => q1 f g P a b) 13) n = if n ≤ P + 1 then sumN f n * g P else sumN f (P + 1) * g P + f (P + 1) * sumN g (P + 1)
  | 0 => by rw [sumN, if_pos (Nat.zero_le _), sumN, Nat.zero_mul]
  | n + 1 => by
    rw [sumN, q1_out hP n, q1_in 13, Nat.min_eq_right (by omega)]
    by_cases c1 : n < P + 1
    · rw [if_pos (show n ≤ P + 1 by omega), if_pos c1, if_neg (show ¬ 13 ≤ P by omega), if_pos (show n + 1 ≤ P + 1 by omega), sumN, Nat.add_mul]
    · rw [if_neg c1, if_neg (show ¬ n + 1 ≤ P + 1 by omega)]
      by_cases c2 : n = P + 1
      · subst c2
        rw [if_pos (Nat.le_refl _), if_pos rfl]
      · rw [if_neg (by omega), if_neg c2, Nat.add_zero]
/-- one pair of numbers: what it adds at p -/
def pw (f g : Nat → Nat) (p t : Nat) : Nat := f (t / 13) * g (t % 13) * (if max (t / 13) (t % 13 + 1) = p then 1 else 0) + f (t / 13) * g (t % 13) * (if max (t / 13 + 1) (t % 13) = p then 1 else 0)
theorem pw_sum {f g : Nat → Nat} {P : Nat} (hP : P + 1 < 13) : sumN (pw f g (P + 1)) 169 = (sumN f (P + 1) * g P + f (P + 1) * sumN g (P + 1)) + (sumN g (P + 1) * f P + g (P + 1) * sumN f (P + 1)) := by
  rw [show 169 = 13 * 13 from rfl, sum_2]
  have e : sumN (fun a => sumN (fun b => pw f g (P + 1) (13 * a + b)) 13) 13 = sumN (fun a => sumN (fun b => q1 f g P a b + q1 g f P b a) 13) 13 := by
    apply sum_c
    intro a ha
    apply sum_c
    intro b hb
    have e1 : (13 * a + b) / 13 = a := by omega
    have e2 : (13 * a + b) % 13 = b := by omega
    rw [pw, e1, e2, q1, q1, Nat.mul_comm (g b) (f a), Nat.max_comm b (a + 1)]
  rw [e]
  have e2 : sumN (fun a => sumN (fun b => q1 f g P a b + q1 g f P b a) 13) 13 = sumN (fun a => sumN (fun b => q1 f g P a b) 13 + sumN (fun b => q1 g f P b a) 13) 13 := sum_c 13 (fun a _ => sum_a 13)
  rw [e2, sum_a, q1_out hP 13, if_neg (by omega), sum_x, q1_out hP 13, if_neg (by omega)]
theorem pw_0 {f g : Nat → Nat} {t : Nat} : pw f g 0 t = 0 := by
  rw [pw, if_neg (by omega), if_neg (by omega)]
  rfl
theorem od_a2 {lv : Nd → Int32} {l : Fm} (hw : wf l) {k : Nat} (hk : k < l.length) (c : ar (nd l k).1 = 2) {p : Nat} (hp : p < 13) : sumN (pw (fun a => od lv l a (k + 1)) (fun b => od lv l b (k + 1 + (tr lv l (k + 1)).1)) p) 169 = od lv l p k := by
  obtain ⟨h1, h2⟩ := wf_2 (lv := lv) hw hk c
  cases p with
  | zero =>
    rw [od_0]
    exact sum_z (fun t => pw_0) 169
  | succ P =>
    rw [pw_sum hp, od_sum hw h1, od_sum hw h2]
    simp only [od]
    rw [Nat.add_sub_cancel]
    cases P with
    | zero =>
      rw [WW_a2 hw hk c]
      simp [WW_0]
    | succ Q =>
      rw [WW_a2 hw hk c, WW_a2 hw hk c, Nat.add_sub_cancel]
      have a1 := WW_mono (lv := lv) hw (l.length - (k + 1) + 1) (k + 1) Q (by omega) h1
      have a2 := WW_mono (lv := lv) hw (l.length - (k + 1) + 1) (k + 1) (Q + 1) (by omega) h1
      have b1 := WW_mono (lv := lv) hw (l.length - (k + 1 + (tr lv l (k + 1)).1) + 1) (k + 1 + (tr lv l (k + 1)).1) Q (by omega) h2
      have b2 := WW_mono (lv := lv) hw (l.length - (k + 1 + (tr lv l (k + 1)).1) + 1) (k + 1 + (tr lv l (k + 1)).1) (Q + 1) (by omega) h2
      generalize WW lv l Q (k + 1) = A0 at *
      generalize WW lv l (Q + 1) (k + 1) = A1 at *
      generalize WW lv l (Q + 1 + 1) (k + 1) = A2 at *
      generalize WW lv l Q (k + 1 + (tr lv l (k + 1)).1) = B0 at *
      generalize WW lv l (Q + 1) (k + 1 + (tr lv l (k + 1)).1) = B1 at *
      generalize WW lv l (Q + 1 + 1) (k + 1 + (tr lv l (k + 1)).1) = B2 at *
      obtain ⟨x, rfl⟩ := Nat.le.dest a1
      obtain ⟨x', rfl⟩ := Nat.le.dest a2
      obtain ⟨y, rfl⟩ := Nat.le.dest b1
      obtain ⟨y', rfl⟩ := Nat.le.dest b2
      rw [Nat.add_sub_cancel_left, Nat.add_sub_cancel_left, Nat.add_sub_cancel_left, Nat.add_sub_cancel_left]
      apply Eq.symm
      apply Nat.sub_eq_of_eq_add
      grind
theorem fwN_ok {lv : Nd → Int32} {l : Fm} (h : WW lv l 11 0 ≠ 0) : ∀ n p, p + n = 11 → (∀ q, q < p → WW lv l q 0 = 0) → fwN lv l n p ≤ 11 ∧ WW lv l (fwN lv l n p) 0 ≠ 0 ∧ ∀ q, q < fwN lv l n p → WW lv l q 0 = 0
  | 0, p, hp, hq => by
    have e : p = 11 := by omega
    subst e
    exact ⟨Nat.le_refl _, h, hq⟩
  | n + 1, p, hp, hq => by
    rw [fwN, if_neg (by omega)]
    by_cases c : WW lv l p 0 = 0
    · rw [if_pos c]
      refine fwN_ok h n (p + 1) (by omega) (fun q hq2 => ?_)
      rcases Nat.lt_or_ge q p with z | z
      · exact hq q z
      · rw [show q = p by omega]; exact c
    · rw [if_neg c]
      exact ⟨by omega, c, hq⟩
