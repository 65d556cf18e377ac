/-! the expanded forms of a sheet -/
/-- an expanded form, whether it is cheap, its value -/
abbrev XE : Type := Fm × Bool × Int32
def x0 : XE := ([], false, 0)
def pce (T : List XE) (q : Nd) : Fm := if q.1 = 2 ∧ (T.getD (ix q.2) x0).2.1 = true then (T.getD (ix q.2) x0).1 else [q]
def exl (T : List XE) (l : Fm) : Fm := l.flatMap (pce T)
def isCheap (d : Bool) (l : Fm) : Bool := d && (decide (l.length ≤ 3) && (!(l.any fun q => q.1 == 6) && !(l.any fun q => q.1 == 2)))
def vls (T : List XE) (c : Nat) : Int32 := (T.getD c x0).2.2
def mkX (T : List XE) (fs : List Fm) (cells : Nat → Int32) (i : Nat) : XE := (exl T (fs.getD i []), isCheap (decide (i + 1 < fs.length)) (exl T (fs.getD i [])), (tr (lvf cells (vls T)) (exl T (fs.getD i [])) 0).2.2.2)
def XF (fs : List Fm) (cells : Nat → Int32) : Nat → List XE
  | 0 => []
  | n + 1 => XF fs cells n ++ [mkX (XF fs cells n) fs cells n]
theorem XF_len {fs : List Fm} {cells : Nat → Int32} : ∀ n, (XF fs cells n).length = n
  | 0 => rfl
  | n + 1 => by rw [XF, List.length_append, XF_len n]; rfl
theorem XF_lt {fs : List Fm} {cells : Nat → Int32} {c : Nat} : ∀ n, c < n → (XF fs cells n).getD c x0 = mkX (XF fs cells c) fs cells c
  | 0, h => by omega
  | n + 1, h => by
    rw [XF, List.getD_eq_getElem?_getD]
    by_cases k : c < n
    · rw [List.getElem?_append_left (by rw [XF_len]; exact k), ← List.getD_eq_getElem?_getD, XF_lt n k]
    · have e : c = n := by omega
      subst e
      rw [List.getElem?_append_right (by rw [XF_len]; exact Nat.le_refl _), XF_len, Nat.sub_self]
      rfl
theorem exl_app {T : List XE} {a b : Fm} : exl T (a ++ b) = exl T a ++ exl T b := by simp [exl]
theorem exl_1 {T : List XE} {q : Nd} : exl T [q] = pce T q := by simp [exl]
theorem exl_take {T : List XE} {l : Fm} {j : Nat} (h : j < l.length) : exl T (l.take (j + 1)) = exl T (l.take j) ++ pce T (nd l j) := by rw [tk_s h, exl_app, exl_1]
theorem exl_le {T : List XE} {l : Fm} {j : Nat} : (exl T (l.take j)).length ≤ (exl T l).length := by
  have e : exl T l = exl T (l.take j) ++ exl T (l.drop j) := by rw [← exl_app, List.take_append_drop]
  rw [e, List.length_append]
  omega
theorem sh_E8 {c : Nat} (hc : c < 6) : (sh (160 + 8 * c)).1 = 0 := (sh_E.2 c hc).2
theorem make_loop {i g : Nat} {l : Fm} {T : List XE} {x2 : Int32} (hi : i < 6) (hg : (sh g).1 = 1) (hgd : ∀ a, F3 g a → a < 160) (hl : l.length ≤ 60) (hx : (exl T l).length ≤ 60) (hok : ∀ k, k < l.length → okN i (nd l k)) :
    ∀ (n j : Nat) (M : Mem), j ≤ l.length → l.length - j < n → M.1 (160 + 8 * i) 0 = nI i → FA M g l → FA M (160 + 8 * i + 1) (exl T (l.take j)) → (∀ c, c < i → FA M (160 + 8 * c + 1) (T.getD c x0).1 ∧ M.1 (160 + 8 * c) 2 = (if (T.getD c x0).2.1 = true then 1 else 0)) →
      ∃ M', f_Expanded_make_b11 n (160 + 8 * i) g x2 (nI j) M = some ((), M') ∧ FA M' (160 + 8 * i + 1) (exl T l) ∧ M'.1 (160 + 8 * i) 2 = (if isCheap (!(x2 == 0)) (exl T l) = true then 1 else 0) ∧ M'.1 (160 + 8 * i) 0 = nI i ∧ Off (fun a => 160 + 8 * i ≤ a ∧ a ≤ 160 + 8 * i + 3) M M' := by
  have he := sh_E8 hi
  have hf := tE1 he
  have h60 := fln hf
  have hln : ln (160 + 8 * i + 1 + 1) = 60 := (show ∀ i, i < 6 → ln (160 + 8 * i + 1 + 1) = 60 by decide +kernel) i hi
  have hsub : ∀ a, F3 (160 + 8 * i + 1) a → 160 + 8 * i ≤ a ∧ a ≤ 160 + 8 * i + 3 := by
    intro a ha
    rcases ha with q | q | q <;> omega
  intro n
  induction n with
  | zero => intro j M _ h; omega
  | succ n ih =>
    intro j M hj hn h0 hG hF hC
    rw [f_Expanded_make_b11, hG.1]
    by_cases c : j = l.length
    · subst c
      rw [List.take_length] at hF
      rw [if_pos (nI_le (Nat.le_refl _) (by omega))]
      simp only [isB0, isB1, gd_t, bm_e]
      have fin : ∀ v : Int32, FA (mset M (160 + 8 * i) 2 v) (160 + 8 * i + 1) (exl T l) ∧ (mset M (160 + 8 * i) 2 v).1 (160 + 8 * i) 2 = v ∧ (mset M (160 + 8 * i) 2 v).1 (160 + 8 * i) 0 = nI i ∧ Off (fun a => 160 + 8 * i ≤ a ∧ a ≤ 160 + 8 * i + 3) M (mset M (160 + 8 * i) 2 v) := by
        intro v
        have ho : Off (fun a => a = 160 + 8 * i) M (mset M (160 + 8 * i) 2 v) := Off.set rfl
        refine ⟨hF.off ho (fun a ha => by rcases ha with q | q | q <;> omega), by simp [ms1], by simp [ms1, h0], ho.mono (fun a ha => by omega)⟩
      by_cases d : x2 = 0
      · rw [if_pos d]
        obtain ⟨f1, f2, f3, f4⟩ := fin 0
        exact ⟨_, rfl, f1, by rw [f2, if_neg]; simp [isCheap, d], f3, f4⟩
      · rw [if_neg d, hF.1]
        by_cases d3 : (exl T l).length ≤ 3
        · rw [if_neg (by rw [show (3 : Int32) = nI 3 from rfl]; exact nI_nlt d3 (by omega)), hasKind_ok hf hF, bd_s]
          by_cases d6 : ((exl T l).any fun q => q.1 == 6) = true
          · rw [if_pos d6, if_neg (by decide)]
            obtain ⟨f1, f2, f3, f4⟩ := fin 0
            exact ⟨_, rfl, f1, by rw [f2, if_neg]; simp [isCheap, d6], f3, f4⟩
          · rw [if_neg d6, if_pos rfl, hasKind_ok hf hF, bd_s]
            by_cases d2 : ((exl T l).any fun q => q.1 == 2) = true
            · rw [if_pos d2, if_neg (by decide)]
              obtain ⟨f1, f2, f3, f4⟩ := fin 0
              exact ⟨_, rfl, f1, by rw [f2, if_neg]; simp [isCheap, d2], f3, f4⟩
            · rw [if_neg d2, if_pos rfl]
              obtain ⟨f1, f2, f3, f4⟩ := fin 1
              refine ⟨_, rfl, f1, ?_, f3, f4⟩
              rw [f2, if_pos]
              simp only [Bool.not_eq_true] at d6 d2
              simp [isCheap, d, d3, d6, d2]
        · rw [if_pos (by rw [show (3 : Int32) = nI 3 from rfl]; exact nI_lt (by omega) (by omega))]
          obtain ⟨f1, f2, f3, f4⟩ := fin 0
          exact ⟨_, rfl, f1, by rw [f2, if_neg]; simp [isCheap, d3], f3, f4⟩
    · rw [if_neg (nI_ge (by omega) (by omega)), contentOf_ok hg hG (by omega), bd_s, kindOf_ok hg hG (by omega), bd_s]
      have hlen := exl_le (T := T) (l := l) (j := j + 1)
      rw [exl_take (by omega), List.length_append] at hlen
      -- a node is copied
      have copy : pce T (nd l j) = [nd l j] → ∃ M', f_Expanded_make_b98 (f_Expanded_make_b11 n) (160 + 8 * i) g x2 (nI j) (nd l j).2 M = some ((), M') ∧ FA M' (160 + 8 * i + 1) (exl T l) ∧ M'.1 (160 + 8 * i) 2 = (if isCheap (!(x2 == 0)) (exl T l) = true then 1 else 0) ∧ M'.1 (160 + 8 * i) 0 = nI i ∧ Off (fun a => 160 + 8 * i ≤ a ∧ a ≤ 160 + 8 * i + 3) M M' := by
        intro hp
        rw [hp] at hlen
        rw [f_Expanded_make_b98, kindOf_ok hg hG (by omega), bd_s]
        obtain ⟨M1, e1, hF1, ho1⟩ := add_ok (a := (nd l j).1) (b := (nd l j).2) hf hF (by rw [hln]; simp at hlen; omega)
        rw [e1, bd_s, bi_e, nI_s]
        obtain ⟨M2, e2, r1, r2, r3, r4⟩ := ih (j + 1) M1 (by omega) (by omega) (by rw [ho1.1 _ (fun q => by rcases q with q | q | q <;> omega)]; exact h0) (hG.off ho1 (fun a ha q => by have := hgd a ha; rcases q with q | q | q <;> omega))
          (by rw [exl_take (by omega), hp]; exact hF1) (fun c hc => ⟨(hC c hc).1.off ho1 (fun a ha q => by rcases ha with w | w | w <;> rcases q with q | q | q <;> omega), by rw [ho1.1 _ (fun q => by rcases q with q | q | q <;> omega)]; exact (hC c hc).2⟩)
        exact ⟨M2, e2, r1, r2, r3, (ho1.mono hsub).tr r4⟩
      by_cases k2 : (nd l j).1 = 2
      · rw [if_pos k2, f_Expanded_make_b43, if_neg (by decide)]
        rcases hok j (by omega) with ⟨q1, -⟩ | ⟨q1, -⟩ | ⟨-, c0, q2, q3⟩ | ⟨q1, -⟩
        · exact absurd (q1.symm.trans k2) (by decide)
        · exact absurd (q1.symm.trans k2) (by decide)
        · rw [q3, if_neg (nI_pos (by omega)), h0, if_neg (nI_ge q2 (by omega)), if_neg (by rw [show (6 : Int32) = nI 6 from rfl]; exact nI_ge (by omega) (by omega)), gd_of (inbT (by omega) (by omega)), ixN (by omega), (hC c0 q2).2]
          by_cases hch : (T.getD c0 x0).2.1 = true
          · have hp : pce T (nd l j) = (T.getD c0 x0).1 := by rw [pce, q3, ixN (by omega), if_pos ⟨k2, hch⟩]
            rw [hp] at hlen
            rw [if_pos hch, if_neg (by decide), gd_of (inbT (by omega) (by omega))]
            obtain ⟨M1, e1, hF1, ho1⟩ := addAll_ok (f := 160 + 8 * i + 1) (g := 160 + 8 * c0 + 1) hf (tE1 (sh_E8 (by omega))) (fun a ha q => by rcases ha with w | w | w <;> rcases q with q | q | q <;> omega) (by rw [hln]; omega) hF (hC c0 q2).1
            rw [e1, bd_s, bi_e, nI_s]
            obtain ⟨M2, e2, r1, r2, r3, r4⟩ := ih (j + 1) M1 (by omega) (by omega) (by rw [ho1.1 _ (fun q => by rcases q with q | q | q <;> omega)]; exact h0) (hG.off ho1 (fun a ha q => by have := hgd a ha; rcases q with q | q | q <;> omega))
              (by rw [exl_take (by omega), hp]; exact hF1) (fun c hc => ⟨(hC c hc).1.off ho1 (fun a ha q => by rcases ha with w | w | w <;> rcases q with q | q | q <;> omega), by rw [ho1.1 _ (fun q => by rcases q with q | q | q <;> omega)]; exact (hC c hc).2⟩)
            exact ⟨M2, e2, r1, r2, r3, (ho1.mono hsub).tr r4⟩
          · rw [if_neg hch, if_pos rfl, ← q3]
            exact copy (by rw [pce, if_neg]; rw [q3, ixN (by omega)]; exact fun z => hch z.2)
        · rcases q1 with q1 | q1 | q1 | q1 <;> exact absurd (q1.symm.trans k2) (by decide)
      · rw [if_neg k2, f_Expanded_make_b43, if_pos rfl]
        exact copy (by rw [pce, if_neg (fun z => k2 z.1)])
theorem make_ok {i g : Nat} {l : Fm} {T : List XE} {x2 : Int32} (hi : i < 6) (hg : (sh g).1 = 1) (hgd : ∀ a, F3 g a → a < 160) (hl : l.length ≤ 60) (hx : (exl T l).length ≤ 60) (hok : ∀ k, k < l.length → okN i (nd l k)) (M : Mem) (h0 : M.1 (160 + 8 * i) 0 = nI i) (hG : FA M g l)
    (hC : ∀ c, c < i → FA M (160 + 8 * c + 1) (T.getD c x0).1 ∧ M.1 (160 + 8 * c) 2 = (if (T.getD c x0).2.1 = true then 1 else 0)) :
      ∃ M', f_Expanded_make (160 + 8 * i) g x2 M = some ((), M') ∧ FA M' (160 + 8 * i + 1) (exl T l) ∧ M'.1 (160 + 8 * i) 2 = (if isCheap (!(x2 == 0)) (exl T l) = true then 1 else 0) ∧ M'.1 (160 + 8 * i) 0 = nI i ∧ Off (fun a => 160 + 8 * i ≤ a ∧ a ≤ 160 + 8 * i + 3) M M' := by
  rw [f_Expanded_make, bm_e, ← nI_0]
  have ho : Off (fun a => a = 160 + 8 * i + 1) M (mset M (160 + 8 * i + 1) 2 (nI 0)) := Off.set rfl
  obtain ⟨M2, e2, r1, r2, r3, r4⟩ := make_loop (x2 := x2) hi hg hgd hl hx hok FU 0 (mset M (160 + 8 * i + 1) 2 (nI 0)) (by omega) (by rw [FU_e]; omega) (by rw [ho.1 _ (by omega)]; exact h0) (hG.off ho (fun a ha => by have := hgd a ha; omega)) (by rw [List.take_zero, nI_0]; exact FA.nil)
    (fun c hc => ⟨(hC c hc).1.off ho (fun a ha => by rcases ha with w | w | w <;> omega), by rw [ho.1 _ (by omega)]; exact (hC c hc).2⟩)
  exact ⟨M2, e2, r1, r2, r3, (ho.mono (fun a ha => by omega)).tr r4⟩
