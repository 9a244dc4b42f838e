/-! The document's numbers of a program -/
section MATH
abbrev isT (P : List It) (i : Nat) : Prop := kd P i = 4 ∨ kd P i = 5
def gap (a u : Nat) : Nat := (u - a % u) % u
def jsz (f : Nat) : Nat := if f = 0 then 2 else if f = 1 then 3 else 5
def bsz (f : Nat) : Nat := if f = 0 then 2 else if f = 1 then 4 else 7
/-- the form that a displacement needs -/
def ndF (z : Int) : Nat := if -16 ≤ z ∧ z ≤ 15 then 0 else if -100 ≤ z ∧ z ≤ 99 then 1 else 2
theorem ndF_le (z : Int) : ndF z ≤ 2 := by unfold ndF; split; omega; split <;> omega
theorem gap_lt {a u : Nat} (h : 0 < u) : gap a u < u := Nat.mod_lt _ h
/-- the distinct values of loads since the last pool before item i -/
def vals (P : List It) : Nat → List Nat
  | 0 => []
  | i + 1 => if kd P i = 7 then [] else if kd P i = 6 ∧ op P i ∉ vals P i then vals P i ++ [op P i] else vals P i
/-- how many pools stand before item i -/
def pno (P : List It) : Nat → Nat
  | 0 => 0
  | i + 1 => pno P i + (if kd P i = 7 then 1 else 0)
/-- which item before item n defines a label; -1: none -/
def dfn (P : List It) (lb : Nat) : Nat → Int
  | 0 => -1
  | i + 1 => if kd P i = 2 ∧ op P i = lb then (i : Int) else dfn P lb i
/-- where the pool numbered k stands; the end pool behind all -/
def ppl (P : List It) (k : Nat) : Nat → Nat
  | 0 => 0
  | i + 1 => if pno P i < k then i + 1 else if pno P i = k ∧ kd P i ≠ 7 then i + 1 else ppl P k i
def plSz (c a : Nat) : Nat := if c = 0 then 0 else gap a 4 + 4 * c
/-- the size of item i with the form f at the address a -/
def sz (P : List It) (i f a : Nat) : Nat :=
  if kd P i = 0 ∨ kd P i = 1 then op P i else if kd P i = 3 then gap a (2 ^ op P i) else if kd P i = 4 then jsz f else if kd P i = 5 then bsz f else if kd P i = 6 then 2 else if kd P i = 7 then plSz (vals P i).length a else 0
/-- the address of item i with the forms F -/
def ad0 (P : List It) (F : Nat → Nat) : Nat → Nat
  | 0 => 0
  | i + 1 => ad0 P F i + sz P i (F i) (ad0 P F i)
theorem gap_lt_pow {a o : Nat} (h : o ≤ 4) : gap a (2 ^ o) < 16 := by
  have h1 := gap_lt (a := a) (u := 2 ^ o) (Nat.pow_pos (by decide))
  have h2 : 2 ^ o ≤ 2 ^ 4 := Nat.pow_le_pow_right (by decide) h
  omega
theorem vals_len {P : List It} (h : okP P) : ∀ i, (vals P i).length ≤ i
  | 0 => Nat.le_refl _
  | i + 1 => by
    have := vals_len h i
    unfold vals
    split
    · simp
    · split
      · simp; omega
      · omega
/-- no address is above 50 an item, what waits for a pool included -/
theorem sz_bound {P : List It} (h : okP P) (i f a : Nat) : sz P i f a + 4 * (vals P (i + 1)).length ≤ 50 + 4 * (vals P i).length := by
  have hb := h.2.1 i
  have g4 := gap_lt (a := a) (u := 4) (by decide)
  unfold okI at hb
  rw [vals]
  by_cases h7 : kd P i = 7
  · rw [if_pos h7]
    unfold sz plSz
    rw [if_neg (by omega), if_neg (by omega), if_neg (by omega), if_neg (by omega), if_neg (by omega), if_pos h7]
    simp only [List.length_nil]
    split <;> omega
  · rw [if_neg h7]
    by_cases h6 : kd P i = 6
    · unfold sz
      rw [if_neg (by omega), if_neg (by omega), if_neg (by omega), if_neg (by omega), if_pos h6]
      split
      · simp; omega
      · omega
    · rw [if_neg (by omega)]
      unfold sz jsz bsz
      by_cases h3 : kd P i = 3
      · have g3 := gap_lt_pow (a := a) (o := op P i) (by omega)
        rw [if_neg (by omega), if_pos h3]
        omega
      · rw [if_neg h3]
        repeat' split
        all_goals omega
theorem ad0_bound {P : List It} (h : okP P) (F : Nat → Nat) : ∀ i, ad0 P F i + 4 * (vals P i).length ≤ 50 * i
  | 0 => by simp [ad0, vals]
  | i + 1 => by
    have h1 := ad0_bound h F i
    have h2 := sz_bound h i (F i) (ad0 P F i)
    rw [ad0]
    omega
theorem ad0_mono {P : List It} (F : Nat → Nat) {i j : Nat} (h : i ≤ j) : ad0 P F i ≤ ad0 P F j := by
  induction h with
  | refl => exact Nat.le_refl _
  | step _ ih => rw [ad0]; omega
theorem pno_le (P : List It) : ∀ i, pno P i ≤ i
  | 0 => Nat.le_refl _
  | i + 1 => by have := pno_le P i; rw [pno]; split <;> omega
theorem pno_mono (P : List It) {i j : Nat} (h : i ≤ j) : pno P i ≤ pno P j := by
  induction h with
  | refl => exact Nat.le_refl _
  | step _ ih => rw [pno]; omega
theorem dfn_lt (P : List It) (lb : Nat) : ∀ n, -1 ≤ dfn P lb n ∧ dfn P lb n < n
  | 0 => by simp [dfn]
  | i + 1 => by have := dfn_lt P lb i; rw [dfn]; split <;> omega
theorem dfn_spec (P : List It) (lb : Nat) : ∀ n, (dfn P lb n = -1 ∧ ∀ i, i < n → ¬ (kd P i = 2 ∧ op P i = lb)) ∨ ∃ i : Nat, dfn P lb n = i ∧ i < n ∧ kd P i = 2 ∧ op P i = lb
  | 0 => Or.inl ⟨rfl, fun i h => absurd h (Nat.not_lt_zero i)⟩
  | n + 1 => by
    rw [dfn]
    by_cases h : kd P n = 2 ∧ op P n = lb
    · rw [if_pos h]
      exact Or.inr ⟨n, rfl, Nat.lt_succ_self n, h⟩
    · rw [if_neg h]
      rcases dfn_spec P lb n with ⟨h1, h2⟩ | ⟨i, h1, h2, h3⟩
      · refine Or.inl ⟨h1, fun i hi => ?_⟩
        rcases Nat.lt_or_ge i n with h4 | h4
        · exact h2 i h4
        · have e : i = n := by omega
          subst e
          exact h
      · exact Or.inr ⟨i, h1, Nat.lt_succ_of_lt h2, h3⟩
theorem ii_gap {a k : Nat} (ha : a < 100000) (hk : k ≤ 4) : ii (-(a : Int)) &&& ii ((2 ^ k : Nat) - 1 : Int) = ii ((gap a (2 ^ k) : Nat) : Int) := by
  have hm : (ii ((2 ^ k : Nat) - 1 : Int)).toBitVec.toNat = 2 ^ k - 1 := by
    rcases (show k = 0 ∨ k = 1 ∨ k = 2 ∨ k = 3 ∨ k = 4 by omega) with rfl | rfl | rfl | rfl | rfl <;> decide
  rw [pk_and _ k hm]
  have h1 : (ii (-(a : Int))).toBitVec.toNat = (4294967296 - a) % 4294967296 := by
    show (Int32.ofInt (-(a : Int))).toBitVec.toNat = _
    rw [Int32.toBitVec_ofInt, BitVec.toNat_ofInt]
    omega
  rw [h1]
  show nI _ = Int32.ofInt _
  rw [Int32.ofInt_eq_ofNat]
  congr 1
  unfold gap
  rcases (show k = 0 ∨ k = 1 ∨ k = 2 ∨ k = 3 ∨ k = 4 by omega) with rfl | rfl | rfl | rfl | rfl
  all_goals simp only [Nat.reducePow]; omega
theorem ii_shl {k : Nat} (hk : k ≤ 4) : ii 1 <<< (ii (k : Int) &&& 31) = ii ((2 ^ k : Nat) : Int) := by
  rcases (show k = 0 ∨ k = 1 ∨ k = 2 ∨ k = 3 ∨ k = 4 by omega) with rfl | rfl | rfl | rfl | rfl <;> decide
end MATH
