/-! Pools' places, literals' addresses, counts -/
section MATH2
def npf (P : List It) (i : Nat) : Nat → Nat
  | 0 => i
  | k + 1 => if kd P i = 7 then i else npf P (i + 1) k
/-- where the pool stands that comes first at or behind item i -/
def npl (P : List It) (i : Nat) : Nat := npf P i (P.length - i)
theorem npf_spec (P : List It) : ∀ k i, i + k = P.length → kd P (npf P i k) = 7 ∧ i ≤ npf P i k ∧ npf P i k ≤ P.length ∧ ∀ j, i ≤ j → j < npf P i k → kd P j ≠ 7
  | 0, i, h => by
    rw [npf]
    exact ⟨(ok_out (by omega)).1, Nat.le_refl _, by omega, fun j h1 h2 => by omega⟩
  | k + 1, i, h => by
    rw [npf]
    by_cases h7 : kd P i = 7
    · rw [if_pos h7]
      exact ⟨h7, Nat.le_refl _, by omega, fun j h1 h2 => by omega⟩
    · rw [if_neg h7]
      obtain ⟨a, b, c, d⟩ := npf_spec P k (i + 1) (by omega)
      refine ⟨a, by omega, c, fun j h1 h2 => ?_⟩
      by_cases e : j = i
      · subst e; exact h7
      · exact d j (by omega) h2
theorem npl_spec {P : List It} {i : Nat} (h : i ≤ P.length) : kd P (npl P i) = 7 ∧ i ≤ npl P i ∧ npl P i ≤ P.length ∧ ∀ j, i ≤ j → j < npl P i → kd P j ≠ 7 := npf_spec P (P.length - i) i (by omega)
theorem pno_flat {P : List It} {i j : Nat} (h : i ≤ j) (hn : ∀ q, i ≤ q → q < j → kd P q ≠ 7) : pno P j = pno P i := by
  induction h with
  | refl => rfl
  | step h9 ih => rename_i m; rw [pno, if_neg (hn m h9 (Nat.lt_succ_self m)), ih (fun q a b => hn q a (by omega))]; rfl
theorem pno_npl {P : List It} {i : Nat} (h : i ≤ P.length) : pno P (npl P i) = pno P i := by
  obtain ⟨-, b, -, d⟩ := npl_spec h
  exact pno_flat b d
/-- where the pool numbered k stands -/
def plc (P : List It) : Nat → Nat
  | 0 => npl P 0
  | k + 1 => npl P (plc P k + 1)
theorem plc_spec {P : List It} : ∀ k, k ≤ pno P P.length → kd P (plc P k) = 7 ∧ plc P k ≤ P.length ∧ pno P (plc P k) = k
  | 0, _ => by
    obtain ⟨a, b, c, d⟩ := npl_spec (P := P) (i := 0) (Nat.zero_le _)
    exact ⟨a, c, by rw [plc, pno_npl (Nat.zero_le _)]; rfl⟩
  | k + 1, h => by
    obtain ⟨a, b, c⟩ := plc_spec (P := P) k (by omega)
    have hlt : plc P k < P.length := by
      rcases Nat.lt_or_ge (plc P k) P.length with h1 | h1
      · exact h1
      · have e : plc P k = P.length := by omega
        rw [e] at c; omega
    obtain ⟨a2, b2, c2, d2⟩ := npl_spec (P := P) (i := plc P k + 1) hlt
    refine ⟨a2, c2, ?_⟩
    rw [plc, pno_npl hlt, pno, if_pos a, c]
theorem plc_last {P : List It} : plc P (pno P P.length) = P.length := by
  obtain ⟨a, b, c⟩ := plc_spec (P := P) (pno P P.length) (Nat.le_refl _)
  rcases Nat.lt_or_ge (plc P (pno P P.length)) P.length with h | h
  · have := pno_mono P (i := plc P (pno P P.length) + 1) h
    rw [pno, if_pos a] at this
    omega
  · omega
/-- the address of item i -/
abbrev aP (P : List It) (i : Nat) : Nat := ad0 P (fm P) i
/-- the address of the literal numbered idx of the pool at q, that lies m bytes further -/
def lad (P : List It) (q idx m : Nat) : Nat := aP P q + m + gap (aP P q + m) 4 + 4 * idx
def lix (P : List It) (i : Nat) : Nat := (vals P (i + 1)).idxOf (op P i)
/-- the distance of the load i, its pool m bytes further -/
def dst (P : List It) (i m : Nat) : Int := (lad P (npl P i) (lix P i) m : Int) - ((aP P i : Int) + 2)
/-- how many before n -/
def cnt (p : Nat → Bool) : Nat → Nat
  | 0 => 0
  | i + 1 => cnt p i + (if p i then 1 else 0)
theorem cnt_le (p : Nat → Bool) : ∀ n, cnt p n ≤ n
  | 0 => Nat.le_refl _
  | n + 1 => by have := cnt_le p n; rw [cnt]; split <;> omega
theorem cnt_congr {p q : Nat → Bool} : ∀ n, (∀ i, i < n → p i = q i) → cnt p n = cnt q n
  | 0, _ => rfl
  | n + 1, h => by rw [cnt, cnt, cnt_congr n (fun i hi => h i (by omega)), h n (by omega)]
/-- the item at an address -/
def itA (P : List It) (a : Nat) : Nat → Nat
  | 0 => 0
  | i + 1 => if aP P i ≤ a then i else itA P a i
theorem itA_lt (P : List It) (a : Nat) : ∀ n, itA P a n ≤ n
  | 0 => Nat.le_refl _
  | n + 1 => by have := itA_lt P a n; rw [itA]; split <;> omega
/-- padding: of aligns before n, of pools before n -/
def alS (P : List It) : Nat → Nat
  | 0 => 0
  | i + 1 => alS P i + (if kd P i = 3 then sz P i (fm P i) (aP P i) else 0)
def poS (P : List It) : Nat → Nat
  | 0 => 0
  | i + 1 => poS P i + (if kd P i = 7 then (plSz (vals P i).length (aP P i) - 4 * (vals P i).length) else 0)
theorem poS_flat {P : List It} {i j : Nat} (h : i ≤ j) (hn : ∀ q, i ≤ q → q < j → kd P q ≠ 7) : poS P j = poS P i := by
  induction h with
  | refl => rfl
  | step h9 ih => rename_i m; rw [poS, if_neg (hn m h9 (Nat.lt_succ_self m)), ih (fun q a b => hn q a (by omega))]; rfl
theorem plSz_ge (c a : Nat) : 4 * c ≤ plSz c a ∧ plSz c a ≤ 4 * c + 3 := by
  have g4 := gap_lt (a := a) (u := 4) (by decide)
  unfold plSz; split <;> omega
theorem alS_le {P : List It} (h : okP P) : ∀ n, alS P n ≤ 16 * n
  | 0 => Nat.le_refl _
  | n + 1 => by
    have h1 := alS_le h n
    rw [alS]
    split
    · rename_i h3
      have hb := h.2.1 n
      unfold okI at hb
      have g3 := gap_lt_pow (a := aP P n) (o := op P n) (by omega)
      unfold sz
      rw [if_neg (by omega), if_pos h3]
      omega
    · omega
theorem poS_le (P : List It) : ∀ n, poS P n ≤ 3 * n
  | 0 => Nat.le_refl _
  | n + 1 => by
    have h1 := poS_le P n
    have h2 := plSz_ge (vals P n).length (aP P n)
    rw [poS]
    split <;> omega
/-- Layout's table is that of P -/
def YR (σ : Sg) (P : List It) : Prop := ∀ i : Nat, i ≤ P.length → σ 61 (i : Int) = (aP P i : Int)
theorem YR.so {σ τ : Sg} {P : List It} (h : YR σ P) (hs : τ 61 = σ 61) : YR τ P := fun i hi => by rw [hs]; exact h i hi
theorem aP_le {P : List It} (h : okP P) (F : Nat → Nat) {i : Nat} (hi : i ≤ P.length) : ad0 P F i + 4 * (vals P i).length ≤ 2000 := by
  have := ad0_bound h F i
  have := h.1
  omega
theorem aPb {P : List It} (h : okP P) {i : Nat} (hi : i ≤ P.length) : aP P i + 4 * (vals P i).length ≤ 2000 := aP_le h (fm P) hi
theorem vals_le {P : List It} (h : okP P) {i : Nat} (hi : i ≤ P.length) : (vals P i).length ≤ 40 := by
  have := vals_len h i
  have := h.1
  omega
theorem lix_le {P : List It} (h : okP P) {i : Nat} (hi : i < P.length) : lix P i ≤ 40 := by
  unfold lix
  have h1 := vals_le h (i := i + 1) (by omega)
  have := List.idxOf_le_length (a := op P i) (l := vals P (i + 1))
  omega
theorem dst_rg {P : List It} (h : okP P) {i m : Nat} (hi : i < P.length) (hm : m ≤ 1000) : -3000 ≤ dst P i m ∧ dst P i m ≤ 5000 := by
  obtain ⟨n1, n2, n3, n4⟩ := npl_spec (P := P) (i := i) (by omega)
  have h1 := aPb h n3
  have h2 := aPb h (i := i) (by omega)
  have h3 := lix_le h hi
  have g4 := gap_lt (a := aP P (npl P i) + m) (u := 4) (by decide)
  unfold dst lad
  omega
theorem sz_le {P : List It} (h : okP P) {i : Nat} (hi : i < P.length) (f a : Nat) : sz P i f a ≤ 250 := by
  have h1 := sz_bound h i f a
  have h2 := vals_le h (i := i) (by omega)
  omega
theorem pow_le {o : Nat} (h : o ≤ 4) : 2 ^ o ≤ 16 := by
  have h2 : 2 ^ o ≤ 2 ^ 4 := Nat.pow_le_pow_right (by decide) h
  omega
end MATH2
