/-! Places of pools, values, labels: for the reference -/
section MATH5
theorem plc_uniq {P : List It} {p q : Nat} (h7 : kd P q = 7) (hq : q ≤ P.length) (hp : pno P q = p) : plc P p = q := by
  have hle : p ≤ pno P P.length := by rw [← hp]; exact pno_mono P hq
  obtain ⟨a, b, c⟩ := plc_spec (P := P) p hle
  rcases Nat.lt_trichotomy (plc P p) q with h | h | h
  · have := pno_mono P (i := plc P p + 1) (j := q) h
    rw [pno, if_pos a] at this
    omega
  · exact h
  · have := pno_mono P (i := q + 1) (j := plc P p) h
    rw [pno, if_pos h7] at this
    omega
theorem npl_uniq {P : List It} {i q : Nat} (h7 : kd P q = 7) (hi : i ≤ q) (hq : q ≤ P.length) (hno : ∀ j, i ≤ j → j < q → kd P j ≠ 7) : npl P i = q := by
  obtain ⟨a, b, c, d⟩ := npl_spec (P := P) (i := i) (by omega)
  rcases Nat.lt_trichotomy (npl P i) q with h | h | h
  · exact absurd a (hno _ b h)
  · exact h
  · exact absurd h7 (d q hi h)
theorem vals_prx {P : List It} {i : Nat} : ∀ {j : Nat}, i ≤ j → (∀ q, i ≤ q → q < j → kd P q ≠ 7) → vals P i <+: vals P j := by
  intro j h
  induction h with
  | refl => intro _; exact List.prefix_rfl
  | @step m hm ih =>
    intro hn
    have h1 := ih (fun q a b => hn q a (by omega))
    rw [vals, if_neg (hn m hm (by omega))]
    split
    · exact List.IsPrefix.trans h1 (List.prefix_append _ _)
    · exact h1
theorem mem_vals {P : List It} {i : Nat} (h : kd P i = 6) : op P i ∈ vals P (i + 1) := by
  rw [vals, if_neg (by omega)]
  by_cases h2 : op P i ∈ vals P i
  · rw [if_neg (fun h9 => h9.2 h2)]; exact h2
  · rw [if_pos ⟨h, h2⟩]; simp
theorem vix_lix {P : List It} {i : Nat} (hi : i < P.length) (h : kd P i = 6) : vix (vals P (npl P i)) (op P i) = (lix P i : Int) := by
  obtain ⟨a, b, c, d⟩ := npl_spec (P := P) (i := i) (by omega)
  have hne : npl P i ≠ i := fun e => by rw [e] at a; omega
  obtain ⟨t, ht⟩ := vals_prx (P := P) (i := i + 1) (j := npl P i) (by omega) (fun q h1 h2 => d q (by omega) h2)
  have hm := mem_vals h
  unfold vix lix
  rw [← ht, if_pos (List.mem_append_left _ hm), List.idxOf_append, if_pos hm]
theorem dfn_first {P : List It} (h : okP P) {lb n : Nat} (hn : n < P.length) (h2 : kd P n = 2) (ho : op P n = lb) : dfn P lb P.length = (n : Int) := by
  rw [← ho]
  exact dfn_uniq h hn h2
theorem dfn_none {P : List It} {lb : Nat} (h : ∀ i, i < P.length → ¬ (kd P i = 2 ∧ op P i = lb)) : dfn P lb P.length = -1 := by
  rcases dfn_spec P lb P.length with ⟨e, _⟩ | ⟨i, _, a, b, c⟩
  · exact e
  · exact absurd ⟨b, c⟩ (h i a)
end MATH5
