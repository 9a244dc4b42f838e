/-! A program as a list of items, and how cells hold it -/
section REPR
/-- kind, operand, form -/
abbrev It : Type := Nat × Nat × Nat
def kd (P : List It) (i : Nat) : Nat := (P.getD i (0, 0, 0)).1
def op (P : List It) (i : Nat) : Nat := (P.getD i (0, 0, 0)).2.1
def fm (P : List It) (i : Nat) : Nat := (P.getD i (0, 0, 0)).2.2
/-- the Program numbered j holds P -/
def PR (σ : Sg) (j : Nat) (P : List It) : Prop := P.length ≤ 40 ∧ σ (4 * j) 3 = (P.length : Int) ∧ ∀ i : Nat, i < P.length → σ (4 * j + 1) (i : Int) = (kd P i : Int) ∧ σ (4 * j + 2) (i : Int) = (op P i : Int) ∧ σ (4 * j + 3) (i : Int) = (fm P i : Int)
/-- an item's numbers are possible -/
def okI (x : It) : Prop := x.1 < 8 ∧ x.2.1 < 100 ∧ x.2.2 < 3
def okP (P : List It) : Prop := ∀ x ∈ P, okI x
theorem ok_at {P : List It} (h : okP P) (i : Nat) : kd P i < 8 ∧ op P i < 100 ∧ fm P i < 3 := by
  unfold kd op fm
  by_cases hi : i < P.length
  · rw [List.getD_eq_getElem?_getD, List.getElem?_eq_getElem hi]
    exact h _ (List.getElem_mem hi)
  · rw [List.getD_eq_getElem?_getD, List.getElem?_eq_none (by omega)]
    decide
end REPR
