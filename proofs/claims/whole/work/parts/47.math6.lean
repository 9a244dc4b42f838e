/-! Numbers for the reference's questions -/
section MATH6
theorem dst_mono {P : List It} {i m n : Nat} (h : m ≤ n) : dst P i m ≤ dst P i n := by
  induction h with
  | refl => exact Int.le_refl _
  | @step k hk ih =>
    refine Int.le_trans ih ?_
    unfold dst lad gap
    omega
theorem nmA_sp : ∀ k, k < 8 → ∀ n, n < 6 → (nmA k n = 32 ↔ nmL k ≤ n) := by decide +kernel
theorem nmA_lt : ∀ k, k < 8 → ∀ n, n < 6 → nmA k n < 128 := by decide +kernel
theorem nmA_in {k j : Nat} (h : j < nmL k) : nmA k j = nmC k j := if_pos h
theorem aP_s (P : List It) (i : Nat) : (aP P (i + 1) : Int) = (aP P i : Int) + (sz P i (fm P i) (aP P i) : Int) := Int.natCast_add _ _
theorem ad0_s (P : List It) (F : Nat → Nat) (i : Nat) : (ad0 P F (i + 1) : Int) = (ad0 P F i : Int) + (sz P i (F i) (ad0 P F i) : Int) := Int.natCast_add _ _
end MATH6
