/-! Forgetting a local; the padding of pools by their numbers -/
theorem GJ.drop {X : Cx} {a b pc : Nat} {L : List (Option V)} {st : List V} {σ : Sg} (i : Nat) (k : GJ X a b pc (L.set i none) st σ) : GJ X a b pc L st σ := by
  obtain ⟨g, p, l, e, R, s, m, args, below, meth, c, Q, nL⟩ := X
  intro H locs ls hLn hP hS hls
  refine k H locs ls (by rw [List.length_set]; exact hLn) hP hS ⟨hls.1, hls.2.1, ?_⟩
  rintro ⟨j, w⟩ hq
  obtain ⟨u, -, h2, h3⟩ := (lvl_mem _ 0 j w).mp hq
  rw [Nat.sub_zero, List.getElem?_set] at h2
  apply hls.2.2 (j, w)
  by_cases hij : i = j
  · rw [if_pos hij] at h2
    split at h2 <;> cases h2
  · rw [if_neg hij] at h2
    exact (lvl_mem L 0 j w).mpr ⟨u, Nat.zero_le _, h2, h3⟩
def plA (P : List It) : Nat → Nat
  | 0 => 0
  | k + 1 => plA P k + (plSz (vals P (plc P k)).length (aP P (plc P k)) - 4 * (vals P (plc P k)).length)
theorem plA_eq {P : List It} : ∀ k, k ≤ pno P P.length → plA P k = poS P (plc P k)
  | 0, _ => by
    obtain ⟨a, b, c, d⟩ := npl_spec (P := P) (i := 0) (Nat.zero_le _)
    rw [plA, plc, poS_flat b d]
    rfl
  | k + 1, h => by
    obtain ⟨a, b, c⟩ := plc_spec (P := P) k (by omega)
    have hlt : plc P k < P.length := by
      rcases Nat.lt_or_ge (plc P k) P.length with h1 | h1
      · exact h1
      · have e : plc P k = P.length := by omega
        rw [e] at c; omega
    obtain ⟨a2, b2, c2, d2⟩ := npl_spec (P := P) (i := plc P k + 1) hlt
    rw [plA, plA_eq k (by omega), show plc P (k + 1) = npl P (plc P k + 1) from rfl, poS_flat b2 d2, poS, if_pos a]
theorem plA_all {P : List It} : plA P (pno P P.length + 1) = poS P (P.length + 1) := by
  rw [plA, plA_eq _ (Nat.le_refl _), plc_last, poS, if_pos (ok_out (Nat.le_refl _)).1]
theorem plA_le {P : List It} : ∀ k, plA P k ≤ 3 * k
  | 0 => Nat.le_refl _
  | k + 1 => by
    have h1 := plA_le (P := P) k
    have h2 := plSz_ge (vals P (plc P k)).length (aP P (plc P k))
    rw [plA]; omega
