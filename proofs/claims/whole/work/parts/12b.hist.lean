/-! The history: a ring of ten programs -/
section HIST
def hix (w : Int) (t : Nat) : Nat := 2 + ((w - t) % 10).toNat
/-- the history holds hs, the newest first -/
def HR (σ : Sg) (hs : List (List It)) : Prop := hs.length ≤ 10 ∧ 0 ≤ σ 48 1 ∧ σ 48 1 < 10 ∧ σ 48 2 = (hs.length : Int) ∧ ∀ (t : Nat) (Q : List It), hs[t]? = some Q → PR σ (hix (σ 48 1) t) Q
theorem HR.so {σ τ : Sg} {hs : List (List It)} (h : HR σ hs) (hs9 : ∀ k, 8 ≤ k → k ≤ 48 → τ k = σ k) : HR τ hs := by
  obtain ⟨h1, h2, h3, h4, h5⟩ := h
  have e := hs9 48 (by omega) (by omega)
  refine ⟨h1, by rw [e]; exact h2, by rw [e]; exact h3, by rw [e]; exact h4, fun t Q hQ => ?_⟩
  rw [e]
  refine (h5 t Q hQ).same (fun k k1 k2 => hs9 k ?_ ?_)
  · unfold hix at k1; omega
  · unfold hix at k2; omega
theorem HR_push {σ τ : Sg} {hs : List (List It)} {P : List It} {v : Int} (hH : HR σ hs) (hv : v = (σ 48 1 + 1) % 10) (h1 : PR τ (2 + v.toNat) P) (h2 : ∀ k, 8 ≤ k → k < 48 → ¬ (4 * (2 + v.toNat) ≤ k ∧ k ≤ 4 * (2 + v.toNat) + 3) → τ k = σ k) (h3 : τ 48 1 = v) (h4 : τ 48 2 = if hs.length < 10 then (hs.length : Int) + 1 else 10) : HR τ ((P :: hs).take 10) := by
  obtain ⟨g1, g2, g3, g4, g5⟩ := hH
  refine ⟨by simp; omega, by rw [h3]; omega, by rw [h3]; omega, ?_, fun t Q hQ => ?_⟩
  · rw [h4, List.length_take, List.length_cons]
    split <;> omega
  · rw [List.getElem?_take] at hQ
    split at hQ
    · rename_i ht
      rw [h3]
      cases t with
      | zero =>
        simp at hQ
        subst hQ
        have e : hix v 0 = 2 + v.toNat := by unfold hix; omega
        rw [e]
        exact h1
      | succ t =>
        rw [List.getElem?_cons_succ] at hQ
        have e : hix v (t + 1) = hix (σ 48 1) t := by unfold hix; omega
        rw [e]
        refine (g5 t Q hQ).same (fun k k1 k2 => h2 k ?_ ?_ ?_)
        · unfold hix at k1; omega
        · unfold hix at k2; omega
        · unfold hix at k1 k2; omega
    · cases hQ
theorem HR_pop {σ τ : Sg} {r : List (List It)} {P : List It} (hH : HR σ (P :: r)) (h2 : ∀ k, 8 ≤ k → k < 48 → τ k = σ k) (h3 : τ 48 1 = (σ 48 1 - 1) % 10) (h4 : τ 48 2 = (r.length : Int)) : HR τ r := by
  obtain ⟨g1, g2, g3, g4, g5⟩ := hH
  simp only [List.length_cons] at g1
  refine ⟨by omega, by rw [h3]; omega, by rw [h3]; omega, h4, fun t Q hQ => ?_⟩
  have h9 := g5 (t + 1) Q (by rw [List.getElem?_cons_succ]; exact hQ)
  have e : hix (τ 48 1) t = hix (σ 48 1) (t + 1) := by rw [h3]; unfold hix; omega
  rw [e]
  refine h9.same (fun k k1 k2 => h2 k ?_ ?_)
  · unfold hix at k1; omega
  · unfold hix at k2; omega
end HIST
