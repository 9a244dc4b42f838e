/-! The set of possible addresses -/
section ASET
def rS (P : List It) : Nat → Nat → Bool
  | 0, b => decide (b = 0)
  | i + 1, b => (List.range (b + 1)).any (fun a => rS P i a && (decide (b = a + sz P i 0 a) || decide (b = a + sz P i 1 a) || decide (b = a + sz P i 2 a)))
theorem rS_succ {P : List It} {i b : Nat} : rS P (i + 1) b = true ↔ ∃ a, rS P i a = true ∧ ∃ f, f ≤ 2 ∧ b = a + sz P i f a := by
  rw [rS, List.any_eq_true]
  constructor
  · rintro ⟨a, -, h⟩
    simp only [Bool.and_eq_true, Bool.or_eq_true, decide_eq_true_eq] at h
    obtain ⟨h1, (h2 | h2) | h2⟩ := h
    · exact ⟨a, h1, 0, by decide, h2⟩
    · exact ⟨a, h1, 1, by decide, h2⟩
    · exact ⟨a, h1, 2, by decide, h2⟩
  · rintro ⟨a, h1, f, hf, hb⟩
    refine ⟨a, List.mem_range.mpr (by omega), ?_⟩
    simp only [Bool.and_eq_true, Bool.or_eq_true, decide_eq_true_eq]
    refine ⟨h1, ?_⟩
    rcases (show f = 0 ∨ f = 1 ∨ f = 2 by omega) with rfl | rfl | rfl
    · exact Or.inl (Or.inl hb)
    · exact Or.inl (Or.inr hb)
    · exact Or.inr hb
theorem rS_le {P : List It} (h : okP P) : ∀ i b, rS P i b = true → b + 4 * (vals P i).length ≤ 50 * i
  | 0, b, hb => by simp [rS] at hb; subst hb; simp [vals]
  | i + 1, b, hb => by
    obtain ⟨a, h1, f, hf, h2⟩ := rS_succ.mp hb
    have h3 := rS_le h i a h1
    have h4 := sz_bound h i f a
    omega
theorem cnt_tail {p : Nat → Bool} {a : Nat} : ∀ m, a ≤ m → (∀ x, a ≤ x → x < m → p x = false) → cnt p m = cnt p a
  | 0, h, _ => by rw [show a = 0 by omega]
  | m + 1, h, hp => by
    by_cases e : a = m + 1
    · rw [e]
    · rw [cnt, hp m (by omega) (by omega), cnt_tail m (by omega) (fun x h1 h2 => hp x h1 (by omega))]
      rfl
/-- holds is S; lowest and highest go round B -/
def AM (σ : Sg) (S B : Nat → Prop) : Prop := (0 ≤ σ 67 3 ∧ σ 67 3 ≤ 2047 ∧ 0 ≤ σ 67 4 ∧ σ 67 4 ≤ 2047) ∧ (∀ x : Nat, x < 2048 → (σ 68 (x : Int) = 1 ∧ S x) ∨ (σ 68 (x : Int) = 0 ∧ ¬ S x)) ∧ ∀ x : Nat, B x → σ 67 3 ≤ (x : Int) ∧ (x : Int) ≤ σ 67 4
theorem AM.congr {σ : Sg} {S B S' B' : Nat → Prop} (h : AM σ S B) (h1 : ∀ x, x < 2048 → (S x ↔ S' x)) (h2 : ∀ x, B' x → B x) : AM σ S' B' := by
  obtain ⟨a, b, c⟩ := h
  refine ⟨a, fun x hx => ?_, fun x hx => c x (h2 x hx)⟩
  have := h1 x hx
  rcases b x hx with ⟨b1, b2⟩ | ⟨b1, b2⟩
  · exact Or.inl ⟨b1, this.mp b2⟩
  · exact Or.inr ⟨b1, fun h => b2 (this.mpr h)⟩
theorem AM.so {σ τ : Sg} {S B : Nat → Prop} (h : AM σ S B) (h1 : τ 67 = σ 67) (h2 : τ 68 = σ 68) : AM τ S B := by
  unfold AM
  rw [h1, h2]
  exact h
theorem sz_flat {P : List It} {i f g a : Nat} (h : ¬ isT P i) : sz P i f a = sz P i g a := by
  unfold isT at h
  unfold sz
  rw [if_neg (show ¬ kd P i = 4 by omega), if_neg (show ¬ kd P i = 5 by omega), if_neg (show ¬ kd P i = 4 by omega), if_neg (show ¬ kd P i = 5 by omega)]
end ASET
