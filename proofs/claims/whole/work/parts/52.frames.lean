/-! The reference: frames, reachable addresses, choices from the last item on -/
section FRAMES
def cG : Nat → Bool := fun k => k == 76 || k == 78 || k == 79
def cR : Nat → Bool := fun k => k == 71 || k == 75 || k == 76 || k == 80
def c80 : Nat → Bool := fun k => k == 80
def fC : Int → Bool := fun z => z == 11 || z == 18 || z == 19 || z == 20
theorem FR.G1 {σ τ : Sg} (h : FR σ τ c1 f1) : FR σ τ cG f1 := h.mono (fun k hk => by
    unfold cG at hk; unfold c1
    simp only [Bool.or_eq_false_iff, beq_eq_false_iff_ne] at hk ⊢
    omega) (fun _ h => h)
theorem FR.SG {σ τ : Sg} (h : FR σ τ cG f1) : FR σ τ cS fS := h.mono (fun k hk => by
    unfold cS at hk; unfold cG
    simp only [Bool.or_eq_false_iff, beq_eq_false_iff_ne] at hk ⊢
    omega) (fun z hz => by
    unfold fS at hz; unfold f1
    simp only [Bool.or_eq_false_iff, beq_eq_false_iff_ne] at hz ⊢
    omega)
theorem FR.R2 {σ τ : Sg} (h : FR σ τ c2 f1) : FR σ τ cR f1 := h.mono (fun k hk => by
    unfold cR at hk; unfold c2
    simp only [Bool.or_eq_false_iff, beq_eq_false_iff_ne] at hk ⊢
    omega) (fun _ h => h)
theorem FR.R1 {σ τ : Sg} (h : FR σ τ c1 f1) : FR σ τ cR f1 := h.to2.R2
theorem FR.R71 {σ τ : Sg} (h : FR σ τ c71 fN) : FR σ τ cR f1 := h.mono (fun k hk => by
    unfold cR at hk; unfold c71
    simp only [Bool.or_eq_false_iff, beq_eq_false_iff_ne] at hk ⊢
    omega) (fun _ _ => rfl)
theorem FR.R80 {σ τ : Sg} (h : FR σ τ c80 fN) : FR σ τ cR f1 := h.mono (fun k hk => by
    unfold cR at hk; unfold c80
    simp only [Bool.or_eq_false_iff, beq_eq_false_iff_ne] at hk ⊢
    omega) (fun _ _ => rfl)
theorem FR.RC {σ τ : Sg} (h : FR σ τ cR f1) : FR σ τ cR fC := h.mono (fun _ h => h) (fun z hz => by
    unfold fC at hz; unfold f1
    simp only [Bool.or_eq_false_iff, beq_eq_false_iff_ne] at hz ⊢
    omega)
theorem FR.PC {σ τ : Sg} (h : FR σ τ cR fC) : FR σ τ cP fP := h.mono (fun k hk => by
    unfold cP cS at hk; unfold cR
    simp only [Bool.or_eq_false_iff, beq_eq_false_iff_ne] at hk ⊢
    omega) (fun z hz => by
    unfold fP fS at hz; unfold fC
    simp only [Bool.or_eq_false_iff, beq_eq_false_iff_ne] at hz ⊢
    omega)
theorem FR.PR {σ τ : Sg} (h : FR σ τ cR f1) : FR σ τ cP fP := h.RC.PC
def BB (σ : Sg) (k : Nat) (S : Nat → Prop) : Prop := ∀ b : Nat, b < 3000 → (σ k (b : Int) = 1 ∧ S b) ∨ (σ k (b : Int) = 0 ∧ ¬ S b)
theorem BB.same {σ τ : Sg} {k : Nat} {S : Nat → Prop} (h : BB σ k S) (e : τ k = σ k) : BB τ k S := fun b hb => by rw [e]; exact h b hb
theorem BB.congr {σ : Sg} {k : Nat} {S S' : Nat → Prop} (h : BB σ k S) (e : ∀ b, b < 3000 → (S b ↔ S' b)) : BB σ k S' := fun b hb => by rw [← e b hb]; exact h b hb
theorem BB.upd {σ : Sg} {k b0 : Nat} {S : Nat → Prop} {z : Int} (h : BB σ k S) (hz : z = (b0 : Int)) : BB (upd2 σ k z 1) k (fun b => S b ∨ b = b0) := fun b hb => by
  subst hz
  by_cases e : b = b0
  · subst e
    rw [upd2_at]
    exact Or.inl ⟨rfl, Or.inr rfl⟩
  · rw [upd2_z (by omega)]
    rcases h b hb with ⟨h1, h2⟩ | ⟨h1, h2⟩
    · exact Or.inl ⟨h1, Or.inl h2⟩
    · exact Or.inr ⟨h1, fun h9 => by rcases h9 with h9 | h9; exact h2 h9; exact e h9⟩
def WS (P : List It) (i a f b : Nat) : Prop := (∃ x, x < a ∧ rS P i x = true ∧ ∃ g, g ≤ 2 ∧ b = x + sz P i g x) ∨ (rS P i a = true ∧ ∃ g, g < f ∧ b = a + sz P i g a)
theorem WS_0 {P : List It} {i b : Nat} : ¬ WS P i 0 0 b := by
  rintro (⟨x, h, _⟩ | ⟨_, g, h, _⟩) <;> omega
theorem WS_next {P : List It} {i a f b : Nat} (h : f = 3 ∨ ¬ rS P i a = true) : WS P i a f b ↔ WS P i (a + 1) 0 b := by
  constructor
  · rintro (⟨x, h1, h2, g, h3, h4⟩ | ⟨h1, g, h2, h3⟩)
    · exact Or.inl ⟨x, by omega, h2, g, h3, h4⟩
    · rcases h with h | h
      · exact Or.inl ⟨a, by omega, h1, g, by omega, h3⟩
      · exact absurd h1 h
  · rintro (⟨x, h1, h2, g, h3, h4⟩ | ⟨_, g, h2, _⟩)
    · by_cases e : x = a
      · subst e
        rcases h with h | h
        · exact Or.inr ⟨h2, g, by omega, h4⟩
        · exact absurd h2 h
      · exact Or.inl ⟨x, by omega, h2, g, h3, h4⟩
    · omega
theorem WS_step {P : List It} {i a f b : Nat} (h : rS P i a = true) : (WS P i a f b ∨ b = a + sz P i f a) ↔ WS P i a (f + 1) b := by
  constructor
  · rintro ((h1 | ⟨_, g, h2, h3⟩) | h1)
    · exact Or.inl h1
    · exact Or.inr ⟨h, g, by omega, h3⟩
    · exact Or.inr ⟨h, f, by omega, h1⟩
  · rintro (h1 | ⟨_, g, h2, h3⟩)
    · exact Or.inl (Or.inl h1)
    · by_cases e : g = f
      · subst e; exact Or.inr h3
      · exact Or.inl (Or.inr ⟨h, g, by omega, h3⟩)
theorem WS_end {P : List It} (hok : okP P) {i b : Nat} (hi : i < P.length) : WS P i 2900 0 b ↔ rS P (i + 1) b = true := by
  rw [rS_succ]
  have h40 := hok.1
  constructor
  · rintro (⟨x, h1, h2, h3⟩ | ⟨_, g, h2, _⟩)
    · exact ⟨x, h2, h3⟩
    · omega
  · rintro ⟨a, h1, h2⟩
    have := rS_le hok i a h1
    exact Or.inl ⟨a, by omega, h1, h2⟩
theorem nar_b {v : Int} (h : v = 0 ∨ v = 1) : vp_nar .boolean (ii v) = ii v := by rcases h with rfl | rfl <;> rfl
/-- choices, the last item first -/
def dnF (P : List It) (c m : Nat) : Nat → Nat := fun q => if P.length - m ≤ q then chF P c q else fm P q
theorem dn_0 {P : List It} (c : Nat) : setF P (dnF P c 0) = P := by
  rw [setF_congr (G := fm P) (fun i hi => by unfold dnF; rw [if_neg (by omega)])]
  exact setF_self P
theorem dn_all {P : List It} (c : Nat) : setF P (dnF P c P.length) = setF P (chF P c) := setF_congr (fun i hi => by unfold dnF; rw [if_pos (by omega)])
theorem dn_no {P : List It} (h : okP P) {c m i : Nat} (hi : i + 1 + m = P.length) (ht : ¬ isT P i) : setF P (dnF P c m) = setF P (dnF P c (m + 1)) := setF_congr (fun q hq => by
  unfold dnF
  by_cases e : q = i
  · subst e
    rw [if_neg (by omega), if_pos (by omega), (chF_ok P c q).2 ht, (fm_T h q).2 ht]
  · by_cases h2 : P.length - m ≤ q
    · rw [if_pos h2, if_pos (by omega)]
    · rw [if_neg h2, if_neg (by omega)])
theorem dn_yes {P : List It} {c m i : Nat} (hi : i + 1 + m = P.length) : stF (setF P (dnF P c m)) i (chF P c i) = setF P (dnF P c (m + 1)) := by
  apply it_ext (by rw [stF_len, setF_len, setF_len])
  intro q hq
  rw [stF_len, setF_len] at hq
  obtain ⟨a1, a2, a3⟩ := stF_at (setF P (dnF P c m)) i (chF P c i) q
  obtain ⟨b1, b2, b3⟩ := setF_at P (dnF P c m) q
  obtain ⟨d1, d2, d3⟩ := setF_at P (dnF P c (m + 1)) q
  refine ⟨by rw [a1, b1, d1], by rw [a2, b2, d2], ?_⟩
  rw [a3, b3, d3, setF_len, if_pos hq, if_pos hq]
  unfold dnF
  by_cases h : q = i
  · subst h
    rw [if_pos ⟨rfl, hq⟩, if_pos (by omega)]
  · rw [if_neg (fun h9 => h h9.1)]
    by_cases h2 : P.length - m ≤ q
    · rw [if_pos h2, if_pos (by omega)]
    · rw [if_neg h2, if_neg (by omega)]
theorem dn_ok {P : List It} (h : okP P) (c m : Nat) : okP (setF P (dnF P c m)) := setF_ok h (fun i _ => by
  unfold dnF
  split
  · exact chF_ok P c i
  · exact fm_T h i)
theorem ch_at {P : List It} {c m i : Nat} (hi : i + 1 + m = P.length) (ht : isT P i) : c / 3 ^ rT P m % 3 = chF P c i := by
  unfold chF
  rw [if_pos ht, show P.length - (i + 1) = m by omega]
theorem ch_s1 {P : List It} {c m i : Nat} (hi : i + 1 + m = P.length) (ht : isT P i) : c / 3 ^ rT P (m + 1) = c / 3 ^ rT P m / 3 := by
  rw [rT, show P.length - (m + 1) = i by omega, if_pos ht, Nat.pow_succ, Nat.div_div_eq_div_mul]
theorem ch_s0 {P : List It} {c m i : Nat} (hi : i + 1 + m = P.length) (ht : ¬ isT P i) : rT P (m + 1) = rT P m := by
  rw [rT, show P.length - (m + 1) = i by omega, if_neg ht]
  rfl
theorem ko_setF {P Q : List It} (h : KO P Q) (G : Nat → Nat) : setF Q G = setF P G := by
  apply it_ext (by rw [setF_len, setF_len, h.1])
  intro i hi
  obtain ⟨a1, a2, a3⟩ := setF_at Q G i
  obtain ⟨d1, d2, d3⟩ := setF_at P G i
  exact ⟨by rw [a1, d1, (h.2 i).1], by rw [a2, d2, (h.2 i).2], by rw [a3, d3, h.1]⟩
theorem pow3 {k : Nat} (h : k ≤ 8) : 3 ^ k ≤ 6561 := Nat.pow_le_pow_right (n := 3) (by decide) h
end FRAMES
