/-! The reference: a place is made, an item is taken out -/
section SHIFT
def opS (σ : Sg) (n k : Nat) : Sg := fun c q => if c = 71 ∧ ((1 + (k : Int) < q ∧ q ≤ 1 + (n : Int)) ∨ (41 + (k : Int) < q ∧ q ≤ 41 + (n : Int)) ∨ (81 + (k : Int) < q ∧ q ≤ 81 + (n : Int))) then σ 71 (q - 1) else σ c q
theorem opS_0 (σ : Sg) (n : Nat) : opS σ n n = σ := by
  funext c q
  unfold opS
  rw [if_neg (by omega)]
theorem opS_lo {σ : Sg} {n k : Nat} (hn : n < 40) (hk : k < n) : opS σ n (k + 1) 71 (1 + (k : Int)) = σ 71 (1 + (k : Int)) ∧ opS σ n (k + 1) 71 (41 + (k : Int)) = σ 71 (41 + (k : Int)) ∧ opS σ n (k + 1) 71 (81 + (k : Int)) = σ 71 (81 + (k : Int)) := by
  unfold opS
  rw [if_neg (by omega), if_neg (by omega), if_neg (by omega)]
  exact ⟨rfl, rfl, rfl⟩
theorem opS_step {σ : Sg} {n k : Nat} (hn : n < 40) (hk : k < n) : opS σ n k = upd2 (upd2 (upd2 (opS σ n (k + 1)) 71 (1 + ((k + 1 : Nat) : Int)) (σ 71 (1 + (k : Int)))) 71 (41 + ((k + 1 : Nat) : Int)) (σ 71 (41 + (k : Int)))) 71 (81 + ((k + 1 : Nat) : Int)) (σ 71 (81 + (k : Int))) := by
  funext c q
  unfold upd2
  by_cases h3 : c = 71 ∧ q = 81 + ((k + 1 : Nat) : Int)
  · rw [if_pos h3]
    obtain ⟨rfl, rfl⟩ := h3
    unfold opS
    rw [if_pos (by omega)]
    exact cg σ rfl (by omega)
  · rw [if_neg h3]
    by_cases h2 : c = 71 ∧ q = 41 + ((k + 1 : Nat) : Int)
    · rw [if_pos h2]
      obtain ⟨rfl, rfl⟩ := h2
      unfold opS
      rw [if_pos (by omega)]
      exact cg σ rfl (by omega)
    · rw [if_neg h2]
      by_cases h1 : c = 71 ∧ q = 1 + ((k + 1 : Nat) : Int)
      · rw [if_pos h1]
        obtain ⟨rfl, rfl⟩ := h1
        unfold opS
        rw [if_pos (by omega)]
        exact cg σ rfl (by omega)
      · rw [if_neg h1]
        unfold opS
        by_cases h : c = 71 ∧ ((1 + ((k + 1 : Nat) : Int) < q ∧ q ≤ 1 + (n : Int)) ∨ (41 + ((k + 1 : Nat) : Int) < q ∧ q ≤ 41 + (n : Int)) ∨ (81 + ((k + 1 : Nat) : Int) < q ∧ q ≤ 81 + (n : Int)))
        · rw [if_pos h, if_pos (by omega)]
        · rw [if_neg h, if_neg (by omega)]
theorem FR_71 {σ τ : Sg} (h : ∀ k, k ≠ 71 → τ k = σ k) : FR σ τ c71 fN := ⟨fun k _ b => h k (fun e => by rw [e] at b; cases b), fun z _ => by rw [h 70 (by decide)]⟩
theorem FR_71' {σ τ : Sg} (h : FR σ τ c71 fN) : ∀ k, k ≠ 71 → τ k = σ k := fun k hk => by
  by_cases e : k = 70
  · subst e
    funext z
    exact h.2 z rfl
  · exact h.1 k e (by unfold c71; simpa using hk)
theorem opS_FR {σ : Sg} {n k : Nat} : FR σ (opS σ n k) c71 fN := FR_71 (fun c hc => by
  funext q
  unfold opS
  rw [if_neg (fun h => hc h.1)])
theorem MP_ins {σ : Sg} {P : List It} {p k o f : Nat} {v : Int} (hM : MP σ P) (hp : p ≤ P.length) (hn : P.length < 40) (hok : okP (insA P p (k, o, f))) (hv : v = (P.length : Int) + 1) : MP (upd2 (upd2 (upd2 (upd2 (opS σ P.length p) 71 0 v) 71 (1 + (p : Int)) (k : Int)) 71 (41 + (p : Int)) (o : Int)) 71 (81 + (p : Int)) (f : Int)) (insA P p (k, o, f)) := by
  subst hv
  obtain ⟨h1, h2, h3⟩ := hM
  have hl := insA_len (P := P) (p := p) (k, o, f) hp
  refine ⟨hok, ?_, fun i hi => ?_⟩
  · rw [upd2_z (by omega), upd2_z (by omega), upd2_z (by omega), upd2_at, hl]
    omega
  · rw [hl] at hi
    obtain ⟨e1, e2, e3⟩ := insA_at (P := P) (p := p) (k, o, f) hp i
    rw [e1, e2, e3]
    by_cases c : i = p
    · subst c
      simp only [Nat.lt_irrefl, if_false, if_true]
      refine ⟨?_, ?_, ?_⟩
      · rw [upd2_z (by omega), upd2_z (by omega), upd2_at]
      · rw [upd2_z (by omega), upd2_at]
      · rw [upd2_at]
    · refine ⟨?_, ?_, ?_⟩
      · rw [upd2_z (by omega), upd2_z (by omega), upd2_z (by omega), upd2_z (by omega)]
        unfold opS
        by_cases c2 : i < p
        · rw [if_pos c2, if_neg (by omega)]
          exact (h3 i (by omega)).1
        · rw [if_neg c2, if_neg c, if_pos (by omega)]
          rw [show 1 + (i : Int) - 1 = 1 + ((i - 1 : Nat) : Int) by omega]
          exact (h3 (i - 1) (by omega)).1
      · rw [upd2_z (by omega), upd2_z (by omega), upd2_z (by omega), upd2_z (by omega)]
        unfold opS
        by_cases c2 : i < p
        · rw [if_pos c2, if_neg (by omega)]
          exact (h3 i (by omega)).2.1
        · rw [if_neg c2, if_neg c, if_pos (by omega)]
          rw [show 41 + (i : Int) - 1 = 41 + ((i - 1 : Nat) : Int) by omega]
          exact (h3 (i - 1) (by omega)).2.1
      · rw [upd2_z (by omega), upd2_z (by omega), upd2_z (by omega), upd2_z (by omega)]
        unfold opS
        by_cases c2 : i < p
        · rw [if_pos c2, if_neg (by omega)]
          exact (h3 i (by omega)).2.2
        · rw [if_neg c2, if_neg c, if_pos (by omega)]
          rw [show 81 + (i : Int) - 1 = 81 + ((i - 1 : Nat) : Int) by omega]
          exact (h3 (i - 1) (by omega)).2.2
def clS (σ : Sg) (p k : Nat) : Sg := fun c q => if c = 71 ∧ ((1 + (p : Int) ≤ q ∧ q < 1 + (k : Int)) ∨ (41 + (p : Int) ≤ q ∧ q < 41 + (k : Int)) ∨ (81 + (p : Int) ≤ q ∧ q < 81 + (k : Int))) then σ 71 (q + 1) else σ c q
theorem clS_0 (σ : Sg) (p : Nat) : clS σ p p = σ := by
  funext c q
  unfold clS
  rw [if_neg (by omega)]
theorem clS_hi {σ : Sg} {p k : Nat} (hk : k < 39) : clS σ p k 71 (1 + ((k + 1 : Nat) : Int)) = σ 71 (1 + ((k + 1 : Nat) : Int)) ∧ clS σ p k 71 (41 + ((k + 1 : Nat) : Int)) = σ 71 (41 + ((k + 1 : Nat) : Int)) ∧ clS σ p k 71 (81 + ((k + 1 : Nat) : Int)) = σ 71 (81 + ((k + 1 : Nat) : Int)) ∧ clS σ p k 71 0 = σ 71 0 := by
  unfold clS
  rw [if_neg (by omega), if_neg (by omega), if_neg (by omega), if_neg (by omega)]
  exact ⟨rfl, rfl, rfl, rfl⟩
theorem clS_step {σ : Sg} {p k : Nat} (hp : p ≤ k) (hk : k < 39) : clS σ p (k + 1) = upd2 (upd2 (upd2 (clS σ p k) 71 (1 + (k : Int)) (σ 71 (1 + ((k + 1 : Nat) : Int)))) 71 (41 + (k : Int)) (σ 71 (41 + ((k + 1 : Nat) : Int)))) 71 (81 + (k : Int)) (σ 71 (81 + ((k + 1 : Nat) : Int))) := by
  funext c q
  unfold upd2
  by_cases h3 : c = 71 ∧ q = 81 + (k : Int)
  · rw [if_pos h3]
    obtain ⟨rfl, rfl⟩ := h3
    unfold clS
    rw [if_pos (by omega)]
    exact cg σ rfl (by omega)
  · rw [if_neg h3]
    by_cases h2 : c = 71 ∧ q = 41 + (k : Int)
    · rw [if_pos h2]
      obtain ⟨rfl, rfl⟩ := h2
      unfold clS
      rw [if_pos (by omega)]
      exact cg σ rfl (by omega)
    · rw [if_neg h2]
      by_cases h1 : c = 71 ∧ q = 1 + (k : Int)
      · rw [if_pos h1]
        obtain ⟨rfl, rfl⟩ := h1
        unfold clS
        rw [if_pos (by omega)]
        exact cg σ rfl (by omega)
      · rw [if_neg h1]
        unfold clS
        by_cases h : c = 71 ∧ ((1 + (p : Int) ≤ q ∧ q < 1 + (k : Int)) ∨ (41 + (p : Int) ≤ q ∧ q < 41 + (k : Int)) ∨ (81 + (p : Int) ≤ q ∧ q < 81 + (k : Int)))
        · rw [if_pos h, if_pos (by omega)]
        · rw [if_neg h, if_neg (by omega)]
theorem clS_FR {σ : Sg} {p k : Nat} : FR σ (clS σ p k) c71 fN := FR_71 (fun c hc => by
  funext q
  unfold clS
  rw [if_neg (fun h => hc h.1)])
theorem MP_era {σ : Sg} {P : List It} {p n : Nat} {v : Int} (hM : MP σ P) (hp : p < P.length) (hv : v = (P.length : Int) - 1) (hn : n + 1 = P.length) : MP (clS (upd2 σ 71 0 v) p n) (P.eraseIdx p) := by
  subst hv
  obtain ⟨h1, h2, h3⟩ := hM
  have hl := era_len hp
  have h40 := h1.1
  refine ⟨era_ok h1 hp, ?_, fun i hi => ?_⟩
  · unfold clS
    rw [if_neg (by omega), upd2_at, hl]
    omega
  · rw [hl] at hi
    obtain ⟨e1, e2, e3⟩ := era_at (P := P) (p := p) i
    rw [e1, e2, e3]
    unfold clS
    by_cases c : i < p
    · rw [if_pos c, if_pos c, if_pos c, if_neg (by omega), if_neg (by omega), if_neg (by omega), upd2_z (by omega), upd2_z (by omega), upd2_z (by omega)]
      exact h3 i (by omega)
    · rw [if_neg c, if_neg c, if_neg c, if_pos (by omega), if_pos (by omega), if_pos (by omega), upd2_z (by omega), upd2_z (by omega), upd2_z (by omega)]
      rw [show 1 + (i : Int) + 1 = 1 + ((i + 1 : Nat) : Int) by omega, show 41 + (i : Int) + 1 = 41 + ((i + 1 : Nat) : Int) by omega, show 81 + (i : Int) + 1 = 81 + ((i + 1 : Nat) : Int) by omega]
      exact h3 (i + 1) (by omega)
theorem MP_stF {σ : Sg} {P : List It} {i f : Nat} (hM : MP σ P) (hi : i < P.length) (hok : okP (stF P i f)) : MP (upd2 σ 71 (81 + (i : Int)) (f : Int)) (stF P i f) := by
  obtain ⟨h1, h2, h3⟩ := hM
  have h40 := h1.1
  refine ⟨hok, by rw [upd2_z (by omega), stF_len]; exact h2, fun q hq => ?_⟩
  rw [stF_len] at hq
  obtain ⟨e1, e2, e3⟩ := stF_at P i f q
  rw [e1, e2, e3, upd2_z (by omega), upd2_z (by omega)]
  refine ⟨(h3 q hq).1, (h3 q hq).2.1, ?_⟩
  by_cases c : q = i
  · subst c
    rw [upd2_at, if_pos ⟨rfl, hi⟩]
  · rw [upd2_z (by omega), if_neg (fun h => c h.1)]
    exact (h3 q hq).2.2
end SHIFT
