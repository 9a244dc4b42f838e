/-! Helpers: what they answer -/
section HSPEC
def HK (σ σ' : Sg) : Prop := ∀ k, 70 ≤ k → k ≠ 81 → k ≠ 82 → σ' k = σ k
def HPI (R : Rel) (σ : Sg) : Int → Sg → Prop := fun c σ' => ∃ (n : Nat) (z : Int) (A' : AS), c = (n : Int) ∧ n ≤ 9 ∧ R n z A' ∧ CR σ' A' ∧ (n = 0 → σ' 81 0 = (ii z).toInt) ∧ HK σ σ'
theorem CR.out {σ σ' : Sg} {A : AS} (h : CR σ A) (hk : ∀ k, k < 70 → σ' k = σ k) : CR σ' A := by
  obtain ⟨P, hs, sv, T, er⟩ := A
  obtain ⟨g1, g2, g3, g4, ⟨S, g5⟩, g6, g7, g8⟩ := h
  refine ⟨g1.same (fun k _ k2 => hk k (by omega)), g2.so (fun k _ k2 => hk k (by omega)), ?_, g4.so (hk 50 (by omega)) (hk 51 (by omega)), ⟨S, g5.so (hk 67 (by omega)) (hk 68 (by omega))⟩, by rw [hk 69 (by omega)]; exact g6, g7, g8⟩
  rcases g3 with ⟨a, b⟩ | ⟨Q, a, b, c⟩
  · exact Or.inl ⟨a, by rw [hk 69 (by omega)]; exact b⟩
  · exact Or.inr ⟨Q, a, by rw [hk 69 (by omega)]; exact b, c.same (fun k k1 k2 => hk k (by omega))⟩
theorem HPI.ok {R : Rel} {σ σ' : Sg} {z v : Int} (h : SPI R σ z σ') (hv : v = (ii z).toInt) : HPI R σ 0 (upd2 σ' 81 0 v) := by
  obtain ⟨A', h1, h2, h3⟩ := h
  exact ⟨0, z, A', rfl, by omega, h1, h2.out (fun k hk => upd2_other k (by omega)), fun _ => by rw [upd2_at]; exact hv, fun k k1 k2 k3 => (upd2_other k k2).trans (h3 k k1)⟩
theorem HPI.ex {R : Rel} {σ σ' : Sg} {m : List String} {E : String} (h : SPX R σ m E σ') : ∃ c : Nat, m[c]? = some E ∧ (c ≤ 8 → HPI R σ ((c : Int) + 1) σ') := by
  obtain ⟨c, A', h1, h2, h3, h4⟩ := h
  exact ⟨c, h2, fun hc => ⟨c + 1, 0, A', by omega, by omega, h1, h3, fun h9 => by omega, fun k k1 _ _ => h4 k k1⟩⟩
theorem fit01 {A : AS} {w z : Int} {A' : AS} (h : fn (sp_tr q_fit A w) 0 z A') : z = 0 ∨ z = 1 := by
  obtain ⟨P, hs, sv, T, er⟩ := A
  unfold fn at h
  rw [sp_tr] at h
  split at h
  · cases h
  · split at h
    · cases h
    · split at h
      · cases h
      · have h2 := congrArg (fun r : R3 => r.2.1) h
        dsimp only at h2
        rw [← h2]
        unfold q_fit
        split
        · exact Or.inr rfl
        · exact Or.inl rfl
def HPD (A : AS) (σ : Sg) : Int → Sg → Prop := fun c σ' => ((c = 1 ∧ nT A.1 = 0) ∨ (c = 0 ∧ nT A.1 ≠ 0 ∧ σ' 82 0 = ((avD (sumF A.1) (nT A.1)).toNat : Int))) ∧ CR σ' A ∧ HK σ σ'
end HSPEC
