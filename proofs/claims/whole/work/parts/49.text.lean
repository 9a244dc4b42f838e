/-! Reading: for the reference -/
section TEXT2
def nmb (T : List Nat) (k : Nat) : Int := if k = 7 then 0 else nF T (nmL k + 1) (T.length - (nmL k + 1))
def oN (T : List Nat) : Nat → Int
  | 0 => 0
  | k + 1 => if isW T k then nmb T k else oN T k
theorem oN_kR (T : List Nat) : ∀ n, oN T n = if kR T n = -1 then 0 else nmb T (kR T n).toNat
  | 0 => rfl
  | n + 1 => by
    rw [oN, kR]
    by_cases h : isW T n
    · rw [if_pos h, if_pos h, if_neg (by omega), Int.toNat_natCast]
    · rw [if_neg h, if_neg h]
      exact oN_kR T n
theorem oN_oR (T : List Nat) : oN T 8 = oR T := by
  rw [oN_kR, oR]
  have hk := kR_rg T 8
  by_cases h : kR T 8 = -1
  · rw [if_pos h, if_pos (Or.inl h)]
  · rw [if_neg h, nmb]
    by_cases h7 : kR T 8 = 7
    · rw [if_pos (by omega), if_pos (Or.inr h7)]
    · rw [if_neg (by omega), if_neg (by omega)]
def c00 : Nat → Bool := fun _ => false
def fW : Int → Bool := fun z => z == 13 || z == 14
theorem FR.SW {σ τ : Sg} (h : FR σ τ c00 fW) : FR σ τ cS fS := h.mono (fun k _ => rfl) (fun z hz => by
    unfold fS at hz; unfold fW
    simp only [Bool.or_eq_false_iff, beq_eq_false_iff_ne] at hz ⊢
    exact ⟨hz.1.1.1.1.2, hz.1.1.1.2⟩)
theorem MR.tape {σ : Sg} {P : List It} {hs : List (List It)} {sv : Option (List It)} {T : List Nat} {er : Int} (h : MR σ (P, hs, sv, T, er)) : MR (upd2 σ 70 7 0) (P, hs, sv, [], er) := by
  obtain ⟨g1, g2, g3, g4, g5, g6, g7, g8⟩ := h
  exact ⟨g1.same (upd2_other 71 (by decide)), g2.same (upd2_z (by decide)) (upd2_other 72 (by decide)), g3.same (upd2_z (by decide)) (upd2_other 73 (by decide)), ⟨by decide, by rw [upd2_at]; rfl, fun i hi => absurd hi (Nat.not_lt_zero _)⟩, by rw [upd2_z (by decide)]; exact g5, g6, g7, g8.same (upd2_other 77 (by decide))⟩
theorem MR.wrong {σ : Sg} {P : List It} {hs : List (List It)} {sv : Option (List It)} {T : List Nat} {er v : Int} (h : MR σ (P, hs, sv, T, er)) (h1 : -1 ≤ v) (h2 : v ≤ 20) : MR (upd2 σ 70 8 v) (P, hs, sv, T, v) := by
  obtain ⟨g1, g2, g3, g4, g5, g6, g7, g8⟩ := h
  exact ⟨g1.same (upd2_other 71 (by decide)), g2.same (upd2_z (by decide)) (upd2_other 72 (by decide)), g3.same (upd2_z (by decide)) (upd2_other 73 (by decide)), g4.same (upd2_z (by decide)) (upd2_other 74 (by decide)), upd2_at _ _ _ _, h1, h2, g8.same (upd2_other 77 (by decide))⟩
theorem nF_rg {T : List Nat} {s : Nat} : ∀ j, j ≤ 2 → (∀ q, q < j → 48 ≤ ch T (s + q) ∧ ch T (s + q) ≤ 57) → 0 ≤ nF T s j ∧ nF T s j ≤ 99 ∧ (j ≤ 1 → nF T s j ≤ 9)
  | 0, _, _ => by rw [nF]; omega
  | 1, _, h => by
    have := h 0 (by omega)
    rw [nF, nF]
    omega
  | 2, _, h => by
    have h0 := h 0 (by omega)
    have h1 := h 1 (by omega)
    rw [nF, nF, nF]
    omega
  | j + 3, hj, _ => by omega
end TEXT2
