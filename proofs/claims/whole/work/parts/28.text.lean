/-! The input: how an item is read from a text -/
section TEXT
def ch (T : List Nat) (i : Nat) : Nat := T.getD i 0
/-- the input holds T -/
def TR (σ : Sg) (T : List Nat) : Prop := T.length ≤ 12 ∧ σ 50 1 = (T.length : Int) ∧ ∀ i : Nat, i < T.length → σ 51 (i : Int) = (ch T i : Int) ∧ 32 ≤ ch T i ∧ ch T i ≤ 126
def pmF (T : List Nat) (k : Nat) : Nat → Nat → Nat
  | 0, at9 => at9
  | n + 1, at9 => if at9 < T.length ∧ at9 < nmL k ∧ ch T at9 = nmC k at9 then pmF T k n (at9 + 1) else at9
/-- how many letters of the name go -/
def pm (T : List Nat) (k : Nat) : Nat := pmF T k 20 0
def dgF (T : List Nat) (e : Nat) : Nat → Nat → Nat
  | 0, at9 => at9
  | n + 1, at9 => if at9 < e ∧ 48 ≤ ch T at9 ∧ ch T at9 ≤ 57 then dgF T e n (at9 + 1) else at9
/-- where the number may end -/
def eNd (T : List Nat) (k : Nat) : Nat := if nmL k + 3 < T.length then nmL k + 3 else T.length
/-- how many letters go with the kind k -/
def mt (T : List Nat) (k : Nat) : Nat := if pm T k < nmL k ∨ k = 7 ∨ T.length ≤ pm T k ∨ ch T (pm T k) ≠ 32 then pm T k else dgF T (eNd T k) 20 (pm T k + 1)
def lL (k : Nat) : Nat := if k = 7 then nmL k else nmL k + 2
abbrev isW (T : List Nat) (k : Nat) : Prop := mt T k = T.length ∧ lL k ≤ T.length
def kR (T : List Nat) : Nat → Int
  | 0 => -1
  | k + 1 => if isW T k then (k : Int) else kR T k
def eR (T : List Nat) : Nat → Nat
  | 0 => 0
  | k + 1 => if eR T k < mt T k then mt T k else eR T k
def nF (T : List Nat) (s : Nat) : Nat → Int
  | 0 => 0
  | j + 1 => nF T s j * 10 + ((ch T (s + j) : Int) - 48)
/-- the number that is read -/
def oR (T : List Nat) : Int := if kR T 8 = -1 ∨ kR T 8 = 7 then 0 else nF T (nmL (kR T 8).toNat + 1) (T.length - (nmL (kR T 8).toNat + 1))
theorem pmF_spec (T : List Nat) (k : Nat) : ∀ n at9, at9 ≤ T.length → at9 ≤ nmL k → (at9 ≤ pmF T k n at9 ∧ pmF T k n at9 ≤ T.length ∧ pmF T k n at9 ≤ nmL k) ∧ (nmL k < at9 + n → (pmF T k n at9 < T.length → pmF T k n at9 < nmL k → ch T (pmF T k n at9) ≠ nmC k (pmF T k n at9)))
  | 0, at9, h1, h2 => by
    rw [pmF]
    exact ⟨⟨Nat.le_refl _, h1, h2⟩, fun h => by omega⟩
  | n + 1, at9, h1, h2 => by
    rw [pmF]
    split
    · rename_i hc
      obtain ⟨⟨a, b, c⟩, d⟩ := pmF_spec T k n (at9 + 1) (by omega) (by omega)
      exact ⟨⟨by omega, b, c⟩, fun h => d (by omega)⟩
    · rename_i hc
      exact ⟨⟨Nat.le_refl _, h1, h2⟩, fun _ h3 h4 h5 => hc ⟨h3, h4, h5⟩⟩
theorem pmF_step {T : List Nat} {k n at9 : Nat} (h : at9 < T.length ∧ at9 < nmL k ∧ ch T at9 = nmC k at9) : pmF T k (n + 1) at9 = pmF T k n (at9 + 1) := by rw [pmF, if_pos h]
theorem pmF_stop {T : List Nat} {k n at9 : Nat} (h : ¬ (at9 < T.length ∧ at9 < nmL k ∧ ch T at9 = nmC k at9)) : pmF T k n at9 = at9 := by
  cases n with
  | zero => rfl
  | succ n => rw [pmF, if_neg h]
theorem dgF_step {T : List Nat} {e n at9 : Nat} (h : at9 < e ∧ 48 ≤ ch T at9 ∧ ch T at9 ≤ 57) : dgF T e (n + 1) at9 = dgF T e n (at9 + 1) := by rw [dgF, if_pos h]
theorem dgF_stop {T : List Nat} {e n at9 : Nat} (h : ¬ (at9 < e ∧ 48 ≤ ch T at9 ∧ ch T at9 ≤ 57)) : dgF T e n at9 = at9 := by
  cases n with
  | zero => rfl
  | succ n => rw [dgF, if_neg h]
theorem dgF_spec (T : List Nat) (e : Nat) : ∀ n at9, at9 ≤ e → at9 ≤ dgF T e n at9 ∧ dgF T e n at9 ≤ e ∧ ∀ q, at9 ≤ q → q < dgF T e n at9 → 48 ≤ ch T q ∧ ch T q ≤ 57
  | 0, at9, h => by
    rw [dgF]
    exact ⟨Nat.le_refl _, h, fun q h1 h2 => by omega⟩
  | n + 1, at9, h => by
    rw [dgF]
    split
    · rename_i hc
      obtain ⟨a, b, c⟩ := dgF_spec T e n (at9 + 1) (by omega)
      refine ⟨by omega, b, fun q h1 h2 => ?_⟩
      by_cases e9 : q = at9
      · subst e9; exact hc.2
      · exact c q (by omega) h2
    · exact ⟨Nat.le_refl _, h, fun q h1 h2 => by omega⟩
theorem pm_le (T : List Nat) (k : Nat) : pm T k ≤ T.length ∧ pm T k ≤ nmL k := (pmF_spec T k 20 0 (Nat.zero_le _) (Nat.zero_le _)).1.2
theorem mt_le (T : List Nat) (k : Nat) : mt T k ≤ T.length := by
  have h1 := pm_le T k
  unfold mt
  split
  · exact h1.1
  · rename_i hc
    have h2 : pm T k + 1 ≤ eNd T k := by unfold eNd; split <;> omega
    have h3 := dgF_spec T (eNd T k) 20 (pm T k + 1) h2
    have h4 : eNd T k ≤ T.length := by unfold eNd; split <;> omega
    omega
theorem kR_rg (T : List Nat) : ∀ n, -1 ≤ kR T n ∧ kR T n < n
  | 0 => by simp [kR]
  | n + 1 => by have := kR_rg T n; rw [kR]; split <;> omega
theorem kR_is (T : List Nat) : ∀ n, kR T n = -1 ∨ ∃ k : Nat, kR T n = (k : Int) ∧ k < n ∧ isW T k
  | 0 => Or.inl rfl
  | n + 1 => by
    rw [kR]
    split
    · rename_i h; exact Or.inr ⟨n, rfl, by omega, h⟩
    · rcases kR_is T n with h | ⟨k, h1, h2, h3⟩
      · exact Or.inl h
      · exact Or.inr ⟨k, h1, by omega, h3⟩
theorem eR_le (T : List Nat) : ∀ n, eR T n ≤ T.length
  | 0 => Nat.zero_le _
  | n + 1 => by have := eR_le T n; have := mt_le T n; rw [eR]; split <;> omega
/-- a text that is an item of the kind k with a number: one or two figures -/
theorem isW_num {T : List Nat} {k : Nat} (h : isW T k) (h7 : k ≠ 7) : pm T k = nmL k ∧ ch T (nmL k) = 32 ∧ nmL k + 2 ≤ T.length ∧ T.length ≤ nmL k + 3 ∧ ∀ q, nmL k + 1 ≤ q → q < T.length → 48 ≤ ch T q ∧ ch T q ≤ 57 := by
  obtain ⟨h1, h2⟩ := h
  have hp := pm_le T k
  unfold lL at h2
  rw [if_neg h7] at h2
  unfold mt at h1
  split at h1
  · omega
  · rename_i hc
    have e1 : pm T k = nmL k := by omega
    rw [e1] at h1 hc
    have h3 : nmL k + 1 ≤ eNd T k := by unfold eNd; split <;> omega
    have h4 := dgF_spec T (eNd T k) 20 (nmL k + 1) h3
    have h5 : eNd T k ≤ nmL k + 3 := by unfold eNd; split <;> omega
    refine ⟨e1, by omega, h2, by omega, fun q a b => h4.2.2 q a (by omega)⟩
theorem oR_rg (T : List Nat) : 0 ≤ oR T ∧ oR T ≤ 99 := by
  unfold oR
  split
  · omega
  · rename_i hc
    rcases kR_is T 8 with h | ⟨k, h1, h2, h3⟩
    · omega
    · rw [h1]
      have e : ((k : Int)).toNat = k := by omega
      rw [e]
      obtain ⟨a, b, c, d, f⟩ := isW_num h3 (by omega)
      have g1 := f (nmL k + 1) (Nat.le_refl _) (by omega)
      rcases (show T.length - (nmL k + 1) = 1 ∨ T.length - (nmL k + 1) = 2 by omega) with e1 | e1
      · rw [e1, nF, nF]; simp only [Nat.add_zero]; omega
      · have g2 := f (nmL k + 1 + 1) (by omega) (by omega)
        rw [e1, nF, nF, nF]; simp only [Nat.add_zero]; omega
variable {X : Cx} {cc : ByteArray} {h0 mc0 ms0 : Nat} {a b pc : Nat} {L : List (Option V)} {st : List V} {σ : Sg}
theorem gx_ldcw {i idx : Nat} (hx : CX X cc RX8 h0 mc0 ms0) (hi : i < 33) (hs : (strT i).1 = idx) (d : decode cc pc = .ok (.ldc_w idx, 3)) (kk : GJ X a b (pc + 3) L (.inr (1000 + i) :: st) σ) : GJ X a b pc L st σ := by
  obtain ⟨g, p, l, e, R, s, m, args, below, meth, c, Q, nL⟩ := X
  obtain ⟨h1, h2, -, h4, h5, h6, -⟩ := hx
  intro H locs ls hLn hP hS hls
  have hZ := h6.2.2.2.2.2.1 i hi
  rw [hs] at hZ
  intro T hT Y
  obtain ⟨t, a1, b1⟩ := kk H locs ls hLn hP hS hls T hT Y
  exact ⟨t, Y.ldcStringW h1 h4 (text := (strT i).2) (a := adr g (1000 + i)) hZ.1 hZ.2 (g := F0 m pc ls (st.map (vv g))) rfl (by rw [h2]; exact d) t a1, b1⟩
end TEXT
theorem vp_nar_c (n : Nat) (h : n < 256) : vp_nar .char (ii (n : Int)) = ii (n : Int) := by unfold vp_nar; rw [nar_c n h]
