/-! Links: what the items alone decide -/
section LINKS
/-- the tables of Links when the first i items have been read -/
def LRp (σ : Sg) (P : List It) (i : Nat) : Prop :=
  (∀ lb : Nat, lb < 10 → σ 53 (lb : Int) = dfn P lb i) ∧ (∀ q : Nat, q < i → σ 54 (q : Int) = (pno P q : Int)) ∧ (∀ q : Nat, q < i → kd P q = 6 → σ 55 (q : Int) = ((vals P (q + 1)).idxOf (op P q) : Int)) ∧
  σ 52 8 = (pno P i : Int) ∧ (∀ q : Nat, q < i → kd P q = 7 → σ 56 (pno P q : Int) = (q : Int) ∧ σ 57 (pno P q : Int) = ((vals P q).length : Int)) ∧ σ 57 (pno P i : Int) = ((vals P i).length : Int) ∧
  (∀ v : Nat, v < 100 → -1 ≤ σ 58 (v : Int) ∧ σ 58 (v : Int) ≤ (pno P i : Int) ∧ (σ 58 (v : Int) = (pno P i : Int) ↔ v ∈ vals P i) ∧ (v ∈ vals P i → σ 59 (v : Int) = ((vals P i).idxOf v : Int)))
/-- the tables of Links -/
def LR (σ : Sg) (P : List It) : Prop :=
  (∀ lb : Nat, lb < 10 → σ 53 (lb : Int) = dfn P lb P.length) ∧ (∀ q : Nat, q < P.length → σ 54 (q : Int) = (pno P q : Int)) ∧ (∀ q : Nat, q < P.length → kd P q = 6 → σ 55 (q : Int) = ((vals P (q + 1)).idxOf (op P q) : Int)) ∧
  σ 52 8 = (pno P P.length : Int) ∧ (∀ q : Nat, q ≤ P.length → kd P q = 7 → σ 56 (pno P q : Int) = (q : Int) ∧ σ 57 (pno P q : Int) = ((vals P q).length : Int))
theorem LR.so {σ τ : Sg} {P : List It} (h : LR σ P) (hs : ∀ k, 52 ≤ k → k ≤ 59 → τ k = σ k) : LR τ P := by
  obtain ⟨h1, h2, h3, h4, h5⟩ := h
  unfold LR
  rw [hs 53 (by decide) (by decide), hs 54 (by decide) (by decide), hs 55 (by decide) (by decide), hs 52 (by decide) (by decide), hs 56 (by decide) (by decide), hs 57 (by decide) (by decide)]
  exact ⟨h1, h2, h3, h4, h5⟩
theorem LR_of {σ : Sg} {P : List It} (h : LRp σ P P.length) : LR (upd2 σ 56 (pno P P.length : Int) (P.length : Int)) P := by
  obtain ⟨h1, h2, h3, h4, h5, h6, -⟩ := h
  refine ⟨fun lb hl => by rw [upd2_ne (by omega)]; exact h1 lb hl, fun q hq => by rw [upd2_ne (by omega)]; exact h2 q hq, fun q hq hk => by rw [upd2_ne (by omega)]; exact h3 q hq hk, by rw [upd2_ne (by omega)]; exact h4, fun q hq hk => ?_⟩
  rcases Nat.lt_or_ge q P.length with hlt | hge
  · have hm : pno P (q + 1) ≤ pno P P.length := pno_mono P hlt
    rw [pno, if_pos hk] at hm
    rw [upd2_ne (by omega), upd2_ne (by omega)]
    exact h5 q hlt hk
  · have e : q = P.length := by omega
    subst e
    rw [upd2_at, upd2_ne (by omega)]
    exact ⟨rfl, h6⟩
theorem vals_mem {P : List It} : ∀ i (v : Nat), v ∈ vals P i → v < 100 ∨ ¬ okP P
  | 0, v, h => by simp [vals] at h
  | i + 1, v, h => by
    by_cases hok : okP P
    · refine Or.inl ?_
      have hb := hok.2.1 i
      unfold okI at hb
      rw [vals] at h
      split at h
      · simp at h
      · split at h
        · rcases List.mem_append.mp h with h1 | h1
          · rcases vals_mem i v h1 with h2 | h2
            · exact h2
            · exact absurd hok h2
          · simp at h1; omega
        · rcases vals_mem i v h with h2 | h2
          · exact h2
          · exact absurd hok h2
    · exact Or.inr hok
theorem LRp_other {σ : Sg} {P : List It} {i : Nat} (h : LRp σ P i) (k2 : kd P i ≠ 2) (k6 : kd P i ≠ 6) (k7 : kd P i ≠ 7) : LRp (upd2 σ 54 (i : Int) (pno P i : Int)) P (i + 1) := by
  obtain ⟨h1, h2, h3, h4, h5, h6, h7⟩ := h
  have ev : vals P (i + 1) = vals P i := by rw [vals, if_neg k7, if_neg (fun h => k6 h.1)]
  have ep : pno P (i + 1) = pno P i := by rw [pno, if_neg k7]; rfl
  unfold LRp
  rw [ep]
  refine ⟨fun lb hl => ?_, fun q hq => ?_, fun q hq hk => ?_, ?_, fun q hq hk => ?_, ?_, fun v hv => ?_⟩
  · rw [upd2_ne (by omega), dfn, if_neg (fun h => k2 h.1)]; exact h1 lb hl
  · by_cases e : q = i
    · subst e; rw [upd2_at]
    · rw [upd2_ne (by omega)]; exact h2 q (by omega)
  · rw [upd2_ne (by omega)]
    by_cases e : q = i
    · subst e; exact absurd hk k6
    · exact h3 q (by omega) hk
  · rw [upd2_ne (by omega)]; exact h4
  · rw [upd2_ne (by omega), upd2_ne (by omega)]
    by_cases e : q = i
    · subst e; exact absurd hk k7
    · exact h5 q (by omega) hk
  · rw [upd2_ne (by omega), ev]; exact h6
  · rw [upd2_ne (by omega), upd2_ne (by omega), ev]; exact h7 v hv
theorem LRp_label {σ : Sg} {P : List It} {i : Nat} (h : LRp σ P i) (k2 : kd P i = 2) (ho : op P i < 10) : LRp (upd2 (upd2 σ 54 (i : Int) (pno P i : Int)) 53 (op P i : Int) (i : Int)) P (i + 1) := by
  obtain ⟨h1, h2, h3, h4, h5, h6, h7⟩ := h
  have ev : vals P (i + 1) = vals P i := by rw [vals, if_neg (by omega), if_neg (by omega)]
  have ep : pno P (i + 1) = pno P i := by rw [pno, if_neg (by omega)]; rfl
  unfold LRp
  rw [ep]
  refine ⟨fun lb hl => ?_, fun q hq => ?_, fun q hq hk => ?_, ?_, fun q hq hk => ?_, ?_, fun v hv => ?_⟩
  · rw [dfn]
    by_cases e : op P i = lb
    · rw [if_pos ⟨k2, e⟩, ← e, upd2_at]
    · rw [if_neg (fun h => e h.2), upd2_ne (by omega), upd2_ne (by omega)]; exact h1 lb hl
  · rw [upd2_ne (by omega)]
    by_cases e : q = i
    · subst e; rw [upd2_at]
    · rw [upd2_ne (by omega)]; exact h2 q (by omega)
  · rw [upd2_ne (by omega), upd2_ne (by omega)]
    by_cases e : q = i
    · subst e; omega
    · exact h3 q (by omega) hk
  · rw [upd2_ne (by omega), upd2_ne (by omega)]; exact h4
  · rw [upd2_ne (by omega), upd2_ne (by omega), upd2_ne (by omega), upd2_ne (by omega)]
    by_cases e : q = i
    · subst e; omega
    · exact h5 q (by omega) hk
  · rw [upd2_ne (by omega), upd2_ne (by omega), ev]; exact h6
  · rw [upd2_ne (by omega), upd2_ne (by omega), upd2_ne (by omega), upd2_ne (by omega), ev]; exact h7 v hv
theorem LRp_pool {σ : Sg} {P : List It} {i : Nat} (h : LRp σ P i) (k7 : kd P i = 7) : LRp (upd2 (upd2 (upd2 (upd2 σ 54 (i : Int) (pno P i : Int)) 56 (pno P i : Int) (i : Int)) 52 8 ((pno P i : Int) + 1)) 57 ((pno P i : Int) + 1) 0) P (i + 1) := by
  obtain ⟨h1, h2, h3, h4, h5, h6, h7⟩ := h
  have ev : vals P (i + 1) = [] := by rw [vals, if_pos k7]
  have ep : pno P (i + 1) = pno P i + 1 := by rw [pno, if_pos k7]
  have ep2 : ((pno P i + 1 : Nat) : Int) = (pno P i : Int) + 1 := by omega
  unfold LRp
  rw [ep, ep2]
  refine ⟨fun lb hl => ?_, fun q hq => ?_, fun q hq hk => ?_, ?_, fun q hq hk => ?_, ?_, fun v hv => ?_⟩
  · rw [upd2_ne (by omega), upd2_ne (by omega), upd2_ne (by omega), upd2_ne (by omega), dfn, if_neg (by omega)]; exact h1 lb hl
  · rw [upd2_ne (by omega), upd2_ne (by omega), upd2_ne (by omega)]
    by_cases e : q = i
    · subst e; rw [upd2_at]
    · rw [upd2_ne (by omega)]; exact h2 q (by omega)
  · rw [upd2_ne (by omega), upd2_ne (by omega), upd2_ne (by omega), upd2_ne (by omega)]
    by_cases e : q = i
    · subst e; omega
    · exact h3 q (by omega) hk
  · rw [upd2_ne (by omega), upd2_at]
  · have hm : pno P q ≤ pno P i := pno_mono P (by omega)
    rw [upd2_ne (by omega), upd2_ne (by omega)]
    by_cases e : q = i
    · subst e
      rw [upd2_at, upd2_ne (by omega), upd2_ne (by omega), upd2_ne (by omega), upd2_ne (by omega)]
      exact ⟨rfl, h6⟩
    · have hm2 : pno P (q + 1) ≤ pno P i := pno_mono P (by omega)
      rw [pno, if_pos hk] at hm2
      rw [upd2_ne (by omega), upd2_ne (by omega), upd2_ne (by omega), upd2_ne (by omega), upd2_ne (by omega), upd2_ne (by omega)]
      exact h5 q (by omega) hk
  · rw [upd2_at, ev]; rfl
  · obtain ⟨g1, g2, g3, g4⟩ := h7 v hv
    rw [upd2_ne (by omega), upd2_ne (by omega), upd2_ne (by omega), upd2_ne (by omega), ev]
    refine ⟨g1, by omega, ⟨fun h => by omega, fun h => by simp at h⟩, fun h => by simp at h⟩
theorem LRp_load {σ : Sg} {P : List It} {i : Nat} (hok : okP P) (h : LRp σ P i) (k6 : kd P i = 6) : LRp (if σ 58 (op P i : Int) = (pno P i : Int) then upd2 (upd2 σ 54 (i : Int) (pno P i : Int)) 55 (i : Int) (σ 59 (op P i : Int)) else upd2 (upd2 (upd2 (upd2 (upd2 σ 54 (i : Int) (pno P i : Int)) 58 (op P i : Int) (pno P i : Int)) 59 (op P i : Int) (σ 57 (pno P i : Int))) 57 (pno P i : Int) (σ 57 (pno P i : Int) + 1)) 55 (i : Int) (σ 57 (pno P i : Int))) P (i + 1) := by
  obtain ⟨h1, h2, h3, h4, h5, h6, h7⟩ := h
  have hb := hok.2.1 i
  unfold okI at hb
  obtain ⟨g1, g2, g3, g4⟩ := h7 (op P i) (by omega)
  have ep : pno P (i + 1) = pno P i := by rw [pno, if_neg (by omega)]; rfl
  by_cases hin : op P i ∈ vals P i
  · rw [if_pos (g3.mpr hin)]
    have ev : vals P (i + 1) = vals P i := by rw [vals, if_neg (by omega), if_neg (fun h => h.2 hin)]
    unfold LRp
    rw [ep]
    refine ⟨fun lb hl => ?_, fun q hq => ?_, fun q hq hk => ?_, ?_, fun q hq hk => ?_, ?_, fun v hv => ?_⟩
    · rw [upd2_ne (by omega), upd2_ne (by omega), dfn, if_neg (by omega)]; exact h1 lb hl
    · rw [upd2_ne (by omega)]
      by_cases e : q = i
      · subst e; rw [upd2_at]
      · rw [upd2_ne (by omega)]; exact h2 q (by omega)
    · by_cases e : q = i
      · subst e; rw [upd2_at, ev]; exact g4 hin
      · rw [upd2_ne (by omega), upd2_ne (by omega)]; exact h3 q (by omega) hk
    · rw [upd2_ne (by omega), upd2_ne (by omega)]; exact h4
    · rw [upd2_ne (by omega), upd2_ne (by omega), upd2_ne (by omega), upd2_ne (by omega)]
      by_cases e : q = i
      · subst e; omega
      · exact h5 q (by omega) hk
    · rw [upd2_ne (by omega), upd2_ne (by omega), ev]; exact h6
    · rw [upd2_ne (by omega), upd2_ne (by omega), upd2_ne (by omega), upd2_ne (by omega), ev]; exact h7 v hv
  · rw [if_neg (fun h => hin (g3.mp h))]
    have ev : vals P (i + 1) = vals P i ++ [op P i] := by rw [vals, if_neg (by omega), if_pos ⟨k6, hin⟩]
    have ex : (vals P (i + 1)).idxOf (op P i) = (vals P i).length := by
      rw [ev, List.idxOf_append, if_neg hin]; simp
    unfold LRp
    rw [ep]
    refine ⟨fun lb hl => ?_, fun q hq => ?_, fun q hq hk => ?_, ?_, fun q hq hk => ?_, ?_, fun v hv => ?_⟩
    · rw [upd2_ne (by omega), upd2_ne (by omega), upd2_ne (by omega), upd2_ne (by omega), upd2_ne (by omega), dfn, if_neg (by omega)]; exact h1 lb hl
    · rw [upd2_ne (by omega), upd2_ne (by omega), upd2_ne (by omega), upd2_ne (by omega)]
      by_cases e : q = i
      · subst e; rw [upd2_at]
      · rw [upd2_ne (by omega)]; exact h2 q (by omega)
    · by_cases e : q = i
      · subst e; rw [upd2_at, ex]; exact h6
      · rw [upd2_ne (by omega), upd2_ne (by omega), upd2_ne (by omega), upd2_ne (by omega), upd2_ne (by omega)]; exact h3 q (by omega) hk
    · rw [upd2_ne (by omega), upd2_ne (by omega), upd2_ne (by omega), upd2_ne (by omega), upd2_ne (by omega)]; exact h4
    · by_cases e : q = i
      · subst e; omega
      · have hm2 : pno P (q + 1) ≤ pno P i := pno_mono P (by omega)
        rw [pno, if_pos hk] at hm2
        rw [upd2_ne (by omega), upd2_ne (by omega), upd2_ne (by omega), upd2_ne (by omega), upd2_ne (by omega), upd2_ne (by omega), upd2_ne (by omega), upd2_ne (by omega), upd2_ne (by omega), upd2_ne (by omega)]
        exact h5 q (by omega) hk
    · rw [upd2_ne (by omega), upd2_at, ev, h6]
      simp
    · have t58 : upd2 (upd2 (upd2 (upd2 (upd2 σ 54 (i : Int) (pno P i : Int)) 58 (op P i : Int) (pno P i : Int)) 59 (op P i : Int) (σ 57 (pno P i : Int))) 57 (pno P i : Int) (σ 57 (pno P i : Int) + 1)) 55 (i : Int) (σ 57 (pno P i : Int)) 58 (v : Int) = if v = op P i then (pno P i : Int) else σ 58 (v : Int) := by
        rw [upd2_ne (by omega), upd2_ne (by omega), upd2_ne (by omega)]
        by_cases e : v = op P i
        · rw [if_pos e, e, upd2_at]
        · rw [if_neg e, upd2_ne (by omega), upd2_ne (by omega)]
      have t59 : upd2 (upd2 (upd2 (upd2 (upd2 σ 54 (i : Int) (pno P i : Int)) 58 (op P i : Int) (pno P i : Int)) 59 (op P i : Int) (σ 57 (pno P i : Int))) 57 (pno P i : Int) (σ 57 (pno P i : Int) + 1)) 55 (i : Int) (σ 57 (pno P i : Int)) 59 (v : Int) = if v = op P i then σ 57 (pno P i : Int) else σ 59 (v : Int) := by
        rw [upd2_ne (by omega), upd2_ne (by omega)]
        by_cases e : v = op P i
        · rw [if_pos e, e, upd2_at]
        · rw [if_neg e, upd2_ne (by omega), upd2_ne (by omega), upd2_ne (by omega)]
      rw [t58, t59, ev]
      by_cases e : v = op P i
      · subst e
        simp only [if_true]
        refine ⟨by omega, Int.le_refl _, by simp, fun _ => ?_⟩
        rw [← ev, ex]; exact h6
      · obtain ⟨f1, f2, f3, f4⟩ := h7 v hv
        rw [if_neg e, if_neg e]
        refine ⟨f1, f2, ⟨fun h => List.mem_append_left _ (f3.mp h), fun h => ?_⟩, fun h => ?_⟩
        · rcases List.mem_append.mp h with h9 | h9
          · exact f3.mpr h9
          · simp at h9; exact absurd h9 e
        · rcases List.mem_append.mp h with h9 | h9
          · rw [List.idxOf_append, if_pos h9]; exact f4 h9
          · simp at h9; exact absurd h9 e
theorem pool_ex {P : List It} : ∀ (n k : Nat), k < pno P n → ∃ q, q < n ∧ kd P q = 7 ∧ pno P q = k
  | 0, k, h => absurd h (Nat.not_lt_zero k)
  | n + 1, k, h => by
    rw [pno] at h
    by_cases h1 : k < pno P n
    · obtain ⟨q, a, b⟩ := pool_ex n k h1
      exact ⟨q, by omega, b⟩
    · by_cases h7 : kd P n = 7
      · rw [if_pos h7] at h
        exact ⟨n, by omega, h7, by omega⟩
      · rw [if_neg h7] at h; omega
end LINKS
