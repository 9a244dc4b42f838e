/-! A program as a list of items, and how cells hold it -/
section REPR
/-- kind, operand, form -/
abbrev It : Type := Nat × Nat × Nat
def kd (P : List It) (i : Nat) : Nat := (P.getD i (7, 0, 0)).1
def op (P : List It) (i : Nat) : Nat := (P.getD i (7, 0, 0)).2.1
def fm (P : List It) (i : Nat) : Nat := (P.getD i (7, 0, 0)).2.2
/-- an item's numbers are possible -/
def okI (k o f : Nat) : Prop := ((k = 0 ∧ 1 ≤ o ∧ o ≤ 9) ∨ (k = 1 ∧ 1 ≤ o ∧ o ≤ 50) ∨ (k = 2 ∧ o ≤ 9) ∨ (k = 3 ∧ 1 ≤ o ∧ o ≤ 4) ∨ (k = 4 ∧ o ≤ 9) ∨ (k = 5 ∧ o ≤ 9) ∨ (k = 6 ∧ o ≤ 99) ∨ (k = 7 ∧ o = 0)) ∧ f ≤ 2 ∧ (k ≠ 4 → k ≠ 5 → f = 0)
def okP (P : List It) : Prop := P.length ≤ 40 ∧ (∀ i : Nat, okI (kd P i) (op P i) (fm P i)) ∧ ∀ i j : Nat, i < P.length → j < P.length → kd P i = 2 → kd P j = 2 → op P i = op P j → i = j
/-- the Program numbered j holds P -/
def PR (σ : Sg) (j : Nat) (P : List It) : Prop := okP P ∧ σ (4 * j) 3 = (P.length : Int) ∧ ∀ i : Nat, i < P.length → σ (4 * j + 1) (i : Int) = (kd P i : Int) ∧ σ (4 * j + 2) (i : Int) = (op P i : Int) ∧ σ (4 * j + 3) (i : Int) = (fm P i : Int)
theorem PR.same {σ τ : Sg} {j : Nat} {P : List It} (h : PR σ j P) (hs : ∀ k, 4 * j ≤ k → k ≤ 4 * j + 3 → τ k = σ k) : PR τ j P := by
  obtain ⟨h1, h2, h3⟩ := h
  refine ⟨h1, by rw [hs _ (by omega) (by omega)]; exact h2, fun i hi => ?_⟩
  rw [hs (4 * j + 1) (by omega) (by omega), hs (4 * j + 2) (by omega) (by omega), hs (4 * j + 3) (by omega) (by omega)]
  exact h3 i hi
/-- outside lo .. hi nothing changed -/
def SO (σ τ : Sg) (lo hi : Nat) : Prop := ∀ k, k < lo ∨ hi < k → τ k = σ k
theorem SO.refl {σ : Sg} {lo hi : Nat} : SO σ σ lo hi := fun _ _ => rfl
theorem SO.trans {σ τ υ : Sg} {lo hi : Nat} (h1 : SO σ τ lo hi) (h2 : SO τ υ lo hi) : SO σ υ lo hi := fun k hk => (h2 k hk).trans (h1 k hk)
theorem SO.mono {σ τ : Sg} {lo hi lo' hi' : Nat} (h : SO σ τ lo hi) (h1 : lo' ≤ lo) (h2 : hi ≤ hi') : SO σ τ lo' hi' := fun k hk => h k (by omega)
theorem SO.upd {σ : Sg} {lo hi k : Nat} {z v : Int} (h1 : lo ≤ k) (h2 : k ≤ hi) : SO σ (upd2 σ k z v) lo hi := fun k' hk => upd2_other k' (by omega)
theorem PR.so {σ τ : Sg} {j lo hi : Nat} {P : List It} (h : PR σ j P) (hs : SO σ τ lo hi) (hd : 4 * j + 3 < lo ∨ hi < 4 * j) : PR τ j P := h.same (fun k h1 h2 => hs k (by omega))
theorem cg (σ : Sg) {a c : Nat} {b d : Int} (h1 : a = c) (h2 : b = d) : σ a b = σ c d := by subst h1; subst h2; rfl
theorem okI_def : okI 7 0 0 := by unfold okI; omega
theorem ok_out {P : List It} {i : Nat} (h : P.length ≤ i) : kd P i = 7 ∧ op P i = 0 ∧ fm P i = 0 := by
  unfold kd op fm
  rw [List.getD_eq_getElem?_getD, List.getElem?_eq_none h]
  exact ⟨rfl, rfl, rfl⟩
theorem it_at {P : List It} {i : Nat} (h : i < P.length) : P[i] = (kd P i, op P i, fm P i) := by
  unfold kd op fm
  rw [List.getD_eq_getElem?_getD, List.getElem?_eq_getElem h]
  rfl
/-- lists with the same items are the same -/
theorem it_ext {P Q : List It} (hl : P.length = Q.length) (h : ∀ i, i < P.length → kd P i = kd Q i ∧ op P i = op Q i ∧ fm P i = fm Q i) : P = Q := by
  apply List.ext_getElem hl
  intro i h1 h2
  obtain ⟨a, b, c⟩ := h i h1
  rw [it_at h1, it_at h2, a, b, c]
/-- a form is set -/
def stF (P : List It) (i f : Nat) : List It := P.set i (kd P i, op P i, f)
theorem stF_len (P : List It) (i f : Nat) : (stF P i f).length = P.length := by unfold stF; simp
theorem stF_at (P : List It) (i f q : Nat) : kd (stF P i f) q = kd P q ∧ op (stF P i f) q = op P q ∧ fm (stF P i f) q = if q = i ∧ i < P.length then f else fm P q := by
  unfold stF kd op fm
  simp only [List.getD_eq_getElem?_getD, List.getElem?_set]
  by_cases h : i = q
  · subst h
    by_cases h2 : i < P.length
    · simp [h2]
    · simp [h2, List.getElem?_eq_none (Nat.le_of_not_lt h2)]
  · simp [h]; exact fun e => absurd e.symm h
theorem stF_ok {P : List It} {i f : Nat} (h : okP P) (hf : f ≤ 2) (ht : kd P i = 4 ∨ kd P i = 5 ∨ f = 0) : okP (stF P i f) := by
  obtain ⟨h1, h2, h3⟩ := h
  refine ⟨by rw [stF_len]; exact h1, fun q => ?_, fun a b ha hb => ?_⟩
  · obtain ⟨e1, e2, e3⟩ := stF_at P i f q
    rw [e1, e2, e3]
    have := h2 q
    unfold okI at this ⊢
    split <;> rename_i hq
    · obtain ⟨rfl, hq⟩ := hq
      omega
    · exact this
  · rw [stF_len] at ha hb
    rw [(stF_at P i f a).1, (stF_at P i f b).1, (stF_at P i f a).2.1, (stF_at P i f b).2.1]
    exact h3 a b ha hb
/-- an item is put in at p -/
def insA (P : List It) (p : Nat) (x : It) : List It := P.take p ++ x :: P.drop p
theorem insA_len {P : List It} {p : Nat} (x : It) (h : p ≤ P.length) : (insA P p x).length = P.length + 1 := by unfold insA; simp; omega
theorem insA_get {P : List It} {p : Nat} (x : It) (h : p ≤ P.length) (q : Nat) : (insA P p x)[q]? = if q < p then P[q]? else if q = p then some x else P[q - 1]? := by
  unfold insA
  rw [List.getElem?_append]
  have hl : (P.take p).length = p := by simp; omega
  rw [hl]
  by_cases h1 : q < p
  · rw [if_pos h1, if_pos h1, List.getElem?_take, if_pos h1]
  · rw [if_neg h1, if_neg h1]
    by_cases h2 : q = p
    · subst h2; simp
    · rw [if_neg h2, show q - p = (q - 1 - p) + 1 by omega, List.getElem?_cons_succ, List.getElem?_drop]
      congr 1; omega
theorem insA_at {P : List It} {p : Nat} (x : It) (h : p ≤ P.length) (q : Nat) : (kd (insA P p x) q = if q < p then kd P q else if q = p then x.1 else kd P (q - 1)) ∧ (op (insA P p x) q = if q < p then op P q else if q = p then x.2.1 else op P (q - 1)) ∧ (fm (insA P p x) q = if q < p then fm P q else if q = p then x.2.2 else fm P (q - 1)) := by
  unfold kd op fm
  simp only [List.getD_eq_getElem?_getD, insA_get x h]
  by_cases h1 : q < p
  · simp [h1]
  · by_cases h2 : q = p
    · simp [h2]
    · simp [h1, h2]
theorem insA_ok {P : List It} {p : Nat} {x : It} (h : okP P) (hp : p ≤ P.length) (hn : P.length < 40) (hx : okI x.1 x.2.1 x.2.2) (hd : x.1 = 2 → ∀ i, i < P.length → ¬ (kd P i = 2 ∧ op P i = x.2.1)) : okP (insA P p x) := by
  obtain ⟨h1, h2, h3⟩ := h
  refine ⟨by rw [insA_len x hp]; omega, fun q => ?_, fun a b ha hb => ?_⟩
  · obtain ⟨e1, e2, e3⟩ := insA_at x hp q
    rw [e1, e2, e3]
    by_cases c1 : q < p
    · simp only [c1, if_true]; exact h2 q
    · by_cases c2 : q = p
      · simp only [c2, Nat.lt_irrefl, if_false, if_true]; exact hx
      · simp only [c1, c2, if_false]; exact h2 (q - 1)
  · rw [insA_len x hp] at ha hb
    obtain ⟨a1, a2, -⟩ := insA_at x hp a
    obtain ⟨b1, b2, -⟩ := insA_at x hp b
    rw [a1, a2, b1, b2]
    have k1 := fun u v hu hv => h3 u v hu hv
    by_cases ca : a < p <;> by_cases cb : b < p
    · simp only [ca, cb, if_true]; exact h3 a b (by omega) (by omega)
    · by_cases c2 : b = p
      · simp only [ca, c2, Nat.lt_irrefl, if_false, if_true]
        intro g1 g2 g3
        exact absurd ⟨g1, g3⟩ (hd g2 a (by omega))
      · simp only [ca, cb, c2, if_true, if_false]
        intro g1 g2 g3
        have := h3 a (b - 1) (by omega) (by omega) g1 g2 g3
        omega
    · by_cases c2 : a = p
      · simp only [cb, c2, Nat.lt_irrefl, if_false, if_true]
        intro g1 g2 g3
        exact absurd ⟨g2, g3.symm⟩ (hd g1 b (by omega))
      · simp only [ca, cb, c2, if_true, if_false]
        intro g1 g2 g3
        have := h3 (a - 1) b (by omega) (by omega) g1 g2 g3
        omega
    · by_cases c2 : a = p <;> by_cases c3 : b = p
      · intros; omega
      · simp only [cb, c2, c3, Nat.lt_irrefl, if_false, if_true]
        intro g1 g2 g3
        exact absurd ⟨g2, g3.symm⟩ (hd g1 (b - 1) (by omega))
      · simp only [ca, c2, c3, Nat.lt_irrefl, if_false, if_true]
        intro g1 g2 g3
        exact absurd ⟨g1, g3⟩ (hd g2 (a - 1) (by omega))
      · simp only [ca, cb, c2, c3, if_false]
        intro g1 g2 g3
        have := h3 (a - 1) (b - 1) (by omega) (by omega) g1 g2 g3
        omega
/-- an item is taken out -/
theorem era_at {P : List It} {p : Nat} (q : Nat) : kd (P.eraseIdx p) q = (if q < p then kd P q else kd P (q + 1)) ∧ op (P.eraseIdx p) q = (if q < p then op P q else op P (q + 1)) ∧ fm (P.eraseIdx p) q = (if q < p then fm P q else fm P (q + 1)) := by
  unfold kd op fm
  simp only [List.getD_eq_getElem?_getD, List.getElem?_eraseIdx]
  by_cases h : q < p <;> simp [h]
theorem era_len {P : List It} {p : Nat} (h : p < P.length) : (P.eraseIdx p).length = P.length - 1 := by rw [List.length_eraseIdx, if_pos h]
theorem era_ok {P : List It} {p : Nat} (h : okP P) (hp : p < P.length) : okP (P.eraseIdx p) := by
  obtain ⟨h1, h2, h3⟩ := h
  refine ⟨by rw [era_len hp]; omega, fun q => ?_, fun a b ha hb => ?_⟩
  · obtain ⟨e1, e2, e3⟩ := era_at (P := P) (p := p) q
    rw [e1, e2, e3]
    by_cases c : q < p
    · simp only [c, if_true]; exact h2 q
    · simp only [c, if_false]; exact h2 (q + 1)
  · rw [era_len hp] at ha hb
    obtain ⟨a1, a2, -⟩ := era_at (P := P) (p := p) a
    obtain ⟨b1, b2, -⟩ := era_at (P := P) (p := p) b
    rw [a1, a2, b1, b2]
    intro g1 g2 g3
    by_cases ca : a < p <;> by_cases cb : b < p <;> simp only [ca, cb, if_true, if_false] at g1 g2 g3
    · exact h3 a b (by omega) (by omega) g1 g2 g3
    · have := h3 a (b + 1) (by omega) (by omega) g1 g2 g3; omega
    · have := h3 (a + 1) b (by omega) (by omega) g1 g2 g3; omega
    · have := h3 (a + 1) (b + 1) (by omega) (by omega) g1 g2 g3; omega
end REPR
