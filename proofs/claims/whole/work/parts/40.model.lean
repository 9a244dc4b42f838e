/-! The reference: how its cells hold a state; numbers -/
section MODEL
/-- the reference's items are P -/
def MP (σ : Sg) (P : List It) : Prop := okP P ∧ σ 71 0 = (P.length : Int) ∧ ∀ i : Nat, i < P.length → σ 71 (1 + (i : Int)) = (kd P i : Int) ∧ σ 71 (41 + (i : Int)) = (op P i : Int) ∧ σ 71 (81 + (i : Int)) = (fm P i : Int)
/-- the values told are vs -/
def TV (σ : Sg) (vs : List Nat) : Prop := σ 70 11 = (vs.length : Int) ∧ ∀ k : Nat, k < vs.length → σ 76 (k : Int) = (vs.getD k 0 : Int) ∧ vs.getD k 0 < 100
/-- only cells of c and fields of f changed -/
def FR (σ σ' : Sg) (c : Nat → Bool) (f : Int → Bool) : Prop := (∀ k, k ≠ 70 → c k = false → σ' k = σ k) ∧ ∀ z, f z = false → σ' 70 z = σ 70 z
theorem upd2_c {σ : Sg} {k k' : Nat} {z z' v : Int} (h : k' ≠ k) : upd2 σ k z v k' z' = σ k' z' := upd2_ne (fun h9 => h h9.1)
theorem upd2_z {σ : Sg} {k : Nat} {z z' v : Int} (h : z' ≠ z) : upd2 σ k z v k z' = σ k z' := upd2_ne (fun h9 => h h9.2)
def c0 : Nat → Bool := fun _ => false
def c1 : Nat → Bool := fun k => k == 76
def c2 : Nat → Bool := fun k => k == 76 || k == 75
def f0 : Int → Bool := fun z => z == 0
def f1 : Int → Bool := fun z => z == 11
theorem FR.refl {σ : Sg} {c : Nat → Bool} {f : Int → Bool} : FR σ σ c f := ⟨fun _ _ _ => rfl, fun _ _ => rfl⟩
theorem FR.trans {σ τ υ : Sg} {c : Nat → Bool} {f : Int → Bool} (h : FR σ τ c f) (h2 : FR τ υ c f) : FR σ υ c f := ⟨fun k a b => (h2.1 k a b).trans (h.1 k a b), fun z a => (h2.2 z a).trans (h.2 z a)⟩
theorem FR.mono {σ τ : Sg} {c c' : Nat → Bool} {f f' : Int → Bool} (h : FR σ τ c f) (hc : ∀ k, c' k = false → c k = false) (hf : ∀ z, f' z = false → f z = false) : FR σ τ c' f' := ⟨fun k a b => h.1 k a (hc k b), fun z a => h.2 z (hf z a)⟩
theorem FR.upd {σ : Sg} {c : Nat → Bool} {f : Int → Bool} {k : Nat} {z v : Int} (hk : k ≠ 70) (hc : c k = true) : FR σ (upd2 σ k z v) c f := ⟨fun q _ b => upd2_other q (fun e => by rw [e, hc] at b; cases b), fun _ _ => by rw [upd2_other 70 (fun e => hk e.symm)]⟩
theorem FR.updF {σ : Sg} {c : Nat → Bool} {f : Int → Bool} {z v : Int} (hf : f z = true) : FR σ (upd2 σ 70 z v) c f := ⟨fun q a _ => upd2_other q a, fun q a => upd2_ne (fun e => by rw [e.2, hf] at a; cases a)⟩
theorem c12 (k : Nat) (h : c2 k = false) : c1 k = false := by unfold c2 at h; unfold c1; rw [Bool.or_eq_false_iff] at h; exact h.1
theorem FR.to2 {σ τ : Sg} {f : Int → Bool} (h : FR σ τ c1 f) : FR σ τ c2 f := h.mono c12 (fun _ h => h)
theorem MP.fr {σ τ : Sg} {P : List It} {c : Nat → Bool} {f : Int → Bool} (h : MP σ P) (hf : FR σ τ c f) (hc : c 71 = false) : MP τ P := by
  have e := hf.1 71 (by decide) hc
  unfold MP
  rw [e]
  exact h
theorem MP.same {σ τ : Sg} {P : List It} (h : MP σ P) (e : τ 71 = σ 71) : MP τ P := by
  unfold MP
  rw [e]
  exact h
theorem TV.same {σ τ : Sg} {vs : List Nat} (h : TV σ vs) (e1 : τ 70 11 = σ 70 11) (e2 : τ 76 = σ 76) : TV τ vs := by
  unfold TV
  rw [e1, e2]
  exact h
/-- the addresses told are P's -/
def YM (σ : Sg) (P : List It) : Prop := ∀ i : Nat, i ≤ P.length → σ 75 (i : Int) = (aP P i : Int)
theorem YM.same {σ τ : Sg} {P : List It} (h : YM σ P) (e : τ 75 = σ 75) : YM τ P := fun i hi => by rw [e]; exact h i hi
theorem YM.fr {σ τ : Sg} {P : List It} {c : Nat → Bool} {f : Int → Bool} (h : YM σ P) (hf : FR σ τ c f) (hc : c 75 = false) : YM τ P := h.same (hf.1 75 (by decide) hc)
def vix (vs : List Nat) (v : Nat) : Int := if v ∈ vs then (vs.idxOf v : Int) else -1
theorem vix_at : ∀ {vs : List Nat} {v n : Nat}, n < vs.length → vs.getD n 0 = v → (∀ j, j < n → vs.getD j 0 ≠ v) → vix vs v = (n : Int)
  | [], v, n, h, _, _ => absurd h (Nat.not_lt_zero _)
  | x :: vs, v, 0, h, h1, h2 => by
    simp at h1
    subst h1
    unfold vix
    simp
  | x :: vs, v, n + 1, h, h1, h2 => by
    have hx : x ≠ v := by
      have := h2 0 (by omega)
      simpa using this
    have ih := vix_at (vs := vs) (v := v) (n := n) (by simpa using h) (by simpa using h1) (fun j hj => by have := h2 (j + 1) (by omega); simpa using this)
    unfold vix at ih ⊢
    split at ih
    · rename_i hm
      rw [if_pos (List.mem_cons_of_mem _ hm), List.idxOf_cons]
      have : (x == v) = false := by simpa using hx
      rw [this]
      simp only [cond_false]
      omega
    · omega
theorem vix_no {vs : List Nat} {v : Nat} (h : ∀ j, j < vs.length → vs.getD j 0 ≠ v) : vix vs v = -1 := by
  unfold vix
  rw [if_neg]
  intro hm
  obtain ⟨j, hj, e⟩ := List.getElem_of_mem hm
  apply h j hj
  rw [List.getD_eq_getElem?_getD, List.getElem?_eq_getElem hj]
  exact e
theorem upTo_gap (a u : Nat) (hu : 0 < u) : (a + u - 1) / u * u = a + gap a u := by
  unfold gap
  have h1 := Nat.div_add_mod a u
  have h2 := Nat.mod_lt a hu
  generalize hq : a / u = q at h1
  generalize hr : a % u = r at h1 h2 ⊢
  rw [Nat.mul_comm] at h1
  rcases Nat.eq_zero_or_pos r with h | h
  · subst h
    have e : (a + u - 1) / u = q := by
      rw [← h1]
      rw [show q * u + 0 + u - 1 = (u - 1) + q * u by omega, Nat.add_mul_div_right _ _ hu, Nat.div_eq_of_lt (by omega)]
      omega
    rw [e, Nat.sub_zero, Nat.mod_self]
    omega
  · have e : (a + u - 1) / u = q + 1 := by
      rw [← h1]
      rw [show q * u + r + u - 1 = (r - 1) + (q + 1) * u by rw [Nat.add_mul]; omega, Nat.add_mul_div_right _ _ hu, Nat.div_eq_of_lt (by omega)]
      omega
    rw [e, Nat.mod_eq_of_lt (by omega), Nat.add_mul]
    omega
theorem upTo_gapI (a u : Nat) (hu : 0 < u) : ((a : Int) + (u : Int) - 1) / (u : Int) * (u : Int) = ((a + gap a u : Nat) : Int) := by
  rw [← upTo_gap a u hu, show (a : Int) + (u : Int) - 1 = ((a + u - 1 : Nat) : Int) by omega]
  rfl
theorem vals_7 {P : List It} {i : Nat} (h : i = 0 ∨ (0 < i ∧ kd P (i - 1) = 7)) : vals P i = [] := by
  rcases h with rfl | ⟨h1, h2⟩
  · rfl
  · cases i with
    | zero => omega
    | succ i => rw [vals, if_pos (by simpa using h2)]
theorem vals_lt {P : List It} (h : okP P) {i k : Nat} (hk : k < (vals P i).length) : (vals P i).getD k 0 < 100 := by
  have hm : (vals P i).getD k 0 ∈ vals P i := by
    rw [List.getD_eq_getElem?_getD, List.getElem?_eq_getElem hk]
    exact List.getElem_mem hk
  rcases vals_mem i _ hm with h1 | h1
  · exact h1
  · exact absurd h h1
theorem getD_app (vs : List Nat) (v k : Nat) : (vs ++ [v]).getD k 0 = if k = vs.length then v else vs.getD k 0 := by
  simp only [List.getD_eq_getElem?_getD, List.getElem?_append]
  by_cases h : k < vs.length
  · rw [if_pos h, if_neg (by omega)]
  · rw [if_neg h]
    by_cases h2 : k = vs.length
    · subst h2; simp
    · rw [if_neg h2, List.getElem?_eq_none (by simp; omega), List.getElem?_eq_none (by omega)]
/-- the numbers of a kind's item are in range -/
theorem MP.rg {σ : Sg} {P : List It} (h : MP σ P) (i : Nat) : kd P i < 8 ∧ op P i < 100 ∧ fm P i ≤ 2 := by
  have := h.1.2.1 i
  unfold okI at this
  omega
end MODEL
