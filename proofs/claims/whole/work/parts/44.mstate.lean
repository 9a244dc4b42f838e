/-! The reference's state -/
section MSTATE
/-- P lies at o of the array k -/
def QR (σ : Sg) (k : Nat) (o : Int) (P : List It) : Prop := okP P ∧ σ k o = (P.length : Int) ∧ ∀ i : Nat, i < P.length → σ k (o + (1 + (i : Int))) = (kd P i : Int) ∧ σ k (o + (41 + (i : Int))) = (op P i : Int) ∧ σ k (o + (81 + (i : Int))) = (fm P i : Int)
theorem QR.move {σ τ : Sg} {k k' : Nat} {o o' : Int} {P : List It} (h : QR σ k o P) (hm : ∀ q : Int, 0 ≤ q → q < 121 → τ k' (o' + q) = σ k (o + q)) : QR τ k' o' P := by
  obtain ⟨h1, h2, h3⟩ := h
  have hl := h1.1
  refine ⟨h1, ?_, fun i hi => ?_⟩
  · have := hm 0 (by omega) (by omega)
    rw [Int.add_zero, Int.add_zero] at this
    rw [this]; exact h2
  · rw [hm _ (by omega) (by omega), hm _ (by omega) (by omega), hm _ (by omega) (by omega)]
    exact h3 i hi
theorem MP_QR {σ : Sg} {P : List It} : MP σ P ↔ QR σ 71 0 P := by
  unfold MP QR
  simp only [Int.zero_add]
def MH (σ : Sg) (hs : List (List It)) : Prop := hs.length ≤ 10 ∧ σ 70 3 = (hs.length : Int) ∧ ∀ (t : Nat) (Q : List It), hs[t]? = some Q → QR σ 72 (121 * ((hs.length : Int) - 1 - (t : Int))) Q
def MSv (σ : Sg) (sv : Option (List It)) : Prop := (sv = none ∧ σ 70 5 = 0) ∨ ∃ Q, sv = some Q ∧ σ 70 5 = 1 ∧ QR σ 73 0 Q
def MT (σ : Sg) (T : List Nat) : Prop := T.length ≤ 12 ∧ σ 70 7 = (T.length : Int) ∧ ∀ i : Nat, i < T.length → σ 74 (i : Int) = (ch T i : Int) ∧ 32 ≤ ch T i ∧ ch T i ≤ 126
def nmA (k j : Nat) : Nat := if j < nmL k then nmC k j else 32
def MN (σ : Sg) : Prop := ∀ k j : Nat, k < 8 → j < 6 → σ 77 (6 * (k : Int) + (j : Int)) = (nmA k j : Int)
def MR (σ : Sg) : AS → Prop
  | (P, hs, sv, T, er) => MP σ P ∧ MH σ hs ∧ MSv σ sv ∧ MT σ T ∧ σ 70 8 = er ∧ -1 ≤ er ∧ er ≤ 20 ∧ MN σ
def cS : Nat → Bool := fun k => k == 75 || k == 76 || k == 78 || k == 79 || k == 80
def fS : Int → Bool := fun z => z == 0 || z == 11 || z == 13 || z == 14 || z == 18 || z == 19 || z == 20
def cP : Nat → Bool := fun k => cS k || k == 71 || k == 72
def fP : Int → Bool := fun z => fS z || z == 3
def cA : Nat → Bool := fun k => decide (70 ≤ k ∧ k ≤ 80)
def fA : Int → Bool := fun _ => true
def c71 : Nat → Bool := fun k => k == 71
def c72 : Nat → Bool := fun k => k == 72
def f3 : Int → Bool := fun z => z == 3
def fN : Int → Bool := fun _ => false
theorem FR.out {σ τ : Sg} (h : FR σ τ cA fA) : ∀ k, k < 70 ∨ 80 < k → τ k = σ k := fun k hk => h.1 k (by omega) (by unfold cA; exact decide_eq_false (by omega))
theorem sS {k : Nat} (h : cS k = true) : k = 75 ∨ k = 76 ∨ k = 78 ∨ k = 79 ∨ k = 80 := by
  unfold cS at h
  simp only [Bool.or_eq_true, beq_iff_eq] at h
  omega
theorem sP {k : Nat} (h : cP k = true) : k = 71 ∨ k = 72 ∨ cS k = true := by
  unfold cP at h
  simp only [Bool.or_eq_true, beq_iff_eq] at h
  rcases h with (h | h) | h
  · exact Or.inr (Or.inr h)
  · exact Or.inl h
  · exact Or.inr (Or.inl h)
theorem FR.any {σ τ : Sg} {c : Nat → Bool} {f : Int → Bool} (h : FR σ τ c f) (hc : ∀ k, c k = true → 71 ≤ k ∧ k ≤ 80) : FR σ τ cA fA := h.mono (fun k hk => by
    cases e : c k with
    | false => rfl
    | true =>
      have := hc k e
      unfold cA at hk
      rw [decide_eq_true (by omega)] at hk
      cases hk) (fun z hz => by unfold fA at hz; cases hz)
theorem FR.S1 {σ τ : Sg} (h : FR σ τ c1 f1) : FR σ τ cS fS := h.mono (fun k hk => by
    unfold cS at hk; unfold c1
    simp only [Bool.or_eq_false_iff, beq_eq_false_iff_ne] at hk ⊢
    exact hk.1.1.1.2) (fun z hz => by
    unfold fS at hz; unfold f1
    simp only [Bool.or_eq_false_iff, beq_eq_false_iff_ne] at hz ⊢
    exact hz.1.1.1.1.1.2)
theorem FR.S2 {σ τ : Sg} (h : FR σ τ c2 f1) : FR σ τ cS fS := h.mono (fun k hk => by
    unfold cS at hk; unfold c2
    simp only [Bool.or_eq_false_iff, beq_eq_false_iff_ne] at hk ⊢
    exact ⟨hk.1.1.1.2, hk.1.1.1.1⟩) (fun z hz => by
    unfold fS at hz; unfold f1
    simp only [Bool.or_eq_false_iff, beq_eq_false_iff_ne] at hz ⊢
    exact hz.1.1.1.1.1.2)
theorem FR.SP {σ τ : Sg} (h : FR σ τ cS fS) : FR σ τ cP fP := h.mono (fun k hk => by
    unfold cP at hk
    rw [Bool.or_eq_false_iff, Bool.or_eq_false_iff] at hk
    exact hk.1.1) (fun z hz => by
    unfold fP at hz
    rw [Bool.or_eq_false_iff] at hz
    exact hz.1)
theorem FR.P71 {σ τ : Sg} (h : FR σ τ c71 fN) : FR σ τ cP fP := h.mono (fun k hk => by
    unfold cP at hk; unfold c71
    rw [Bool.or_eq_false_iff, Bool.or_eq_false_iff] at hk
    exact hk.1.2) (fun z _ => rfl)
theorem FR.P72 {σ τ : Sg} (h : FR σ τ c72 f3) : FR σ τ cP fP := h.mono (fun k hk => by
    unfold cP at hk; unfold c72
    rw [Bool.or_eq_false_iff, Bool.or_eq_false_iff] at hk
    exact hk.2) (fun z hz => by
    unfold fP at hz; unfold f3
    rw [Bool.or_eq_false_iff] at hz
    exact hz.2)
theorem FR.PA {σ τ : Sg} (h : FR σ τ cP fP) : FR σ τ cA fA := h.any (fun k hk => by
    rcases sP hk with h | h | h
    · omega
    · omega
    · have := sS h; omega)
theorem FR.SA {σ τ : Sg} (h : FR σ τ cS fS) : FR σ τ cA fA := h.SP.PA
theorem MH.same {σ τ : Sg} {hs : List (List It)} (h : MH σ hs) (e1 : τ 70 3 = σ 70 3) (e2 : τ 72 = σ 72) : MH τ hs := by
  unfold MH QR
  rw [e1, e2]
  exact h
theorem MSv.same {σ τ : Sg} {sv : Option (List It)} (h : MSv σ sv) (e1 : τ 70 5 = σ 70 5) (e2 : τ 73 = σ 73) : MSv τ sv := by
  unfold MSv QR
  rw [e1, e2]
  exact h
theorem MT.same {σ τ : Sg} {T : List Nat} (h : MT σ T) (e1 : τ 70 7 = σ 70 7) (e2 : τ 74 = σ 74) : MT τ T := by
  unfold MT
  rw [e1, e2]
  exact h
theorem MN.same {σ τ : Sg} (h : MN σ) (e : τ 77 = σ 77) : MN τ := by
  unfold MN
  rw [e]
  exact h
/-- program and history may have changed -/
theorem MR.change {σ τ : Sg} {P P' : List It} {hs hs' : List (List It)} {sv : Option (List It)} {T : List Nat} {er : Int} (h : MR σ (P, hs, sv, T, er)) (h1 : MP τ P') (h2 : MH τ hs') (hf : FR σ τ cP fP) : MR τ (P', hs', sv, T, er) := by
  obtain ⟨-, -, g3, g4, g5, g6, g7, g8⟩ := h
  exact ⟨h1, h2, g3.same (hf.2 5 rfl) (hf.1 73 (by decide) rfl), g4.same (hf.2 7 rfl) (hf.1 74 (by decide) rfl), by rw [hf.2 8 rfl]; exact g5, g6, g7, g8.same (hf.1 77 (by decide) rfl)⟩
theorem MR.sc {σ τ : Sg} {A : AS} (h : MR σ A) (hf : FR σ τ cS fS) : MR τ A := by
  obtain ⟨P, hs, sv, T, er⟩ := A
  exact h.change (h.1.same (hf.1 71 (by decide) rfl)) (h.2.1.same (hf.2 3 rfl) (hf.1 72 (by decide) rfl)) hf.SP
def MZ (σ τ : Sg) (A : AS) (c : Nat) : Prop := MR τ A ∧ τ 70 0 = (c : Int) ∧ ∀ k, k < 70 ∨ 80 < k → τ k = σ k
def MPI (R : Rel) (σ : Sg) : Int → Sg → Prop := fun z τ => ∃ c A', R c z A' ∧ MZ σ τ A' c
theorem MZ.t {σ τ : Sg} {A : AS} (h : MR τ A) (hf : FR σ τ cA fA) (c : Nat) (ci : Int) (hc : ci = (c : Int)) : MZ σ (upd2 τ 70 0 ci) A c := by
  subst hc
  exact ⟨h.sc (FR.updF rfl), upd2_at _ _ _ _, fun k hk => (upd2_other k (by omega)).trans (hf.out k hk)⟩
theorem MZ.q {σ τ : Sg} {A : AS} (h : MR σ A) (hf : FR σ τ cS fS) (c : Nat) (ci : Int) (hc : ci = (c : Int)) : MZ σ (upd2 τ 70 0 ci) A c := MZ.t (h.sc hf) hf.SA c ci hc
/-- copying n of an array -/
def cpS (σ : Sg) (k1 : Nat) (o1 : Int) (k2 : Nat) (o2 : Int) (n : Nat) : Sg := fun c q => if c = k2 ∧ o2 ≤ q ∧ q < o2 + (n : Int) then σ k1 (q - o2 + o1) else σ c q
theorem cpS_0 (σ : Sg) (k1 : Nat) (o1 : Int) (k2 : Nat) (o2 : Int) : cpS σ k1 o1 k2 o2 0 = σ := by
  funext c q
  unfold cpS
  rw [if_neg (by omega)]
theorem cpS_step {σ : Sg} {k1 : Nat} {o1 : Int} {k2 : Nat} {o2 : Int} {n : Nat} {z1 z2 : Int} (hne : k1 ≠ k2 ∨ o2 ≤ o1) (e1 : z1 = o1 + (n : Int)) (e2 : z2 = o2 + (n : Int)) : cpS σ k1 o1 k2 o2 (n + 1) = upd2 (cpS σ k1 o1 k2 o2 n) k2 z2 (cpS σ k1 o1 k2 o2 n k1 z1) := by
  subst e1
  subst e2
  funext c q
  unfold upd2
  by_cases h : c = k2 ∧ q = o2 + (n : Int)
  · rw [if_pos h]
    obtain ⟨rfl, rfl⟩ := h
    unfold cpS
    rw [if_pos ⟨rfl, by omega, by omega⟩, if_neg (by omega)]
    exact cg σ rfl (by omega)
  · rw [if_neg h]
    unfold cpS
    by_cases h2 : c = k2 ∧ o2 ≤ q ∧ q < o2 + (n : Int)
    · rw [if_pos h2, if_pos (by omega)]
    · rw [if_neg h2, if_neg (by omega)]
theorem cpS_FR {σ : Sg} {k1 : Nat} {o1 : Int} {k2 : Nat} {o2 : Int} {n : Nat} {c : Nat → Bool} {f : Int → Bool} (hk : k2 ≠ 70) (hc : c k2 = true) : FR σ (cpS σ k1 o1 k2 o2 n) c f := by
  refine ⟨fun k _ b => ?_, fun z _ => ?_⟩
  · funext q
    unfold cpS
    rw [if_neg]
    rintro ⟨rfl, _⟩
    rw [hc] at b
    cases b
  · unfold cpS
    rw [if_neg]
    rintro ⟨h, _⟩
    exact hk h.symm
theorem cpS_QR {σ : Sg} {k1 : Nat} {o1 : Int} {k2 : Nat} {o2 : Int} {P : List It} (h : QR σ k1 o1 P) : QR (cpS σ k1 o1 k2 o2 121) k2 o2 P := h.move (fun q h1 h2 => by
  unfold cpS
  rw [if_pos ⟨rfl, by omega, by omega⟩]
  exact cg σ rfl (by omega))
theorem MH_push {τ : Sg} {r : List (List It)} {P : List It} {n : Nat} {v : Int} (hH : MH τ r) (hn : r.length = n) (h9 : n ≤ 9) (hM : MP τ P) (hv : v = (n : Int) + 1) : MH (upd2 (cpS τ 71 0 72 (121 * (n : Int)) 121) 70 3 v) (P :: r) := by
  subst hn
  subst hv
  obtain ⟨h1, h2, h3⟩ := hH
  refine ⟨by simp; omega, by rw [upd2_at]; simp, fun t Q hQ => ?_⟩
  have e72 : upd2 (cpS τ 71 0 72 (121 * (r.length : Int)) 121) 70 3 ((r.length : Int) + 1) 72 = cpS τ 71 0 72 (121 * (r.length : Int)) 121 72 := upd2_other 72 (by decide)
  cases t with
  | zero =>
    simp at hQ
    subst hQ
    refine (cpS_QR (k2 := 72) (o2 := 121 * (r.length : Int)) (MP_QR.mp hM)).move (fun q a b => ?_)
    rw [e72]
    exact cg _ rfl (by simp only [List.length_cons]; omega)
  | succ t =>
    rw [List.getElem?_cons_succ] at hQ
    have ht : t < r.length := (List.getElem?_eq_some_iff.mp hQ).1
    refine (h3 t Q hQ).move (fun q a b => ?_)
    rw [e72]
    unfold cpS
    rw [if_neg (by simp only [List.length_cons]; omega)]
    exact cg _ rfl (by simp only [List.length_cons]; omega)
theorem MH_shift {σ : Sg} {hs : List (List It)} {v : Int} (hH : MH σ hs) (h10 : hs.length = 10) (hv : v = 9) : MH (upd2 (cpS σ 72 121 72 0 1089) 70 3 v) (hs.take 9) := by
  subst hv
  obtain ⟨h1, h2, h3⟩ := hH
  refine ⟨by simp; omega, by rw [upd2_at]; simp [h10], fun t Q hQ => ?_⟩
  rw [List.getElem?_take] at hQ
  split at hQ
  · rename_i ht
    refine (h3 t Q hQ).move (fun q a b => ?_)
    rw [show upd2 (cpS σ 72 121 72 0 1089) 70 3 9 72 = cpS σ 72 121 72 0 1089 72 from upd2_other 72 (by decide)]
    have hl : (hs.take 9).length = 9 := by simp [h10]
    unfold cpS
    rw [if_pos ⟨rfl, by rw [hl]; omega, by rw [hl]; omega⟩]
    exact cg _ rfl (by rw [hl, h10]; omega)
  · cases hQ
def zrS (σ : Sg) (n : Nat) : Sg := fun c q => if c = 71 ∧ 0 ≤ q ∧ q < (n : Int) then 0 else σ c q
theorem zrS_0 (σ : Sg) : zrS σ 0 = σ := by
  funext c q
  unfold zrS
  rw [if_neg (by omega)]
theorem zrS_step {σ : Sg} {n : Nat} : zrS σ (n + 1) = upd2 (zrS σ n) 71 (n : Int) 0 := by
  funext c q
  unfold upd2 zrS
  by_cases h : c = 71 ∧ q = (n : Int)
  · rw [if_pos h, if_pos ⟨h.1, by omega, by omega⟩]
  · rw [if_neg h]
    by_cases h2 : c = 71 ∧ 0 ≤ q ∧ q < (n : Int)
    · rw [if_pos h2, if_pos (by omega)]
    · rw [if_neg h2, if_neg (by omega)]
theorem zrS_FR {σ : Sg} {n : Nat} : FR σ (zrS σ n) c71 fN := by
  refine ⟨fun k _ b => ?_, fun z _ => ?_⟩
  · funext q
    unfold zrS
    rw [if_neg]
    rintro ⟨rfl, _⟩
    cases b
  · unfold zrS
    rw [if_neg (by omega)]
theorem okP_nil : okP [] := ⟨by decide, fun i => by rw [(ok_out (P := []) (i := i) (Nat.zero_le _)).1, (ok_out (P := []) (i := i) (Nat.zero_le _)).2.1, (ok_out (P := []) (i := i) (Nat.zero_le _)).2.2]; exact okI_def, fun i j hi => absurd hi (Nat.not_lt_zero _)⟩
end MSTATE
