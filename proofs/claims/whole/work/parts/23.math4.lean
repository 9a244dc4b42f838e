/-! All forms of the transfers, in ascending order -/
section MATH4
abbrev Ac : Type := Nat × Nat × (Nat → Nat)
set_option maxHeartbeats 400000 in
def upF (F : Nat → Nat) (i f : Nat) : Nat → Nat := fun q => if q = i then f else F q
set_option maxHeartbeats 400000 in
def tot (P : List It) (F : Nat → Nat) : Nat := ad0 P F P.length + plSz (vals P P.length).length (ad0 P F P.length)
set_option maxHeartbeats 400000 in
/-- a choice is kept if all fit -/
def kpA (P : List It) (F : Nat → Nat) (A : Ac) : Ac := if msf P F = 0 then (A.1 + 1, if A.1 = 0 ∨ tot P F < A.2.1 then (tot P F, F) else A.2) else A
set_option maxHeartbeats 400000 in
/-- all choices of the last k items -/
def ext (P : List It) : Nat → (Nat → Nat) → Ac → Ac
  | 0, F, A => kpA P F A
  | k + 1, F, A => if isT P (P.length - (k + 1)) then ext P k (upF F (P.length - (k + 1)) 2) (ext P k (upF F (P.length - (k + 1)) 1) (ext P k (upF F (P.length - (k + 1)) 0) A)) else ext P k F A
set_option maxHeartbeats 400000 in
/-- transfers among the last k items -/
def rT (P : List It) : Nat → Nat
  | 0 => 0
  | k + 1 => rT P k + (if isT P (P.length - (k + 1)) then 1 else 0)
set_option maxHeartbeats 400000 in
def CF (P : List It) (F : Nat → Nat) (i : Nat) : Prop := (∀ q, i ≤ q → F q = 0) ∧ (∀ q, ¬ isT P q → F q = 0) ∧ ∀ q, F q ≤ 2
set_option maxHeartbeats 400000 in
def CK (P : List It) (F : Nat → Nat) (i : Nat) : Prop := ∀ t, t < i → isT P t → dfn P (op P t) P.length < (i : Int) → ¬ mis P F t
set_option maxHeartbeats 400000 in
def okA (P : List It) (A : Ac) : Prop := A.2.1 ≤ 5000 ∧ ∀ q, A.2.2 q ≤ 2 ∧ (¬ isT P q → A.2.2 q = 0)
set_option maxHeartbeats 400000 in
theorem upF_lt {F : Nat → Nat} {i f q : Nat} (h : q < i) : upF F i f q = F q := by unfold upF; rw [if_neg (by omega)]
set_option maxHeartbeats 400000 in
theorem upF_at (F : Nat → Nat) (i f : Nat) : upF F i f i = f := by unfold upF; rw [if_pos rfl]
set_option maxHeartbeats 400000 in
theorem upF_CF {P : List It} {F : Nat → Nat} {i f : Nat} (h : CF P F i) (ht : isT P i) (hf : f ≤ 2) : CF P (upF F i f) (i + 1) := by
  obtain ⟨h1, h2, h3⟩ := h
  refine ⟨fun q hq => ?_, fun q hq => ?_, fun q => ?_⟩
  · unfold upF; rw [if_neg (by omega)]; exact h1 q (by omega)
  · unfold upF
    by_cases e : q = i
    · subst e; exact absurd ht hq
    · rw [if_neg e]; exact h2 q hq
  · unfold upF; split
    · exact hf
    · exact h3 q
set_option maxHeartbeats 400000 in
theorem dsp_agree {P : List It} {F G : Nat → Nat} {i t : Nat} (h : ∀ q, q < i → F q = G q) (ht : t < i) (hd : dfn P (op P t) P.length ≤ (i : Int)) : dsp P F t = dsp P G t := by
  unfold dsp
  rw [ad0_congr (F := F) (G := G) (t + 1) (fun q hq => h q (by omega)), ad0_congr (F := F) (G := G) (dfn P (op P t) P.length).toNat (fun q hq => h q (by omega))]
set_option maxHeartbeats 400000 in
theorem mis_agree {P : List It} {F G : Nat → Nat} {i t : Nat} (h : ∀ q, q < i → F q = G q) (ht : t < i) (hd : dfn P (op P t) P.length ≤ (i : Int)) : mis P F t ↔ mis P G t := by
  unfold mis
  rw [dsp_agree h ht hd, h t ht]
set_option maxHeartbeats 400000 in
/-- a misfit that later forms can't mend -/
theorem ext_prune {P : List It} {F0 : Nat → Nat} {i t : Nat} (hi : i ≤ P.length) (ht : t < i) (hT : isT P t) (hd : dfn P (op P t) P.length ≤ (i : Int)) (hm : mis P F0 t) : ∀ k (F : Nat → Nat) (A : Ac), i + k ≤ P.length → (∀ q, q < i → F q = F0 q) → ext P k F A = A
  | 0, F, A, _, hF => by
    rw [ext, kpA, if_neg]
    intro h0
    have h1 := (cnt_zero _).mp h0 t (by omega)
    rw [decide_eq_false_iff_not] at h1
    exact h1 ⟨hT, (mis_agree hF ht hd).mpr hm⟩
  | k + 1, F, A, hk, hF => by
    have hup : ∀ f q, q < i → upF F (P.length - (k + 1)) f q = F0 q := fun f q hq => by rw [upF_lt (by omega)]; exact hF q hq
    rw [ext]
    split
    · rw [ext_prune hi ht hT hd hm k _ _ (by omega) (hup 0), ext_prune hi ht hT hd hm k _ _ (by omega) (hup 1), ext_prune hi ht hT hd hm k _ _ (by omega) (hup 2)]
    · exact ext_prune hi ht hT hd hm k F A (by omega) hF
set_option maxHeartbeats 400000 in
theorem ext_skip {P : List It} {F : Nat → Nat} {A : Ac} {i : Nat} : ∀ d, i + d ≤ P.length → (∀ q, i ≤ q → q < i + d → ¬ isT P q) → ext P (P.length - i) F A = ext P (P.length - (i + d)) F A
  | 0, _, _ => rfl
  | d + 1, h, hn => by
    rw [ext_skip d (by omega) (fun q h1 h2 => hn q h1 (by omega)), show P.length - (i + d) = (P.length - (i + (d + 1))) + 1 by omega, ext, if_neg]
    rw [show P.length - (P.length - (i + (d + 1)) + 1) = i + d by omega]
    exact hn (i + d) (by omega) (by omega)
set_option maxHeartbeats 400000 in
theorem rT_skip {P : List It} {i : Nat} : ∀ d, i + d ≤ P.length → rT P (P.length - (i + d)) ≤ rT P (P.length - i)
  | 0, _ => Nat.le_refl _
  | d + 1, h => by
    have := rT_skip (P := P) (i := i) d (by omega)
    rw [show P.length - (i + d) = (P.length - (i + (d + 1))) + 1 by omega, rT] at this
    omega
set_option maxHeartbeats 400000 in
theorem rT_T {P : List It} {i : Nat} (hi : i < P.length) (ht : isT P i) : rT P (P.length - i) = rT P (P.length - (i + 1)) + 1 := by
  rw [show P.length - i = (P.length - (i + 1)) + 1 by omega, rT, show P.length - (P.length - (i + 1) + 1) = i by omega, if_pos ht]
set_option maxHeartbeats 400000 in
theorem rT_cnt {P : List It} : ∀ k, k ≤ P.length → rT P k + cnt (fun i => decide (isT P i)) (P.length - k) = cnt (fun i => decide (isT P i)) P.length
  | 0, _ => by rw [rT]; simp
  | k + 1, h => by
    have ih := rT_cnt (P := P) k (by omega)
    rw [show P.length - k = (P.length - (k + 1)) + 1 by omega, cnt] at ih
    rw [rT]
    by_cases ht : isT P (P.length - (k + 1))
    · rw [if_pos ht]; rw [if_pos (by simpa using ht)] at ih; omega
    · rw [if_neg ht]; rw [if_neg (by simpa using ht)] at ih; omega
set_option maxHeartbeats 400000 in
theorem tot_le {P : List It} (h : okP P) (F : Nat → Nat) : tot P F ≤ 5000 := by
  have h1 := aP_le h F (Nat.le_refl P.length)
  have h2 := plSz_ge (vals P P.length).length (ad0 P F P.length)
  have h3 := vals_le h (Nat.le_refl P.length)
  unfold tot
  omega
set_option maxHeartbeats 400000 in
theorem kpA_ok {P : List It} {F : Nat → Nat} {A : Ac} (h : okP P) (hF : ∀ q, F q ≤ 2 ∧ (¬ isT P q → F q = 0)) (hA : okA P A) : okA P (kpA P F A) ∧ (kpA P F A).1 ≤ A.1 + 1 := by
  unfold kpA
  split
  · dsimp only
    refine ⟨?_, Nat.le_refl _⟩
    split
    · exact ⟨tot_le h F, hF⟩
    · exact hA
  · exact ⟨hA, Nat.le_succ _⟩
set_option maxHeartbeats 400000 in
theorem ext_ok {P : List It} (h : okP P) : ∀ k (F : Nat → Nat) (A : Ac), k ≤ P.length → (∀ q, F q ≤ 2 ∧ (¬ isT P q → F q = 0)) → okA P A → okA P (ext P k F A) ∧ (ext P k F A).1 ≤ A.1 + 3 ^ rT P k
  | 0, F, A, _, hF, hA => kpA_ok h hF hA
  | k + 1, F, A, hk, hF, hA => by
    rw [ext, rT]
    by_cases ht : isT P (P.length - (k + 1))
    · rw [if_pos ht, if_pos ht]
      have hup : ∀ f, f ≤ 2 → ∀ q, upF F (P.length - (k + 1)) f q ≤ 2 ∧ (¬ isT P q → upF F (P.length - (k + 1)) f q = 0) := fun f hf q => by
        unfold upF
        by_cases e : q = P.length - (k + 1)
        · rw [if_pos e]; exact ⟨hf, fun hn => absurd (e ▸ ht) hn⟩
        · rw [if_neg e]; exact hF q
      obtain ⟨a1, b1⟩ := ext_ok h k _ A (by omega) (hup 0 (by decide)) hA
      obtain ⟨a2, b2⟩ := ext_ok h k _ _ (by omega) (hup 1 (by decide)) a1
      obtain ⟨a3, b3⟩ := ext_ok h k _ _ (by omega) (hup 2 (by decide)) a2
      refine ⟨a3, ?_⟩
      rw [Nat.pow_succ]
      omega
    · rw [if_neg ht, if_neg ht]
      exact ext_ok h k F A (by omega) hF hA
set_option maxHeartbeats 400000 in
theorem dfn_uniq {P : List It} (h : okP P) {d : Nat} (hd : d < P.length) (h2 : kd P d = 2) : dfn P (op P d) P.length = (d : Int) := by
  rcases dfn_spec P (op P d) P.length with ⟨-, h3⟩ | ⟨i, h3, h4, h5, h6⟩
  · exact absurd ⟨h2, rfl⟩ (h3 d hd)
  · rw [h3, h.2.2 i d h4 hd h5 h2 h6]
set_option maxHeartbeats 400000 in
theorem dfn_kd {P : List It} {lb : Nat} (h0 : 0 ≤ dfn P lb P.length) : kd P (dfn P lb P.length).toNat = 2 ∧ op P (dfn P lb P.length).toNat = lb := by
  rcases dfn_spec P lb P.length with ⟨h3, -⟩ | ⟨i, h3, h4, h5, h6⟩
  · omega
  · rw [h3, show ((i : Int)).toNat = i by omega]
    exact ⟨h5, h6⟩
set_option maxHeartbeats 400000 in
theorem CK_skip {P : List It} {F : Nat → Nat} {i : Nat} (h : CK P F i) (hT : ¬ isT P i) (hn : ∀ t, t < i → isT P t → dfn P (op P t) P.length = (i : Int) → ¬ mis P F t) : CK P F (i + 1) := by
  intro t ht hTt hd
  by_cases e : t = i
  · subst e; exact absurd hTt hT
  · by_cases e2 : dfn P (op P t) P.length = (i : Int)
    · exact hn t (by omega) hTt e2
    · exact h t (by omega) hTt (by omega)
set_option maxHeartbeats 400000 in
theorem CK_step {P : List It} (hok : okP P) {F : Nat → Nat} {j f : Nat} (hj : j < P.length) (h : CK P F j) (hT : isT P j) (hm : dfn P (op P j) P.length < (j : Int) → ¬ mis P (upF F j f) j) : CK P (upF F j f) (j + 1) := by
  intro t ht hTt hd
  by_cases e : t = j
  · subst e
    refine hm ?_
    by_cases e2 : dfn P (op P t) P.length = (t : Int)
    · have h9 := dfn_kd (P := P) (lb := op P t) (by omega)
      rw [e2, show ((t : Int)).toNat = t by omega] at h9
      unfold isT at hT
      omega
    · omega
  · by_cases e2 : dfn P (op P t) P.length = (j : Int)
    · have h9 := dfn_kd (P := P) (lb := op P t) (by omega)
      rw [e2, show ((j : Int)).toNat = j by omega] at h9
      unfold isT at hT
      omega
    · rw [mis_agree (F := upF F j f) (G := F) (i := j) (fun q hq => upF_lt hq) (by omega) (by omega)]
      exact h t (by omega) hTt (by omega)
set_option maxHeartbeats 400000 in
theorem CK_all {P : List It} {F : Nat → Nat} (h : CK P F P.length) : msf P F = 0 := by
  apply (cnt_zero _).mpr
  intro t ht
  rw [decide_eq_false_iff_not]
  rintro ⟨h1, h2⟩
  exact h t ht h1 (dfn_lt P (op P t) P.length).2 h2
set_option maxHeartbeats 400000 in
/-- the search's rows: addresses and forms before item i, what was kept -/
def FB (σ : Sg) (P : List It) (F : Nat → Nat) (i : Nat) (A : Ac) : Prop := (∀ q : Nat, q < i → σ 64 (q : Int) = (ad0 P F q : Int)) ∧ (∀ q : Nat, q < 40 → (q < i ∨ ¬ isT P q) → σ 65 (q : Int) = (F q : Int)) ∧ σ 63 6 = (A.1 : Int) ∧ σ 63 7 = (A.2.1 : Int) ∧ ∀ q : Nat, q < 40 → σ 66 (q : Int) = (A.2.2 q : Int)
end MATH4
