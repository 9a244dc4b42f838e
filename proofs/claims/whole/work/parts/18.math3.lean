/-! Forms apart from items; displacements; rounds of growing; passes of shrinking -/
section MATH3
set_option maxHeartbeats 400000 in
/-- all forms anew -/
def setF (P : List It) (F : Nat → Nat) : List It := P.mapIdx (fun q x => (x.1, x.2.1, F q))
set_option maxHeartbeats 400000 in
theorem setF_len (P : List It) (F : Nat → Nat) : (setF P F).length = P.length := by simp [setF]
set_option maxHeartbeats 400000 in
theorem setF_at (P : List It) (F : Nat → Nat) (q : Nat) : kd (setF P F) q = kd P q ∧ op (setF P F) q = op P q ∧ fm (setF P F) q = if q < P.length then F q else 0 := by
  unfold kd op fm setF
  simp only [List.getD_eq_getElem?_getD, List.getElem?_mapIdx]
  by_cases h : q < P.length
  · simp [h]
  · simp [h, List.getElem?_eq_none (Nat.le_of_not_lt h)]
set_option maxHeartbeats 400000 in
/-- the same items but for the forms -/
def KO (P Q : List It) : Prop := P.length = Q.length ∧ ∀ i, kd P i = kd Q i ∧ op P i = op Q i
set_option maxHeartbeats 400000 in
theorem KO.refl (P : List It) : KO P P := ⟨rfl, fun _ => ⟨rfl, rfl⟩⟩
set_option maxHeartbeats 400000 in
theorem KO.symm {P Q : List It} (h : KO P Q) : KO Q P := ⟨h.1.symm, fun i => ⟨(h.2 i).1.symm, (h.2 i).2.symm⟩⟩
set_option maxHeartbeats 400000 in
theorem KO.trans {P Q R : List It} (h : KO P Q) (h2 : KO Q R) : KO P R := ⟨h.1.trans h2.1, fun i => ⟨(h.2 i).1.trans (h2.2 i).1, (h.2 i).2.trans (h2.2 i).2⟩⟩
set_option maxHeartbeats 400000 in
theorem KO_setF (P : List It) (F : Nat → Nat) : KO P (setF P F) := ⟨(setF_len P F).symm, fun i => ⟨(setF_at P F i).1.symm, (setF_at P F i).2.1.symm⟩⟩
set_option maxHeartbeats 400000 in
theorem KO_stF (P : List It) (i f : Nat) : KO P (stF P i f) := ⟨(stF_len P i f).symm, fun q => ⟨(stF_at P i f q).1.symm, (stF_at P i f q).2.1.symm⟩⟩
set_option maxHeartbeats 400000 in
theorem ko_vals {P Q : List It} (h : KO P Q) : ∀ i, vals P i = vals Q i
  | 0 => rfl
  | i + 1 => by rw [vals, vals, ko_vals h i, (h.2 i).1, (h.2 i).2]
set_option maxHeartbeats 400000 in
theorem ko_pno {P Q : List It} (h : KO P Q) : ∀ i, pno P i = pno Q i
  | 0 => rfl
  | i + 1 => by rw [pno, pno, ko_pno h i, (h.2 i).1]
set_option maxHeartbeats 400000 in
theorem ko_dfn {P Q : List It} (h : KO P Q) (lb : Nat) : ∀ i, dfn P lb i = dfn Q lb i
  | 0 => rfl
  | i + 1 => by rw [dfn, dfn, ko_dfn h lb i, (h.2 i).1, (h.2 i).2]
set_option maxHeartbeats 400000 in
theorem ko_sz {P Q : List It} (h : KO P Q) (i f a : Nat) : sz P i f a = sz Q i f a := by
  unfold sz
  rw [(h.2 i).1, (h.2 i).2, ko_vals h]
set_option maxHeartbeats 400000 in
theorem ko_ad0 {P Q : List It} (h : KO P Q) (F : Nat → Nat) : ∀ i, ad0 P F i = ad0 Q F i
  | 0 => rfl
  | i + 1 => by rw [ad0, ad0, ko_ad0 h F i, ko_sz h]
set_option maxHeartbeats 400000 in
theorem ad0_congr {P : List It} {F G : Nat → Nat} : ∀ n, (∀ i, i < n → F i = G i) → ad0 P F n = ad0 P G n
  | 0, _ => rfl
  | n + 1, h => by rw [ad0, ad0, ad0_congr n (fun i hi => h i (by omega)), h n (by omega)]
set_option maxHeartbeats 400000 in
theorem ko_LR {σ : Sg} {P Q : List It} (h : KO P Q) (hL : LR σ P) : LR σ Q := by
  obtain ⟨h1, h2, h3, h4, h5⟩ := hL
  refine ⟨fun lb hl => by rw [← ko_dfn h, ← h.1]; exact h1 lb hl, fun q hq => by rw [← ko_pno h]; exact h2 q (by rw [h.1]; exact hq), fun q hq hk => by rw [← ko_vals h, ← (h.2 q).2]; exact h3 q (by rw [h.1]; exact hq) (by rw [(h.2 q).1]; exact hk), by rw [← ko_pno h, ← h.1]; exact h4, fun q hq hk => by rw [← ko_pno h, ← ko_vals h]; exact h5 q (by rw [h.1]; exact hq) (by rw [(h.2 q).1]; exact hk)⟩
set_option maxHeartbeats 400000 in
/-- the displacement of the transfer i with the forms F -/
def dsp (P : List It) (F : Nat → Nat) (i : Nat) : Int := (ad0 P F (dfn P (op P i) P.length).toNat : Int) - (ad0 P F (i + 1) : Int)
abbrev mis (P : List It) (F : Nat → Nat) (i : Nat) : Prop := F i < ndF (dsp P F i)
set_option maxHeartbeats 400000 in
def udf (P : List It) : Nat := cnt (fun i => decide (isT P i ∧ dfn P (op P i) P.length = -1)) P.length
set_option maxHeartbeats 400000 in
def msf (P : List It) (F : Nat → Nat) : Nat := cnt (fun i => decide (isT P i ∧ mis P F i)) P.length
set_option maxHeartbeats 400000 in
theorem cnt_zero {p : Nat → Bool} : ∀ n, cnt p n = 0 ↔ ∀ i, i < n → p i = false
  | 0 => ⟨fun _ i h => absurd h (Nat.not_lt_zero i), fun _ => rfl⟩
  | n + 1 => by
    have ih := cnt_zero (p := p) n
    rw [cnt]
    constructor
    · intro h i hi
      have h1 : cnt p n = 0 := by omega
      by_cases e : i = n
      · subst e
        cases hp : p i
        · rfl
        · rw [hp] at h; simp at h
      · exact ih.mp h1 i (by omega)
    · intro h
      rw [ih.mpr (fun i hi => h i (by omega)), h n (by omega)]
      rfl
set_option maxHeartbeats 400000 in
theorem udf_zero {P : List It} (h : udf P = 0) {i : Nat} (hi : i < P.length) (ht : isT P i) : 0 ≤ dfn P (op P i) P.length ∧ dfn P (op P i) P.length < P.length := by
  have h1 := (cnt_zero _).mp h i hi
  have h2 := dfn_lt P (op P i) P.length
  rw [decide_eq_false_iff_not] at h1
  omega
set_option maxHeartbeats 400000 in
theorem dsp_rg {P : List It} (h : okP P) (F : Nat → Nat) {i : Nat} (hi : i < P.length) : -3000 ≤ dsp P F i ∧ dsp P F i ≤ 3000 := by
  have h1 := aP_le h F (i := i + 1) (by omega)
  have h3 := dfn_lt P (op P i) P.length
  have h2 := aP_le h F (i := (dfn P (op P i) P.length).toNat) (by omega)
  unfold dsp
  omega
set_option maxHeartbeats 400000 in
/-- a round of growing -/
def grF (P : List It) (n : Nat) : Nat → Nat := fun q => if q < n ∧ isT P q ∧ mis P (fm P) q then ndF (dsp P (fm P) q) else fm P q
set_option maxHeartbeats 400000 in
def rnd (P : List It) : List It := setF P (grF P P.length)
set_option maxHeartbeats 400000 in
def itr : Nat → List It → List It
  | 0, P => P
  | k + 1, P => rnd (itr k P)
set_option maxHeartbeats 400000 in
/-- the sum of the forms -/
def sF (P : List It) : Nat → Nat
  | 0 => 0
  | i + 1 => sF P i + fm P i
set_option maxHeartbeats 400000 in
theorem setF_ok {P : List It} {F : Nat → Nat} (h : okP P) (hF : ∀ i, i < P.length → F i ≤ 2 ∧ (¬ isT P i → F i = 0)) : okP (setF P F) := by
  obtain ⟨h1, h2, h3⟩ := h
  refine ⟨by rw [setF_len]; exact h1, fun q => ?_, fun a b ha hb => ?_⟩
  · obtain ⟨e1, e2, e3⟩ := setF_at P F q
    rw [e1, e2, e3]
    have hb := h2 q
    by_cases hq : q < P.length
    · rw [if_pos hq]
      obtain ⟨f1, f2⟩ := hF q hq
      exact ⟨hb.1, f1, fun a1 a2 => f2 (fun h => h.elim a1 a2)⟩
    · rw [if_neg hq]
      exact ⟨hb.1, Nat.zero_le _, fun _ _ => rfl⟩
  · rw [setF_len] at ha hb
    rw [(setF_at P F a).1, (setF_at P F b).1, (setF_at P F a).2.1, (setF_at P F b).2.1]
    exact h3 a b ha hb
set_option maxHeartbeats 400000 in
theorem fm_T {P : List It} (h : okP P) (i : Nat) : fm P i ≤ 2 ∧ (¬ isT P i → fm P i = 0) := by
  have hb := h.2.1 i
  unfold okI at hb
  unfold isT
  omega
set_option maxHeartbeats 400000 in
theorem grF_ok {P : List It} (h : okP P) (n : Nat) (i : Nat) : grF P n i ≤ 2 ∧ (¬ isT P i → grF P n i = 0) := by
  have h1 := ndF_le (dsp P (fm P) i)
  have h2 := fm_T h i
  unfold grF
  split
  · rename_i hc
    exact ⟨h1, fun hn => absurd hc.2.1 hn⟩
  · exact h2
set_option maxHeartbeats 400000 in
theorem rnd_ok {P : List It} (h : okP P) : okP (rnd P) := setF_ok h (fun i _ => grF_ok h _ i)
set_option maxHeartbeats 400000 in
theorem KO_rnd (P : List It) : KO P (rnd P) := KO_setF P _
set_option maxHeartbeats 400000 in
theorem KO_itr : ∀ k (P : List It), KO P (itr k P)
  | 0, P => KO.refl P
  | k + 1, P => (KO_itr k P).trans (KO_rnd _)
set_option maxHeartbeats 400000 in
theorem itr_ok {P : List It} (h : okP P) : ∀ k, okP (itr k P)
  | 0 => h
  | k + 1 => rnd_ok (itr_ok h k)
set_option maxHeartbeats 400000 in
theorem setF_self (P : List It) : setF P (fm P) = P := by
  apply it_ext (setF_len P _)
  intro i hi
  rw [setF_len] at hi
  obtain ⟨e1, e2, e3⟩ := setF_at P (fm P) i
  rw [e1, e2, e3, if_pos hi]
  exact ⟨rfl, rfl, rfl⟩
set_option maxHeartbeats 400000 in
theorem setF_congr {P : List It} {F G : Nat → Nat} (h : ∀ i, i < P.length → F i = G i) : setF P F = setF P G := by
  apply it_ext (by rw [setF_len, setF_len])
  intro i hi
  rw [setF_len] at hi
  rw [(setF_at P F i).1, (setF_at P G i).1, (setF_at P F i).2.1, (setF_at P G i).2.1, (setF_at P F i).2.2, (setF_at P G i).2.2, if_pos hi, if_pos hi, h i hi]
  exact ⟨rfl, rfl, rfl⟩
set_option maxHeartbeats 400000 in
theorem sF_mono {P Q : List It} : ∀ n, (∀ i, i < n → fm P i ≤ fm Q i) → sF P n ≤ sF Q n
  | 0, _ => Nat.le_refl _
  | n + 1, h => by have := sF_mono n (fun i hi => h i (by omega)); have := h n (by omega); rw [sF, sF]; omega
set_option maxHeartbeats 400000 in
theorem sF_lt {P Q : List It} : ∀ n, (∀ i, i < n → fm P i ≤ fm Q i) → (∃ i, i < n ∧ fm P i < fm Q i) → sF P n < sF Q n
  | 0, _, ⟨i, hi, _⟩ => absurd hi (Nat.not_lt_zero i)
  | n + 1, h, ⟨i, hi, hlt⟩ => by
    have h2 := h n (by omega)
    rw [sF, sF]
    by_cases e : i = n
    · subst e
      have := sF_mono i (fun j hj => h j (by omega))
      omega
    · have := sF_lt n (fun j hj => h j (by omega)) ⟨i, by omega, hlt⟩
      omega
set_option maxHeartbeats 400000 in
theorem sF_le {P : List It} (h : okP P) : ∀ n, sF P n ≤ 2 * n
  | 0 => Nat.le_refl _
  | n + 1 => by have := sF_le h n; have := (fm_T h n).1; rw [sF]; omega
set_option maxHeartbeats 400000 in
theorem sF_full {P : List It} (h : okP P) : ∀ n, 2 * n ≤ sF P n → ∀ i, i < n → fm P i = 2
  | 0, _, i, hi => absurd hi (Nat.not_lt_zero i)
  | n + 1, hs, i, hi => by
    have h1 := sF_le h n
    have h2 := (fm_T h n).1
    rw [sF] at hs
    by_cases e : i = n
    · subst e; omega
    · exact sF_full h n (by omega) i (by omega)
set_option maxHeartbeats 400000 in
theorem rnd_grows {P : List It} (h : okP P) (hm : msf P (fm P) ≠ 0) : sF P P.length < sF (rnd P) P.length := by
  have hex : ∃ i, i < P.length ∧ isT P i ∧ mis P (fm P) i := by
    apply Classical.byContradiction
    intro hno
    apply hm
    apply (cnt_zero _).mpr
    intro i hi
    rw [decide_eq_false_iff_not]
    exact fun hc => hno ⟨i, hi, hc⟩
  have key : ∀ i, i < P.length → fm (rnd P) i = grF P P.length i := fun i hi => by
    unfold rnd
    rw [(setF_at P _ i).2.2, if_pos hi]
  refine sF_lt _ (fun i hi => ?_) ?_
  · rw [key i hi]
    unfold grF
    split
    · rename_i hc; exact Nat.le_of_lt hc.2.2
    · exact Nat.le_refl _
  · obtain ⟨i, hi, ht, hmi⟩ := hex
    refine ⟨i, hi, ?_⟩
    rw [key i hi]
    unfold grF
    rw [if_pos ⟨hi, ht, hmi⟩]
    exact hmi
set_option maxHeartbeats 400000 in
theorem itr_grows {P : List It} (h : okP P) : ∀ k, (∀ j, j < k → msf (itr j P) (fm (itr j P)) ≠ 0) → k ≤ sF (itr k P) P.length
  | 0, _ => Nat.zero_le _
  | k + 1, hk => by
    have h1 := itr_grows h k (fun j hj => hk j (by omega))
    have h2 := rnd_grows (itr_ok h k) (hk k (by omega))
    rw [← (KO_itr k P).1] at h2
    show k + 1 ≤ sF (rnd (itr k P)) P.length
    omega
set_option maxHeartbeats 400000 in
/-- no more than 80 rounds change a form -/
theorem itr_end {P : List It} (h : okP P) {K : Nat} (hK : 80 ≤ K) (hk : ∀ j, j < K → msf (itr j P) (fm (itr j P)) ≠ 0) : msf (itr K P) (fm (itr K P)) = 0 := by
  have h1 := itr_grows h K hk
  have h2 := h.1
  have ok := itr_ok h K
  have hl := (KO_itr K P).1
  apply (cnt_zero _).mpr
  intro i hi
  rw [decide_eq_false_iff_not]
  rintro ⟨-, hm⟩
  have h3 := sF_full ok P.length (by omega) i (by omega)
  have h4 := ndF_le (dsp (itr K P) (fm (itr K P)) i)
  unfold mis at hm
  omega
set_option maxHeartbeats 400000 in
/-- a pass of shrinking over the items before n: the program, how many decreases were kept -/
def psS (Q : List It × Nat) (i : Nat) : List It × Nat :=
  if 0 < fm Q.1 i ∧ msf (stF Q.1 i (fm Q.1 i - 1)) (fm (stF Q.1 i (fm Q.1 i - 1))) = 0 then (stF Q.1 i (fm Q.1 i - 1), Q.2 + 1) else Q
set_option maxHeartbeats 400000 in
def psF (P : List It) : Nat → List It × Nat
  | 0 => (P, 0)
  | i + 1 => psS (psF P i) i
set_option maxHeartbeats 400000 in
/-- k passes -/
def psN : Nat → List It → List It × Nat
  | 0, P => (P, 0)
  | k + 1, P => ((psF (psN k P).1 P.length).1, (psN k P).2 + (psF (psN k P).1 P.length).2)
set_option maxHeartbeats 400000 in
theorem KO_psF (P : List It) : ∀ n, KO P (psF P n).1
  | 0 => KO.refl P
  | n + 1 => by
    have ih := KO_psF P n
    rw [psF, psS]
    split
    · exact ih.trans (KO_stF _ _ _)
    · exact ih
set_option maxHeartbeats 400000 in
theorem psF_ok {P : List It} (h : okP P) : ∀ n, okP (psF P n).1
  | 0 => h
  | n + 1 => by
    have ih := psF_ok h n
    rw [psF, psS]
    split
    · rename_i hc
      have := fm_T ih n
      refine stF_ok ih (by omega) ?_
      unfold isT at this
      omega
    · exact ih
set_option maxHeartbeats 400000 in
theorem KO_psN : ∀ k (P : List It), KO P (psN k P).1
  | 0, P => KO.refl P
  | k + 1, P => (KO_psN k P).trans (KO_psF _ _)
set_option maxHeartbeats 400000 in
theorem psN_ok {P : List It} (h : okP P) : ∀ k, okP (psN k P).1
  | 0 => h
  | k + 1 => psF_ok (psN_ok h k) _
set_option maxHeartbeats 400000 in
theorem sF_stF {P : List It} {i f : Nat} (hi : i < P.length) : ∀ n, i < n → n ≤ P.length → sF (stF P i f) n + fm P i = sF P n + f
  | 0, h, _ => absurd h (Nat.not_lt_zero i)
  | n + 1, h, hn => by
    rw [sF, sF, (stF_at P i f n).2.2]
    by_cases e : n = i
    · subst e
      rw [if_pos ⟨rfl, hi⟩]
      have : ∀ m, m ≤ n → sF (stF P n f) m = sF P m := by
        intro m
        induction m with
        | zero => intro _; rfl
        | succ m ih => intro hm; rw [sF, sF, ih (by omega), (stF_at P n f m).2.2, if_neg (by omega)]
      rw [this n (Nat.le_refl n)]
      omega
    · rw [if_neg (fun h => e h.1)]
      have := sF_stF (f := f) hi n (by omega) (by omega)
      omega
set_option maxHeartbeats 400000 in
theorem psF_sum {P : List It} : ∀ n, n ≤ P.length → sF (psF P n).1 P.length + (psF P n).2 = sF P P.length
  | 0, _ => rfl
  | n + 1, hn => by
    have ih := psF_sum (P := P) n (by omega)
    rw [psF, psS]
    split
    · rename_i hc
      have hl := (KO_psF P n).1
      have h2 := sF_stF (P := (psF P n).1) (i := n) (f := fm (psF P n).1 n - 1) (by omega) P.length (by omega) (by omega)
      dsimp only
      omega
    · exact ih
set_option maxHeartbeats 400000 in
theorem psN_sum {P : List It} : ∀ k, sF (psN k P).1 P.length + (psN k P).2 = sF P P.length
  | 0 => rfl
  | k + 1 => by
    have ih := psN_sum (P := P) k
    have hl := (KO_psN k P).1
    have h2 := psF_sum (P := (psN k P).1) P.length (by omega)
    rw [← hl] at h2
    rw [psN]
    dsimp only
    omega
set_option maxHeartbeats 400000 in
theorem psF_same {P : List It} : ∀ n, (psF P n).2 = 0 → (psF P n).1 = P
  | 0, _ => rfl
  | n + 1, h => by
    rw [psF, psS] at h ⊢
    split
    · rename_i hc
      rw [if_pos hc] at h
      simp at h
    · rename_i hc
      rw [if_neg hc] at h
      exact psF_same n h
end MATH3
section MATH3B
set_option maxHeartbeats 400000 in
theorem ite10 {p : Prop} [Decidable p] {z : Int} (h : z = if p then 1 else 0) : (z = 1 ∧ p) ∨ (z = 0 ∧ ¬ p) := by
  by_cases hp : p
  · rw [if_pos hp] at h; exact Or.inl ⟨h, hp⟩
  · rw [if_neg hp] at h; exact Or.inr ⟨h, hp⟩
set_option maxHeartbeats 400000 in
theorem cnt_s (p : Nat → Bool) (i : Nat) : ((cnt p (i + 1) : Nat) : Int) = (cnt p i : Int) + ((if p i = true then 1 else 0 : Nat) : Int) := by rw [cnt]; omega
set_option maxHeartbeats 400000 in
theorem cnt_s1 {p : Nat → Bool} {i : Nat} (h : p i = true) : ((cnt p (i + 1) : Nat) : Int) = (cnt p i : Int) + 1 := by rw [cnt, if_pos h]; omega
set_option maxHeartbeats 400000 in
theorem cnt_s0 {p : Nat → Bool} {i : Nat} (h : p i = false) : ((cnt p (i + 1) : Nat) : Int) = (cnt p i : Int) := by rw [cnt, h]; rfl
set_option maxHeartbeats 400000 in
/-- all forms short -/
def zF (P : List It) : List It := setF P (fun _ => 0)
set_option maxHeartbeats 400000 in
theorem zF_ok {P : List It} (h : okP P) : okP (zF P) := setF_ok h (fun i _ => ⟨Nat.zero_le _, fun _ => rfl⟩)
set_option maxHeartbeats 400000 in
theorem rnd_same {P : List It} (h : msf P (fm P) = 0) : rnd P = P := by
  unfold rnd
  rw [setF_congr (G := fm P) (fun i hi => ?_), setF_self]
  have h1 := (cnt_zero _).mp h i hi
  rw [decide_eq_false_iff_not] at h1
  unfold grF
  rw [if_neg (fun hc => h1 hc.2)]
set_option maxHeartbeats 400000 in
theorem udf_ko {P Q : List It} (h : KO P Q) : udf P = udf Q := by
  unfold udf
  rw [← h.1]
  apply cnt_congr
  intro i hi
  unfold isT
  rw [(h.2 i).1, (h.2 i).2, ko_dfn h]
set_option maxHeartbeats 400000 in
theorem grF_0 (P : List It) : setF P (grF P 0) = P := by
  rw [setF_congr (G := fm P) (fun i hi => ?_), setF_self]
  unfold grF
  rw [if_neg (fun hc => absurd hc.1 (Nat.not_lt_zero i))]
set_option maxHeartbeats 400000 in
theorem gr_yes {P : List It} {i : Nat} (hi : i < P.length) (ht : isT P i) (hm : mis P (fm P) i) : stF (setF P (grF P i)) i (ndF (dsp P (fm P) i)) = setF P (grF P (i + 1)) := by
  apply it_ext (by rw [stF_len, setF_len, setF_len])
  intro q hq
  rw [stF_len, setF_len] at hq
  rw [(stF_at _ _ _ q).1, (stF_at _ _ _ q).2.1, (stF_at _ _ _ q).2.2, (setF_at P _ q).1, (setF_at P _ q).2.1, (setF_at P _ q).2.2, (setF_at P _ q).1, (setF_at P _ q).2.1, (setF_at P _ q).2.2, setF_len, if_pos hq, if_pos hq]
  refine ⟨rfl, rfl, ?_⟩
  by_cases e : q = i
  · subst e
    rw [if_pos ⟨rfl, hq⟩]
    unfold grF
    rw [if_pos ⟨Nat.lt_succ_self q, ht, hm⟩]
  · rw [if_neg (fun h => e h.1)]
    unfold grF
    by_cases h1 : q < i ∧ isT P q ∧ mis P (fm P) q
    · rw [if_pos h1, if_pos ⟨by omega, h1.2⟩]
    · rw [if_neg h1, if_neg (fun h2 => h1 ⟨by omega, h2.2⟩)]
set_option maxHeartbeats 400000 in
theorem gr_no {P : List It} {i : Nat} (h : ¬ (isT P i ∧ mis P (fm P) i)) : setF P (grF P i) = setF P (grF P (i + 1)) := by
  apply setF_congr
  intro q hq
  unfold grF
  by_cases h1 : q < i ∧ isT P q ∧ mis P (fm P) q
  · rw [if_pos h1, if_pos ⟨by omega, h1.2⟩]
  · rw [if_neg h1, if_neg (fun h2 => ?_)]
    by_cases e : q = i
    · subst e; exact h h2.2
    · exact h1 ⟨by omega, h2.2⟩
set_option maxHeartbeats 400000 in
theorem stF_back {P : List It} {i f : Nat} (hi : i < P.length) : stF (stF P i f) i (fm P i) = P := by
  apply it_ext (by rw [stF_len, stF_len])
  intro q hq
  rw [stF_len, stF_len] at hq
  rw [(stF_at _ _ _ q).1, (stF_at _ _ _ q).2.1, (stF_at _ _ _ q).2.2, (stF_at _ _ _ q).1, (stF_at _ _ _ q).2.1, (stF_at _ _ _ q).2.2, stF_len]
  refine ⟨rfl, rfl, ?_⟩
  by_cases e : q = i
  · subst e; rw [if_pos ⟨rfl, hi⟩]
  · rw [if_neg (fun h => e h.1), if_neg (fun h => e h.1)]
set_option maxHeartbeats 400000 in
theorem psN_ge {P : List It} : ∀ k, (∀ j, j < k → (psF (psN j P).1 P.length).2 ≠ 0) → k ≤ (psN k P).2
  | 0, _ => Nat.zero_le _
  | k + 1, h => by
    have h1 := psN_ge k (fun j hj => h j (by omega))
    have h2 := h k (by omega)
    rw [psN]
    dsimp only
    omega
set_option maxHeartbeats 400000 in
theorem psN_top {P : List It} (h : okP P) (k : Nat) : (psN k P).2 ≤ 80 := by
  have h1 := psN_sum (P := P) k
  have h2 := sF_le h P.length
  have h3 := h.1
  omega
end MATH3B
