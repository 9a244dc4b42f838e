/-! Forms set one after another; all choices of forms -/
section MATH7
def mixF (P : List It) (G : Nat → Nat) (k : Nat) : Nat → Nat := fun q => if q < k then G q else fm P q
theorem mix_0 (P : List It) (G : Nat → Nat) : setF P (mixF P G 0) = P := by
  rw [show mixF P G 0 = fm P by funext q; unfold mixF; rw [if_neg (Nat.not_lt_zero _)]]
  exact setF_self P
theorem mix_all (P : List It) (G : Nat → Nat) : setF P (mixF P G P.length) = setF P G := setF_congr (fun i hi => by unfold mixF; rw [if_pos hi])
theorem mix_step {P : List It} {G : Nat → Nat} {k : Nat} (hk : k < P.length) : stF (setF P (mixF P G k)) k (G k) = setF P (mixF P G (k + 1)) := by
  apply it_ext (by rw [stF_len, setF_len, setF_len])
  intro i hi
  rw [stF_len, setF_len] at hi
  obtain ⟨a1, a2, a3⟩ := stF_at (setF P (mixF P G k)) k (G k) i
  obtain ⟨b1, b2, b3⟩ := setF_at P (mixF P G k) i
  obtain ⟨d1, d2, d3⟩ := setF_at P (mixF P G (k + 1)) i
  refine ⟨by rw [a1, b1, d1], by rw [a2, b2, d2], ?_⟩
  rw [a3, b3, d3, setF_len, if_pos hi, if_pos hi]
  unfold mixF
  by_cases h : i = k
  · subst h
    rw [if_pos ⟨rfl, hi⟩, if_pos (by omega)]
  · rw [if_neg (fun h9 => h h9.1)]
    by_cases h2 : i < k
    · rw [if_pos h2, if_pos (by omega)]
    · rw [if_neg h2, if_neg (by omega)]
theorem mix_ok {P : List It} {G : Nat → Nat} (h : okP P) (hG : ∀ i, i < P.length → G i ≤ 2 ∧ (¬ isT P i → G i = 0)) (k : Nat) : okP (setF P (mixF P G k)) := setF_ok h (fun i hi => by
  unfold mixF
  split
  · exact hG i hi
  · exact fm_T h i)
/-- a form is put: the reference's cells -/
theorem MP_mix {τ : Sg} {P : List It} {G : Nat → Nat} {k : Nat} (h : okP P) (hG : ∀ i, i < P.length → G i ≤ 2 ∧ (¬ isT P i → G i = 0)) (hk : k < P.length) (hM : MP τ (setF P (mixF P G k))) : MP (upd2 τ 71 (81 + (k : Int)) (G k : Int)) (setF P (mixF P G (k + 1))) := by
  rw [← mix_step hk]
  refine MP_stF hM (by rw [setF_len]; exact hk) ?_
  rw [mix_step hk]
  exact mix_ok h hG (k + 1)
/-- the forms of the choice c -/
def chF (P : List It) (c : Nat) : Nat → Nat := fun i => if isT P i then c / 3 ^ rT P (P.length - (i + 1)) % 3 else 0
theorem chF_ok (P : List It) (c : Nat) (i : Nat) : chF P c i ≤ 2 ∧ (¬ isT P i → chF P c i = 0) := by
  unfold chF
  split
  · rename_i h
    exact ⟨by have := Nat.mod_lt (c / 3 ^ rT P (P.length - (i + 1))) (show 0 < 3 by decide); omega, fun h9 => absurd h h9⟩
  · exact ⟨by omega, fun _ => rfl⟩
theorem ko_isT {P Q : List It} (h : KO P Q) (i : Nat) : isT P i ↔ isT Q i := by
  unfold isT
  rw [(h.2 i).1]
theorem ko_rT {P Q : List It} (h : KO P Q) : ∀ k, rT P k = rT Q k
  | 0 => rfl
  | k + 1 => by
    rw [rT, rT, ko_rT h k, ← h.1]
    by_cases h1 : isT P (P.length - (k + 1))
    · rw [if_pos h1, if_pos ((ko_isT h _).mp h1)]
    · rw [if_neg h1, if_neg (fun h9 => h1 ((ko_isT h _).mpr h9))]
theorem ko_chF {P Q : List It} (h : KO P Q) (c : Nat) : chF P c = chF Q c := by
  funext i
  unfold chF
  rw [← h.1, ko_rT h]
  by_cases h1 : isT P i
  · rw [if_pos h1, if_pos ((ko_isT h _).mp h1)]
  · rw [if_neg h1, if_neg (fun h9 => h1 ((ko_isT h _).mpr h9))]
theorem setF_setF (P : List It) (F G : Nat → Nat) : setF (setF P F) G = setF P G := by
  apply it_ext (by rw [setF_len, setF_len, setF_len])
  intro i hi
  obtain ⟨a1, a2, a3⟩ := setF_at (setF P F) G i
  obtain ⟨b1, b2, -⟩ := setF_at P F i
  obtain ⟨d1, d2, d3⟩ := setF_at P G i
  rw [setF_len] at a3
  exact ⟨by rw [a1, b1, d1], by rw [a2, b2, d2], by rw [a3, d3]⟩
theorem ko_nT {P Q : List It} (h : KO P Q) : nT P = nT Q := by
  unfold nT
  rw [← h.1]
  apply cnt_congr
  intro i _
  rw [decide_eq_decide]
  exact ko_isT h i
theorem ko_dsp {P Q : List It} (h : KO P Q) {F G : Nat → Nat} (hF : ∀ i, i < P.length → F i = G i) {i : Nat} (hi : i < P.length) : dsp P F i = dsp Q G i := by
  unfold dsp
  have hd := dfn_lt P (op P i) P.length
  rw [ko_dfn h, ← h.1, (h.2 i).2]
  rw [ko_dfn h, (h.2 i).2] at hd
  rw [ko_ad0 h, ko_ad0 h, ad0_congr (P := Q) (F := F) (G := G) (i + 1) (fun q hq => hF q (by omega)), ad0_congr (P := Q) (F := F) (G := G) _ (fun q hq => hF q (by omega))]
theorem ko_msf {P Q : List It} (h : KO P Q) {F G : Nat → Nat} (hF : ∀ i, i < P.length → F i = G i) : msf P F = msf Q G := by
  unfold msf
  rw [← h.1]
  apply cnt_congr
  intro i hi
  rw [decide_eq_decide]
  unfold mis
  rw [ko_dsp h hF hi, hF i hi]
  exact and_congr_left (fun _ => ko_isT h i)
theorem msf_setF (P : List It) (F : Nat → Nat) : msf (setF P F) (fm (setF P F)) = msf P F := by
  symm
  exact ko_msf (KO_setF P F) (fun i hi => by rw [(setF_at P F i).2.2, if_pos hi])
theorem tot_setF (P : List It) (F : Nat → Nat) : tot (setF P F) (fm (setF P F)) = tot P F := by
  unfold tot
  have h := (KO_setF P F).symm
  rw [setF_len, ko_ad0 h, ko_vals h, ad0_congr (P := P) (F := fm (setF P F)) (G := F) _ (fun i hi => by rw [(setF_at P F i).2.2, if_pos hi])]
def fo (g : Nat → Ac → Ac) : Nat → Ac → Ac
  | 0, A => A
  | n + 1, A => g n (fo g n A)
theorem fo_add (g : Nat → Ac → Ac) (a : Nat) : ∀ b (A : Ac), fo g (a + b) A = fo (fun c => g (a + c)) b (fo g a A)
  | 0, A => rfl
  | b + 1, A => by
    rw [← Nat.add_assoc, fo, fo, fo_add g a b A]
theorem fo_congr {g h : Nat → Ac → Ac} : ∀ n (A : Ac), (∀ c, c < n → g c = h c) → fo g n A = fo h n A
  | 0, A, _ => rfl
  | n + 1, A, hh => by rw [fo, fo, fo_congr n A (fun c hc => hh c (by omega)), hh n (by omega)]
theorem rT_mono (P : List It) {a b : Nat} (h : a ≤ b) : rT P a ≤ rT P b := by
  induction h with
  | refl => exact Nat.le_refl _
  | step _ ih => rw [rT]; omega
theorem dig_hi {r s f c : Nat} (hs : s < r) (hc : c < 3 ^ r) : (f * 3 ^ r + c) / 3 ^ s % 3 = c / 3 ^ s % 3 := by
  obtain ⟨d, rfl⟩ : ∃ d, r = s + 1 + d := ⟨r - (s + 1), by omega⟩
  have e : f * 3 ^ (s + 1 + d) = (f * 3 ^ d * 3) * 3 ^ s := by
    rw [Nat.pow_add, Nat.pow_succ]
    simp only [Nat.mul_comm, Nat.mul_left_comm, Nat.mul_assoc]
  rw [e, Nat.add_comm, Nat.add_mul_div_right _ _ (Nat.pow_pos (by decide)), Nat.add_mul_mod_self_right]
theorem dig_at {r f c : Nat} (hf : f ≤ 2) (hc : c < 3 ^ r) : (f * 3 ^ r + c) / 3 ^ r % 3 = f := by
  rw [Nat.add_comm, Nat.add_mul_div_right _ _ (Nat.pow_pos (by decide)), Nat.div_eq_of_lt hc]
  omega
/-- the search goes through all choices -/
theorem ext_fo {P : List It} : ∀ k (F : Nat → Nat) (A : Ac), k ≤ P.length → (∀ q, P.length - k ≤ q → F q = 0) → ext P k F A = fo (fun c => kpA P (fun q => if P.length - k ≤ q then chF P c q else F q)) (3 ^ rT P k) A
  | 0, F, A, _, hF => by
    rw [ext, rT, Nat.pow_zero, fo, fo]
    congr 1
    funext q
    split
    · rename_i h
      rw [hF q h]
      unfold chF
      rw [if_neg]
      unfold isT
      rw [(ok_out (P := P) (i := q) (by omega)).1]
      decide
    · rfl
  | k + 1, F, A, hk, hF => by
    rw [ext]
    obtain ⟨i, hi⟩ : ∃ i, P.length - (k + 1) = i := ⟨_, rfl⟩
    have hik : P.length - k = i + 1 := by omega
    rw [hi]
    rw [hi] at hF
    by_cases h : isT P i
    · rw [if_pos h]
      have hr : rT P (k + 1) = rT P k + 1 := by rw [rT, hi, if_pos h]
      have ih := fun (f : Nat) (A : Ac) => ext_fo (P := P) k (upF F i f) A (by omega) (fun q hq => by unfold upF; rw [if_neg (by omega)]; exact hF q (by omega))
      rw [ih 0, ih 1, ih 2, hr, Nat.pow_succ, show 3 ^ rT P k * 3 = 3 ^ rT P k + 3 ^ rT P k + 3 ^ rT P k by omega, fo_add, fo_add]
      have key : ∀ f, f ≤ 2 → ∀ c, c < 3 ^ rT P k → (fun q => if P.length - k ≤ q then chF P c q else upF F i f q) = (fun q => if i ≤ q then chF P (f * 3 ^ rT P k + c) q else F q) := by
        intro f hf c hc
        funext q
        rw [hik]
        rcases Nat.lt_trichotomy q i with h1 | h1 | h1
        · rw [if_neg (by omega), if_neg (by omega)]
          unfold upF
          rw [if_neg (by omega)]
        · subst h1
          rw [if_neg (by omega), if_pos (Nat.le_refl _)]
          unfold upF chF
          rw [if_pos rfl, if_pos h, show P.length - (q + 1) = k by omega, dig_at hf hc]
        · rw [if_pos (by omega), if_pos (by omega)]
          unfold chF
          by_cases hq : isT P q
          · rw [if_pos hq, if_pos hq]
            have hql : q < P.length := by
              rcases Nat.lt_or_ge q P.length with h2 | h2
              · exact h2
              · unfold isT at hq
                rw [(ok_out (P := P) h2).1] at hq
                omega
            have hlt : rT P (P.length - (q + 1)) < rT P k := by
              have h3 := rT_mono P (show P.length - (q + 1) + 1 ≤ k by omega)
              rw [rT, show P.length - (P.length - (q + 1) + 1) = q by omega, if_pos hq] at h3
              omega
            exact (dig_hi hlt hc).symm
          · rw [if_neg hq, if_neg hq]
      rw [fo_congr (g := fun c => kpA P (fun q => if i ≤ q then chF P c q else F q)) (h := fun c => kpA P (fun q => if P.length - k ≤ q then chF P c q else upF F i 0 q)) (3 ^ rT P k) A (fun c hc => by rw [key 0 (by omega) c hc]; simp)]
      rw [fo_congr (g := fun c => kpA P (fun q => if i ≤ q then chF P (3 ^ rT P k + c) q else F q)) (h := fun c => kpA P (fun q => if P.length - k ≤ q then chF P c q else upF F i 1 q)) (3 ^ rT P k) _ (fun c hc => by rw [key 1 (by omega) c hc]; simp)]
      rw [fo_congr (g := fun c => kpA P (fun q => if i ≤ q then chF P (3 ^ rT P k + 3 ^ rT P k + c) q else F q)) (h := fun c => kpA P (fun q => if P.length - k ≤ q then chF P c q else upF F i 2 q)) (3 ^ rT P k) _ (fun c hc => by rw [key 2 (by omega) c hc, show 2 * 3 ^ rT P k = 3 ^ rT P k + 3 ^ rT P k by omega])]
    · rw [if_neg h]
      have hr : rT P (k + 1) = rT P k := by rw [rT, hi, if_neg h]; rfl
      rw [ext_fo k F A (by omega) (fun q hq => hF q (by omega)), hr]
      apply fo_congr
      intro c _
      congr 1
      funext q
      rw [hik]
      by_cases h1 : q = i
      · subst h1
        rw [if_neg (by omega), if_pos (Nat.le_refl _), hF q (Nat.le_refl _)]
        unfold chF
        rw [if_neg h]
      · by_cases h2 : i + 1 ≤ q
        · rw [if_pos h2, if_pos (by omega)]
        · rw [if_neg h2, if_neg (by omega)]
def acc (P : List It) (n : Nat) : Ac := fo (fun c => kpA P (chF P c)) n (0, 0, fun _ => 0)
theorem rT_nT (P : List It) : rT P P.length = nT P := by
  have h := rT_cnt (P := P) P.length (Nat.le_refl _)
  rw [Nat.sub_self] at h
  exact h
theorem acc_res (P : List It) : acc P (3 ^ nT P) = resA P := by
  unfold acc resA
  rw [ext_fo P.length _ _ (Nat.le_refl _) (fun _ _ => rfl), rT_nT]
  apply fo_congr
  intro c _
  congr 1
  funext q
  rw [if_pos (by omega)]
theorem dig_top {m s : Nat} (h : s < m) : (3 ^ m - 1) / 3 ^ s % 3 = 2 := by
  obtain ⟨d, rfl⟩ : ∃ d, m = s + 1 + d := ⟨m - (s + 1), by omega⟩
  have hp : 0 < 3 ^ s := Nat.pow_pos (by decide)
  have hq : 0 < 3 ^ d := Nat.pow_pos (by decide)
  obtain ⟨x, hx⟩ : ∃ x, 3 ^ s = x := ⟨_, rfl⟩
  obtain ⟨y, hy⟩ : ∃ y, 3 ^ d = y + 1 := ⟨3 ^ d - 1, by omega⟩
  have e : 3 ^ (s + 1 + d) - 1 = (x - 1) + (3 * y + 2) * x := by
    rw [Nat.pow_add, Nat.pow_succ, hx, hy]
    have e1 : x * 3 * (y + 1) = (3 * y + 2) * x + x := by
      rw [Nat.mul_assoc, Nat.mul_comm x, Nat.add_mul, Nat.mul_add]
      have : (3 * y + 3) * x = (3 * y) * x + 3 * x := Nat.add_mul _ _ _
      have : 2 * x + x = 3 * x := by omega
      rw [show 3 * y + 3 * 1 = 3 * y + 3 by omega]
      omega
    omega
  rw [e, hx, Nat.add_mul_div_right _ _ (by omega), Nat.div_eq_of_lt (by omega)]
  omega
theorem acc_pos {P : List It} : ∀ n, (acc P n).1 ≤ (acc P (n + 1)).1 := by
  intro n
  show _ ≤ (kpA P (chF P n) (acc P n)).1
  unfold kpA
  split
  · exact Nat.le_succ _
  · exact Nat.le_refl _
theorem res_pos {P : List It} : 0 < (resA P).1 := by
  rw [← acc_res]
  obtain ⟨n, hn⟩ : ∃ n, 3 ^ nT P = n + 1 := ⟨3 ^ nT P - 1, by have : 0 < 3 ^ nT P := Nat.pow_pos (by decide); omega⟩
  rw [hn]
  show 0 < (kpA P (chF P n) (acc P n)).1
  have hm : msf P (chF P n) = 0 := by
    unfold msf
    rw [cnt_zero]
    intro i hi
    rw [decide_eq_false_iff_not]
    rintro ⟨ht, h2⟩
    unfold mis chF at h2
    rw [if_pos ht, show n = 3 ^ nT P - 1 by omega, dig_top] at h2
    · have := ndF_le (dsp P (chF P (3 ^ nT P - 1)) i)
      unfold chF at this
      omega
    · rw [← rT_nT]
      have h3 := rT_mono P (show P.length - (i + 1) + 1 ≤ P.length by omega)
      rw [rT, show P.length - (P.length - (i + 1) + 1) = i by omega, if_pos ht] at h3
      omega
  unfold kpA
  rw [if_pos hm]
  exact Nat.succ_pos _
/-- what is kept of the choices up to n -/
def keptC (P : List It) (σ : Sg) (n : Nat) : Prop := σ 70 20 = ((acc P n).1 : Int) ∧ (acc P n).1 ≤ n ∧ (((acc P n).1 = 0 ∧ σ 70 18 = -1) ∨ (0 < (acc P n).1 ∧ σ 70 19 = ((acc P n).2.1 : Int) ∧ ∃ b : Nat, b < n ∧ σ 70 18 = (b : Int) ∧ (acc P n).2.2 = chF P b))
theorem acc_s (P : List It) (n : Nat) : acc P (n + 1) = kpA P (chF P n) (acc P n) := rfl
theorem acc_tot {P : List It} (h : okP P) : ∀ n, (acc P n).2.1 ≤ 5000
  | 0 => Nat.zero_le _
  | n + 1 => by
    rw [acc_s]
    unfold kpA
    have := acc_tot h n
    have := tot_le h (chF P n)
    split
    · dsimp only
      split
      · assumption
      · assumption
    · assumption
end MATH7
