/-! FormSearch: its beginning, its end; Links.valueOf -/
/-- what the search finds -/
def resA (P : List It) : Ac := ext P P.length (fun _ => 0) (0, 0, fun _ => 0)
theorem okA_0 (P : List It) : okA P (0, 0, fun _ => 0) := ⟨Nat.zero_le _, fun q => ⟨Nat.zero_le _, fun _ => rfl⟩⟩
theorem resA_ok {P : List It} (h : okP P) (h8 : cnt (fun i => decide (isT P i)) P.length ≤ 8) : okA P (resA P) ∧ (resA P).1 ≤ 6561 := by
  have h1 := ext_ok h P.length (fun _ => 0) (0, 0, fun _ => 0) (Nat.le_refl _) (fun q => ⟨Nat.zero_le _, fun _ => rfl⟩) (okA_0 P)
  have h2 := rT_cnt (P := P) P.length (Nat.le_refl _)
  have h3 : 3 ^ rT P P.length ≤ 3 ^ 8 := Nat.pow_le_pow_right (by decide) (by omega)
  refine ⟨h1.1, ?_⟩
  have h4 := h1.2
  unfold resA
  omega
def FQ (σ : Sg) (A : Ac) : Prop := σ 63 6 = (A.1 : Int) ∧ σ 63 7 = (A.2.1 : Int) ∧ ∀ q : Nat, q < 40 → σ 66 (q : Int) = (A.2.2 q : Int)
/-- the load that first has the literal numbered x of the pool at q -/
theorem lit_ex {P : List It} : ∀ q x, x < (vals P q).length → ∃ i, i < q ∧ kd P i = 6 ∧ pno P i = pno P q ∧ lix P i = x ∧ (vals P q)[x]? = some (op P i)
  | 0, x, h => by simp [vals] at h
  | q + 1, x, h => by
    by_cases h7 : kd P q = 7
    · rw [vals, if_pos h7] at h
      simp at h
    · have ep : pno P (q + 1) = pno P q := by rw [pno, if_neg h7]; rfl
      by_cases h6 : kd P q = 6 ∧ op P q ∉ vals P q
      · have ev : vals P (q + 1) = vals P q ++ [op P q] := by rw [vals, if_neg h7, if_pos h6]
        by_cases hx : x < (vals P q).length
        · obtain ⟨i, a, b, c, d, e⟩ := lit_ex q x hx
          exact ⟨i, by omega, b, by rw [ep]; exact c, d, by rw [ev, List.getElem?_append_left hx]; exact e⟩
        · rw [ev] at h
          simp at h
          have ex : x = (vals P q).length := by omega
          refine ⟨q, by omega, h6.1, by rw [ep], ?_, ?_⟩
          · unfold lix
            rw [ev, List.idxOf_append, if_neg h6.2, ex]; simp
          · rw [ev, ex, List.getElem?_append_right (Nat.le_refl _)]; simp
      · have ev : vals P (q + 1) = vals P q := by rw [vals, if_neg h7, if_neg h6]
        rw [ev] at h
        obtain ⟨i, a, b, c, d, e⟩ := lit_ex q x h
        exact ⟨i, by omega, b, by rw [ep]; exact c, d, by rw [ev]; exact e⟩
theorem vals_pre {P : List It} {i : Nat} : ∀ q, i ≤ q → pno P q = pno P i → ∃ r, vals P q = vals P i ++ r
  | 0, h, _ => ⟨[], by rw [show i = 0 by omega]; simp⟩
  | q + 1, h, hp => by
    by_cases e : i = q + 1
    · exact ⟨[], by rw [e]; simp⟩
    · have hm := pno_mono P (i := i) (j := q) (by omega)
      rw [pno] at hp
      by_cases h7 : kd P q = 7
      · rw [if_pos h7] at hp; omega
      · rw [if_neg h7] at hp
        obtain ⟨r, hr⟩ := vals_pre q (by omega) hp
        by_cases h6 : kd P q = 6 ∧ op P q ∉ vals P q
        · exact ⟨r ++ [op P q], by rw [vals, if_neg h7, if_pos h6, hr, List.append_assoc]⟩
        · exact ⟨r, by rw [vals, if_neg h7, if_neg h6, hr]⟩
theorem load_in {P : List It} {i : Nat} (h6 : kd P i = 6) : op P i ∈ vals P (i + 1) := by
  rw [vals, if_neg (by omega)]
  split
  · simp
  · rename_i h
    apply Classical.byContradiction
    intro hn
    exact h ⟨h6, hn⟩
/-- any load with that number has that value -/
theorem lit_val {P : List It} {i q : Nat} (h6 : kd P i = 6) (hq : i < q) (hp : pno P i = pno P q) : (vals P q)[lix P i]? = some (op P i) ∧ (vals P q).idxOf (op P i) = lix P i := by
  have hp1 : pno P (i + 1) = pno P i := by rw [pno, if_neg (by omega)]; rfl
  obtain ⟨r, hr⟩ := vals_pre (P := P) (i := i + 1) q (by omega) (by omega)
  have hin := load_in h6
  have hlt : (vals P (i + 1)).idxOf (op P i) < (vals P (i + 1)).length := List.idxOf_lt_length_iff.mpr hin
  unfold lix
  rw [hr]
  refine ⟨?_, by rw [List.idxOf_append, if_pos hin]⟩
  rw [List.getElem?_append_left hlt, List.getElem?_eq_getElem hlt, List.getElem_idxOf]
set_option maxRecDepth 20000 in
set_option maxHeartbeats 400000 in
theorem c_X1_run (g : Gm) (l : Launch) {σ : Sg} {P : List It} (hP : PR σ 0 P) (hL : LR σ P) (hu : udf P = 0) (h8 : cnt (fun i => decide (isT P i)) P.length ≤ 8) : KV g l yX1_run cX1_run 1 (22) 0 0 [.inr 63] σ (fun σ' => FQ σ' (resA P) ∧ SO σ σ' 63 66) := by
  refine startV (own := RX1) (by decide +kernel) rfl (Nat.le_of_ble_eq_true rfl) ?_
  intro X hx _ _ hret
  obtain ⟨hok, hc, hg9⟩ := id hP
  have hn := hok.1
  refine gx_aload_n hx dX1_run_0 rfl ?_
  refine gx_iconst hx dX1_run_1 ?_
  refine gx_put hx fpX1_21 dX1_run_2 (by decide) rfl rfl rfl rfl 6 rfl ?_
  refine gx_aload_n hx dX1_run_5 rfl ?_
  refine gx_iconst hx dX1_run_6 ?_
  refine gx_put hx fpX1_25 dX1_run_7 (by decide) rfl rfl rfl rfl 7 rfl ?_
  refine gx_aload_n hx dX1_run_10 rfl ?_
  refine gx_getR hx flX1_15 dX1_run_11 (by decide) rfl rfl ?_
  refine gx_iconst hx dX1_run_14 ?_
  refine gx_callSV hx (c_J7_fill_53178 (n := 40) _ _ (by decide) rfl (by decide)) lkX1_50 mwJ7_fill_53178 dX1_run_15 rfl rfl (Nat.le_of_ble_eq_true rfl) (by decide) ⟨by decide, by decide⟩ (fun σ_15 hz_15 => ?_)
  obtain rfl := hz_15
  refine gx_aload_n hx dX1_run_18 rfl ?_
  refine gx_getR hx flX1_18 dX1_run_19 (by decide) rfl rfl ?_
  refine gx_iconst hx dX1_run_22 ?_
  refine gx_callSV hx (c_J7_fill_53178 (n := 40) _ _ (by decide) rfl (by decide)) lkX1_50 mwJ7_fill_53178 dX1_run_23 rfl rfl (Nat.le_of_ble_eq_true rfl) (by decide) ⟨by decide, by decide⟩ (fun σ_23 hz_23 => ?_)
  obtain ⟨σ1, es1⟩ : ∃ s, s = σ_23 := ⟨_, rfl⟩
  rw [← es1]
  rw [hz_23] at es1
  have hs1 : SO σ σ1 63 66 := by
    intro k hk
    funext q
    rw [es1]
    dsimp only
    rw [if_neg (by omega), if_neg (by omega), upd2_ne (by omega), upd2_ne (by omega)]
  have hr8 : rT P (P.length - 0) ≤ 8 := by
    have h2 := rT_cnt (P := P) P.length (Nat.le_refl _)
    rw [Nat.sub_zero]
    omega
  have hb1 : FB σ1 P (fun _ => 0) 0 (0, 0, fun _ => 0) := by
    refine ⟨fun q hq => absurd hq (Nat.not_lt_zero q), fun q hq _ => ?_, ?_, ?_, fun q hq => ?_⟩
    · rw [es1]; dsimp only; rw [if_neg (by omega), if_pos (by omega)]; rfl
    · rw [es1]; dsimp only; rw [if_neg (by omega), if_neg (by omega), upd2_ne (by decide), upd2_at]; rfl
    · rw [es1]; dsimp only; rw [if_neg (by omega), if_neg (by omega), upd2_at]; rfl
    · rw [es1]; dsimp only; rw [if_pos (by omega)]; rfl
  refine gx_aload_n hx dX1_run_26 rfl ?_
  refine gx_iconst hx dX1_run_27 ?_
  refine gx_iconst hx dX1_run_28 ?_
  refine gx_iconst hx dX1_run_29 ?_
  refine gx_callV hx (try_all 8 _ _ σ1 P (fun _ => 0) (0, 0, fun _ => 0) 0 0 (hP.so hs1 (by decide)) (hL.so (fun k a1 a2 => hs1 k (by omega))) hu (Nat.zero_le _) ⟨fun q _ => rfl, fun q _ => rfl, fun q => Nat.zero_le _⟩ (fun t ht => absurd ht (Nat.not_lt_zero t)) hb1 (okA_0 P) (by decide) hr8 (by omega)) lkX1_56 mwX1_tryFrom dX1_run_30 (by decide) rfl rfl rfl rfl (Nat.le_of_ble_eq_true rfl) (by decide) ⟨by decide, by decide⟩ (fun σ_30 hz_30 => ?_)
  obtain ⟨⟨q1, q2, q3, q4, q5⟩, q6⟩ := hz_30
  refine hret _ _ _ _ _ (by decide) (by decide) dX1_run_33 ?_
  exact ⟨⟨q3, q4, q5⟩, hs1.trans q6⟩
set_option maxRecDepth 20000 in
set_option maxHeartbeats 400000 in
theorem c_X1_choicesFound (g : Gm) (l : Launch) {σ : Sg} {A : Ac} (hq : FQ σ A) : KI g l yX1_choicesFound cX1_choicesFound 1 ((some .int)) (0) 0 0 [.inr 63] σ (fun r σ' => r = (A.1 : Int) ∧ σ = σ') := by
  refine startI (own := RX1) (by decide +kernel) rfl (Nat.le_of_ble_eq_true rfl) ?_
  intro X hx _ _ hret
  refine gx_aload_n hx dX1_choicesFound_0 rfl ?_
  refine gx_getI hx flX1_21 dX1_choicesFound_1 (by decide) rfl rfl 6 rfl ?_
  refine hret _ _ _ _ _ _ _ (by decide) (by decide) dX1_choicesFound_4 rfl rfl ?_
  exact ⟨hq.1, rfl⟩
set_option maxRecDepth 20000 in
set_option maxHeartbeats 400000 in
theorem c_X1_least (g : Gm) (l : Launch) {σ : Sg} {A : Ac} (hq : FQ σ A) : KI g l yX1_least cX1_least 1 ((some .int)) (0) 0 0 [.inr 63] σ (fun r σ' => r = (A.2.1 : Int) ∧ σ = σ') := by
  refine startI (own := RX1) (by decide +kernel) rfl (Nat.le_of_ble_eq_true rfl) ?_
  intro X hx _ _ hret
  refine gx_aload_n hx dX1_least_0 rfl ?_
  refine gx_getI hx flX1_25 dX1_least_1 (by decide) rfl rfl 7 rfl ?_
  refine hret _ _ _ _ _ _ _ (by decide) (by decide) dX1_least_4 rfl rfl ?_
  exact ⟨hq.2.1, rfl⟩
set_option maxRecDepth 20000 in
set_option maxHeartbeats 400000 in
theorem c_X1_takeBest (g : Gm) (l : Launch) {σ : Sg} {P : List It} {A : Ac} (hP : PR σ 0 P) (hq : FQ σ A) (hA : okA P A) : KV g l yX1_takeBest cX1_takeBest 2 (2) 0 0 [.inr 63] σ (fun σ' => PR σ' 0 (setF P A.2.2) ∧ SO σ σ' 0 3) := by
  refine startV (own := RX1) (by decide +kernel) rfl (Nat.le_of_ble_eq_true rfl) ?_
  intro X hx _ _ hret
  obtain ⟨hok, hc, hg9⟩ := id hP
  have hn := hok.1
  refine gx_iconst hx dX1_takeBest_0 ?_
  refine gx_istore_n hx dX1_takeBest_1 (Nat.le_of_ble_eq_true rfl) ?_
  refine gx_loop (α := Nat × Sg) (fun x => x.1 ≤ P.length ∧ PR x.2 0 (setF P (fun q => if q < x.1 then A.2.2 q else fm P q)) ∧ SO σ x.2 0 3) (fun x => P.length - x.1) (fun x => [some (.inr 63), some (.inl (x.1 : Int))]) (fun _ => []) (fun x => x.2) ?_ (0, σ) ⟨Nat.zero_le _, by dsimp only; rw [setF_congr (G := fm P) (fun i _ => by rw [if_neg (Nat.not_lt_zero i)]), setF_self]; exact hP, SO.refl⟩
  rintro ⟨i, τ⟩ ⟨hi, hPt, hso⟩ ih
  dsimp only at hi hPt hso ih ⊢
  refine gx_iload_n hx dX1_takeBest_2 rfl ?_
  refine gx_aload_n hx dX1_takeBest_3 rfl ?_
  refine gx_getR hx flX1_28 dX1_takeBest_4 (by decide) rfl rfl ?_
  refine gx_callI hx (c_X6_count (j := 0) _ _ (by decide) hPt) lkX1_40 mwX6_count dX1_takeBest_7 (by decide) rfl rfl rfl rfl (Nat.le_of_ble_eq_true rfl) (by decide) ⟨by decide, by decide⟩ (fun z_7 σ_7 hz_7 => ?_)
  obtain ⟨e9, rfl⟩ := hz_7
  rw [setF_len] at e9
  subst e9
  refine gx_icmp_ge (tgt := 33) hx dX1_takeBest_10 (by decide) ⟨by omega, by omega⟩ ⟨by omega, by omega⟩ (fun h10 => ?_) (fun h10 => ?_)
  · first
    | (exfalso; omega)
    | (refine hret _ _ _ _ _ (by decide) (by decide) dX1_takeBest_33 ?_
       have ei : i = P.length := by omega
       subst ei
       rw [setF_congr (G := A.2.2) (fun q hq => by rw [if_pos hq])] at hPt
       exact ⟨hPt, hso⟩)
  · first
    | (exfalso; omega)
    | (refine gx_aload_n hx dX1_takeBest_13 rfl ?_
       refine gx_getR hx flX1_28 dX1_takeBest_14 (by decide) rfl rfl ?_
       refine gx_iload_n hx dX1_takeBest_17 rfl ?_
       refine gx_aload_n hx dX1_takeBest_18 rfl ?_
       refine gx_getR hx flX1_18 dX1_takeBest_19 (by decide) rfl rfl ?_
       refine gx_iload_n hx dX1_takeBest_22 rfl ?_
       refine gx_iald hx dX1_takeBest_23 (by decide) rfl (by omega) (by omega) (by decide) ?_
       rw [show τ 66 (i : Int) = (A.2.2 i : Int) by rw [hso 66 (by omega)]; exact hq.2.2 i (by omega)]
       have hT9 : kd (setF P (fun q => if q < i then A.2.2 q else fm P q)) i = 4 ∨ kd (setF P (fun q => if q < i then A.2.2 q else fm P q)) i = 5 ∨ A.2.2 i = 0 := by
         rw [(setF_at P _ i).1]
         by_cases h : isT P i
         · unfold isT at h; omega
         · exact Or.inr (Or.inr ((hA.2 i).2 h))
       refine gx_callV hx (c_X6_putForm (j := 0) (i := i) (f := A.2.2 i) _ _ (by decide) hPt (by rw [setF_len]; omega) (hA.2 i).1 hT9) lkX1_46 mwX6_putForm dX1_takeBest_24 (by decide) rfl rfl rfl rfl (Nat.le_of_ble_eq_true rfl) (by decide) ⟨by decide, by decide⟩ (fun σ_24 hz_24 => ?_)
       obtain ⟨q1, q2⟩ := hz_24
       have e8 : stF (setF P (fun q => if q < i then A.2.2 q else fm P q)) i (A.2.2 i) = setF P (fun q => if q < i + 1 then A.2.2 q else fm P q) := by
         apply it_ext (by rw [stF_len, setF_len, setF_len])
         intro q hq
         rw [stF_len, setF_len] at hq
         rw [(stF_at _ _ _ q).1, (stF_at _ _ _ q).2.1, (stF_at _ _ _ q).2.2, (setF_at P _ q).1, (setF_at P _ q).2.1, (setF_at P _ q).2.2, (setF_at P _ q).1, (setF_at P _ q).2.1, (setF_at P _ q).2.2, setF_len, if_pos hq, if_pos hq]
         refine ⟨rfl, rfl, ?_⟩
         by_cases e : q = i
         · subst e
           rw [if_pos ⟨rfl, hq⟩, if_pos (by omega)]
         · rw [if_neg (fun h => e h.1)]
           by_cases h1 : q < i
           · rw [if_pos h1, if_pos (by omega)]
           · rw [if_neg h1, if_neg (by omega)]
       rw [e8] at q1
       refine gx_iinc hx dX1_takeBest_27 (Nat.le_of_ble_eq_true rfl) rfl ?_
       refine gx_goto (tgt := 2) hx dX1_takeBest_30 (by decide) ?_
       exact ih (i + 1, _) ⟨by omega, q1, hso.trans q2⟩ (by dsimp only; omega))
set_option maxRecDepth 20000 in
set_option maxHeartbeats 400000 in
theorem c_X5_valueOf (g : Gm) (l : Launch) {σ : Sg} {P : List It} {q x v : Nat} (hP : PR σ 0 P) (hL : LR σ P) (hq : q ≤ P.length) (h7 : kd P q = 7) (hv : (vals P q)[x]? = some v) : KI g l yX5_valueOf cX5_valueOf 4 ((some .int)) (1) 0 0 [.inr 52, .inl (pno P q : Int), .inl (x : Int)] σ (fun r σ' => r = (v : Int) ∧ σ = σ') := by
  refine startI (own := RX5) (by decide +kernel) rfl (Nat.le_of_ble_eq_true rfl) ?_
  intro X hx _ _ hret
  obtain ⟨hok, hc, hg9⟩ := id hP
  have hn := hok.1
  obtain ⟨l1, l2, l3, l4, l5⟩ := id hL
  have hxl : x < (vals P q).length := (List.getElem?_eq_some_iff.mp hv).1
  have hvl := vals_le hok hq
  have hpq := pno_le P q
  refine gx_iconst hx dX5_valueOf_0 ?_
  refine gx_istore_n hx dX5_valueOf_1 (Nat.le_of_ble_eq_true rfl) ?_
  refine gx_loop (α := Nat) (fun i => i ≤ P.length ∧ ∀ t, t < i → ¬ (kd P t = 6 ∧ pno P t = pno P q ∧ lix P t = x)) (fun i => P.length - i) (fun i => [some (.inr 52), some (.inl (pno P q : Int)), some (.inl (x : Int)), some (.inl (i : Int))]) (fun _ => []) (fun _ => σ) ?_ 0 ⟨Nat.zero_le _, fun t ht => absurd ht (Nat.not_lt_zero t)⟩
  rintro i ⟨hi, hno⟩ ih
  have hb := hok.2.1 i
  unfold okI at hb
  refine gx_iload_n hx dX5_valueOf_2 rfl ?_
  refine gx_aload_n hx dX5_valueOf_3 rfl ?_
  refine gx_getR hx flX5_37 dX5_valueOf_4 (by decide) rfl rfl ?_
  refine gx_callI hx (c_X6_count (j := 0) _ _ (by decide) hP) lkX5_47 mwX6_count dX5_valueOf_7 (by decide) rfl rfl rfl rfl (Nat.le_of_ble_eq_true rfl) (by decide) ⟨by decide, by decide⟩ (fun z_7 σ_7 hz_7 => ?_)
  obtain ⟨rfl, rfl⟩ := hz_7
  refine gx_icmp_ge (tgt := 61) hx dX5_valueOf_10 (by decide) ⟨by omega, by omega⟩ ⟨by omega, by omega⟩ (fun h10 => ?_) (fun h10 => ?_)
  · first
    | (exfalso; omega)
    | (refine gx_iconst hx dX5_valueOf_61 ?_
       refine hret _ _ _ _ _ _ _ (by decide) (by decide) dX5_valueOf_62 rfl rfl ?_
       exfalso
       obtain ⟨i2, a, b, c, d, e⟩ := lit_ex q x hxl
       exact hno i2 (by omega) ⟨b, c, d⟩)
  · first
    | (exfalso; omega)
    | (refine gx_aload_n hx dX5_valueOf_13 rfl ?_
       refine gx_getR hx flX5_37 dX5_valueOf_14 (by decide) rfl rfl ?_
       refine gx_iload_n hx dX5_valueOf_17 rfl ?_
       refine gx_callI hx (c_X6_kindAt (j := 0) (i := i) _ _ (by decide) hP (by omega)) lkX5_61 mwX6_kindAt dX5_valueOf_18 (by decide) rfl rfl rfl rfl (Nat.le_of_ble_eq_true rfl) (by decide) ⟨by decide, by decide⟩ (fun z_18 σ_18 hz_18 => ?_)
       obtain ⟨rfl, rfl⟩ := hz_18
       refine gx_bipush hx dX5_valueOf_21 (by decide) ?_
       refine gx_icmp_ne (tgt := 55) hx dX5_valueOf_23 (by decide) ⟨by omega, by omega⟩ ⟨by omega, by omega⟩ (fun h23 => ?_) (fun h23 => ?_)
       · first
         | (exfalso; omega)
         | (refine gx_iinc hx dX5_valueOf_55 (Nat.le_of_ble_eq_true rfl) rfl ?_
            refine gx_goto (tgt := 2) hx dX5_valueOf_58 (by decide) ?_
            exact ih (i + 1) ⟨by omega, fun t ht => by
              by_cases e : t = i
              · subst e; omega
              · exact hno t (by omega)⟩ (by omega))
       · first
         | (exfalso; omega)
         | (refine gx_aload_n hx dX5_valueOf_26 rfl ?_
            refine gx_getR hx flX5_15 dX5_valueOf_27 (by decide) rfl rfl ?_
            refine gx_iload_n hx dX5_valueOf_30 rfl ?_
            refine gx_iald hx dX5_valueOf_31 (by decide) rfl (by omega) (by omega) (by decide) ?_
            refine gx_iload_n hx dX5_valueOf_32 rfl ?_
            have e54 := l2 i (by omega)
            have hpi := pno_le P i
            refine gx_icmp_ne (tgt := 55) hx dX5_valueOf_33 (by decide) ⟨by omega, by omega⟩ ⟨by omega, by omega⟩ (fun h33 => ?_) (fun h33 => ?_)
            · first
              | (exfalso; omega)
              | (refine gx_iinc hx dX5_valueOf_55 (Nat.le_of_ble_eq_true rfl) rfl ?_
                 refine gx_goto (tgt := 2) hx dX5_valueOf_58 (by decide) ?_
                 exact ih (i + 1) ⟨by omega, fun t ht => by
                   by_cases e : t = i
                   · subst e; omega
                   · exact hno t (by omega)⟩ (by omega))
            · first
              | (exfalso; omega)
              | (refine gx_aload_n hx dX5_valueOf_36 rfl ?_
                 refine gx_getR hx flX5_18 dX5_valueOf_37 (by decide) rfl rfl ?_
                 refine gx_iload_n hx dX5_valueOf_40 rfl ?_
                 refine gx_iald hx dX5_valueOf_41 (by decide) rfl (by omega) (by omega) (by decide) ?_
                 refine gx_iload_n hx dX5_valueOf_42 rfl ?_
                 have e55 := l3 i (by omega) (by omega)
                 rw [show (vals P (i + 1)).idxOf (op P i) = lix P i from rfl] at e55
                 have hlx := lix_le hok (i := i) (by omega)
                 refine gx_icmp_ne (tgt := 55) hx dX5_valueOf_43 (by decide) ⟨by omega, by omega⟩ ⟨by omega, by omega⟩ (fun h43 => ?_) (fun h43 => ?_)
                 · first
                   | (exfalso; omega)
                   | (refine gx_iinc hx dX5_valueOf_55 (Nat.le_of_ble_eq_true rfl) rfl ?_
                      refine gx_goto (tgt := 2) hx dX5_valueOf_58 (by decide) ?_
                      exact ih (i + 1) ⟨by omega, fun t ht => by
                        by_cases e : t = i
                        · subst e; omega
                        · exact hno t (by omega)⟩ (by omega))
                 · first
                   | (exfalso; omega)
                   | (refine gx_aload_n hx dX5_valueOf_46 rfl ?_
                      refine gx_getR hx flX5_37 dX5_valueOf_47 (by decide) rfl rfl ?_
                      refine gx_iload_n hx dX5_valueOf_50 rfl ?_
                      refine gx_callI hx (c_X6_operandAt (j := 0) (i := i) _ _ (by decide) hP (by omega)) lkX5_57 mwX6_operandAt dX5_valueOf_51 (by decide) rfl rfl rfl rfl (Nat.le_of_ble_eq_true rfl) (by decide) ⟨by decide, by decide⟩ (fun z_51 σ_51 hz_51 => ?_)
                      obtain ⟨rfl, rfl⟩ := hz_51
                      refine hret _ _ _ _ _ _ _ (by decide) (by decide) dX5_valueOf_54 rfl rfl ?_
                      refine ⟨?_, rfl⟩
                      have hiq : i < q := by
                        rcases Nat.lt_or_ge i q with h | h
                        · exact h
                        · exfalso
                          by_cases e : i = q
                          · subst e; omega
                          · have h1 := pno_mono P (i := q + 1) (j := i) (by omega)
                            rw [pno, if_pos h7] at h1
                            omega
                      have h9 := (lit_val (P := P) (i := i) (q := q) (by omega) hiq (by omega)).1
                      rw [show lix P i = x by omega, hv] at h9
                      cases h9
                      rfl))))
