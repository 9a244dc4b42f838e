/-! Transfers: growing and shrinking -/
set_option maxRecDepth 20000 in
set_option maxHeartbeats 400000 in
theorem c_X7_growAll (g : Gm) (l : Launch) {σ : Sg} {P : List It} (hP : PR σ 0 P) (hL : LR σ P) (hu : udf P = 0) : KI g l yX7_growAll cX7_growAll 2 ((some .int)) 5 0 0 [.inr 62] σ (fun r σ' => (∃ k : Nat, r = (k : Int) ∧ PR σ' 0 (itr k (zF P)) ∧ msf (itr k (zF P)) (fm (itr k (zF P))) = 0 ∧ ∀ j, j < k → msf (itr j (zF P)) (fm (itr j (zF P))) ≠ 0) ∧ (∀ k, 3 < k → k ≠ 61 → σ' k = σ k)) := by
  refine startI (own := RX7) (by decide +kernel) rfl (Nat.le_of_ble_eq_true rfl) ?_
  intro X hx _ _ hret
  obtain ⟨hok, hc, hg9⟩ := id hP
  have hn := hok.1
  refine gx_iconst hx dX7_growAll_0 ?_
  refine gx_istore_n hx dX7_growAll_1 (Nat.le_of_ble_eq_true rfl) ?_
  refine gx_loop (α := Nat × Sg) (fun x => x.1 ≤ P.length ∧ PR x.2 0 (setF P (fun q => if q < x.1 then 0 else fm P q)) ∧ SO σ x.2 0 3) (fun x => P.length - x.1) (fun x => [some (.inr 62), some (.inl (x.1 : Int))]) (fun _ => []) (fun x => x.2) ?_ (0, σ) ⟨Nat.zero_le _, by dsimp only; rw [setF_congr (G := fm P) (fun i _ => by rw [if_neg (Nat.not_lt_zero i)]), setF_self]; exact hP, SO.refl⟩
  rintro ⟨i, τ⟩ ⟨hi, hPt, hso⟩ ih
  dsimp only at hi hPt hso ih ⊢
  refine gx_iload_n hx dX7_growAll_2 rfl ?_
  refine gx_aload_n hx dX7_growAll_3 rfl ?_
  refine gx_getR hx flX7_9 dX7_growAll_4 (by decide) rfl rfl ?_
  refine gx_callI hx (c_X6_count (j := 0) _ _ (by decide) hPt) lkX7_23 mwX6_count dX7_growAll_7 (by decide) rfl rfl rfl rfl (Nat.le_of_ble_eq_true rfl) (by decide) ⟨by decide, by decide⟩ (fun z_7 σ_7 hz_7 => ?_)
  obtain ⟨e9, rfl⟩ := hz_7
  rw [setF_len] at e9
  subst e9
  refine gx_icmp_ge (tgt := 28) hx dX7_growAll_10 (by decide) ⟨by omega, by omega⟩ ⟨by omega, by omega⟩ (fun h10 => ?_) (fun h10 => ?_)
  · first
    | (exfalso; omega)
    | (refine gx_iconst hx dX7_growAll_28 ?_
       refine gx_istore_n hx dX7_growAll_29 (Nat.le_of_ble_eq_true rfl) ?_
       have ei : i = P.length := by omega
       subst ei
       have hPz : PR τ 0 (zF P) := by
         have e7 : setF P (fun q => if q < P.length then 0 else fm P q) = zF P := setF_congr (fun q hq => by rw [if_pos hq])
         rw [← e7]
         exact hPt
       have hKz : KO P (zF P) := KO_setF P _
       have hokz := zF_ok hok
       refine gx_loop (α := Nat × Sg) (fun x => x.1 ≤ 80 ∧ PR x.2 0 (itr x.1 (zF P)) ∧ (∀ k, 3 < k → k ≠ 61 → x.2 k = σ k) ∧ ∀ j, j < x.1 → msf (itr j (zF P)) (fm (itr j (zF P))) ≠ 0) (fun x => 80 - x.1) (fun x => [some (.inr 62), some (.inl (x.1 : Int))]) (fun _ => []) (fun x => x.2) ?_ (0, τ) ⟨Nat.zero_le _, hPz, fun k a1 _ => hso k (by omega), fun j hj => absurd hj (Nat.not_lt_zero j)⟩
       rintro ⟨k, υ⟩ ⟨hk, hPt, hfr, hch⟩ ih2
       dsimp only at hk hPt hfr hch ih2 ⊢
       have hLt : LR υ P := hL.so (fun q a1 a2 => hfr q (by omega) (by omega))
       have hKk : KO P (itr k (zF P)) := hKz.trans (KO_itr k _)
       refine gx_iload_n hx dX7_growAll_30 rfl ?_
       refine gx_bipush hx dX7_growAll_31 (by decide) ?_
       refine gx_icmp_ge (tgt := 49) hx dX7_growAll_33 (by decide) ⟨by omega, by omega⟩ ⟨by omega, by omega⟩ (fun h33 => ?_) (fun h33 => ?_)
       · first
         | (exfalso; omega)
         | (refine gx_iload_n hx dX7_growAll_49 rfl ?_
            refine hret _ _ _ _ _ _ _ (by decide) (by decide) dX7_growAll_50 rfl rfl ?_
            first
            | exact ⟨⟨k, rfl, hPt, itr_end hokz (by omega) hch, hch⟩, hfr⟩
            | exact ⟨⟨k, rfl, by rw [rnd_same (by omega)] at q1; exact q1, by omega, hch⟩, fun q a1 a2 => (q2 q a1 a2).trans (hfr q a1 a2)⟩)
       · first
         | (exfalso; omega)
         | (refine gx_aload_n hx dX7_growAll_36 rfl ?_
            refine gx_callI hx (c_X7_growMisfits (P := itr k (zF P)) _ _ hPt (ko_LR hKk hLt) (by rw [← udf_ko hKk]; exact hu)) lkX7_69 mwX7_growMisfits dX7_growAll_37 (by decide) rfl rfl rfl rfl (Nat.le_of_ble_eq_true rfl) (by decide) ⟨by decide, by decide⟩ (fun z_37 σ_37 hz_37 => ?_)
            obtain ⟨d9, q1, q2⟩ := hz_37
            refine gx_if_eq (tgt := 49) hx dX7_growAll_40 (by decide) ⟨by omega, by omega⟩ (fun h40 => ?_) (fun h40 => ?_)
            · first
              | (exfalso; omega)
              | (refine gx_iload_n hx dX7_growAll_49 rfl ?_
                 refine hret _ _ _ _ _ _ _ (by decide) (by decide) dX7_growAll_50 rfl rfl ?_
                 first
                 | exact ⟨⟨k, rfl, hPt, itr_end hokz (by omega) hch, hch⟩, hfr⟩
                 | exact ⟨⟨k, rfl, by rw [rnd_same (by omega)] at q1; exact q1, by omega, hch⟩, fun q a1 a2 => (q2 q a1 a2).trans (hfr q a1 a2)⟩)
            · first
              | (exfalso; omega)
              | (refine gx_iinc hx dX7_growAll_43 (Nat.le_of_ble_eq_true rfl) rfl ?_
                 refine gx_goto (tgt := 30) hx dX7_growAll_46 (by decide) ?_
                 exact ih2 (k + 1, _) ⟨by omega, q1, fun q a1 a2 => (q2 q a1 a2).trans (hfr q a1 a2), fun j hj => by
                   by_cases e : j = k
                   · subst e; omega
                   · exact hch j (by omega)⟩ (by dsimp only; omega))))
  · first
    | (exfalso; omega)
    | (refine gx_aload_n hx dX7_growAll_13 rfl ?_
       refine gx_getR hx flX7_9 dX7_growAll_14 (by decide) rfl rfl ?_
       refine gx_iload_n hx dX7_growAll_17 rfl ?_
       refine gx_iconst hx dX7_growAll_18 ?_
       refine gx_callV hx (c_X6_putForm (j := 0) (i := i) (f := 0) _ _ (by decide) hPt (by rw [setF_len]; omega) (by decide) (Or.inr (Or.inr rfl))) lkX7_65 mwX6_putForm dX7_growAll_19 (by decide) rfl rfl rfl rfl (Nat.le_of_ble_eq_true rfl) (by decide) ⟨by decide, by decide⟩ (fun σ_19 hz_19 => ?_)
       obtain ⟨q1, q2⟩ := hz_19
       have e8 : stF (setF P (fun q => if q < i then 0 else fm P q)) i 0 = setF P (fun q => if q < i + 1 then 0 else fm P q) := by
         apply it_ext (by rw [stF_len, setF_len, setF_len])
         intro q hq
         rw [stF_len, setF_len] at hq
         rw [(stF_at _ _ _ q).1, (stF_at _ _ _ q).2.1, (stF_at _ _ _ q).2.2, (setF_at P _ q).1, (setF_at P _ q).2.1, (setF_at P _ q).2.2, (setF_at P _ q).1, (setF_at P _ q).2.1, (setF_at P _ q).2.2, setF_len, if_pos hq, if_pos hq]
         refine ⟨rfl, rfl, ?_⟩
         by_cases e : q = i
         · subst e
           rw [if_pos ⟨rfl, hq⟩, if_pos (by omega)]
         · rw [if_neg (fun h => e h.1)]
           by_cases h1 : q < i
           · rw [if_pos h1, if_pos (by omega)]
           · rw [if_neg h1, if_neg (by omega)]
       rw [e8] at q1
       refine gx_iinc hx dX7_growAll_22 (Nat.le_of_ble_eq_true rfl) rfl ?_
       refine gx_goto (tgt := 2) hx dX7_growAll_25 (by decide) ?_
       exact ih (i + 1, _) ⟨by omega, q1, hso.trans q2⟩ (by dsimp only; omega))
set_option maxRecDepth 20000 in
set_option maxHeartbeats 400000 in
theorem c_X7_shrinkIfAllFit (g : Gm) (l : Launch) {σ : Sg} {P : List It} {i : Nat} (hP : PR σ 0 P) (hL : LR σ P) (hu : udf P = 0) (hi : i < P.length) (hf : 0 < fm P i) : KI g l yX7_shrinkIfAllFit cX7_shrinkIfAllFit 3 ((some .boolean)) 4 0 0 [.inr 62, .inl (i : Int)] σ (fun r σ' => ((r = 1 ∧ msf (stF P i (fm P i - 1)) (fm (stF P i (fm P i - 1))) = 0 ∧ PR σ' 0 (stF P i (fm P i - 1))) ∨ (r = 0 ∧ msf (stF P i (fm P i - 1)) (fm (stF P i (fm P i - 1))) ≠ 0 ∧ PR σ' 0 P)) ∧ (∀ k, 3 < k → k ≠ 61 → σ' k = σ k)) := by
  refine startI (own := RX7) (by decide +kernel) rfl (Nat.le_of_ble_eq_true rfl) ?_
  intro X hx _ _ hret
  obtain ⟨hok, hc, hg9⟩ := id hP
  have hn := hok.1
  have hb := hok.2.1 i
  unfold okI at hb
  have hK1 : KO P (stF P i (fm P i - 1)) := KO_stF P i _
  refine gx_aload_n hx dX7_shrinkIfAllFit_0 rfl ?_
  refine gx_getR hx flX7_9 dX7_shrinkIfAllFit_1 (by decide) rfl rfl ?_
  refine gx_iload_n hx dX7_shrinkIfAllFit_4 rfl ?_
  refine gx_callI hx (c_X6_formAt (j := 0) (i := i) _ _ (by decide) hP hi) lkX7_33 mwX6_formAt dX7_shrinkIfAllFit_5 (by decide) rfl rfl rfl rfl (Nat.le_of_ble_eq_true rfl) (by decide) ⟨by decide, by decide⟩ (fun z_5 σ_5 hz_5 => ?_)
  obtain ⟨rfl, rfl⟩ := hz_5
  refine gx_istore_n hx dX7_shrinkIfAllFit_8 (Nat.le_of_ble_eq_true rfl) ?_
  refine gx_aload_n hx dX7_shrinkIfAllFit_9 rfl ?_
  refine gx_getR hx flX7_9 dX7_shrinkIfAllFit_10 (by decide) rfl rfl ?_
  refine gx_iload_n hx dX7_shrinkIfAllFit_13 rfl ?_
  refine gx_iload_n hx dX7_shrinkIfAllFit_14 rfl ?_
  refine gx_iconst hx dX7_shrinkIfAllFit_15 ?_
  refine gx_isub hx dX7_shrinkIfAllFit_16 ?_
  rw [show (fm P i : Int) - 1 = ((fm P i - 1 : Nat) : Int) by omega]
  refine gx_callV hx (c_X6_putForm (j := 0) (i := i) (f := fm P i - 1) _ _ (by decide) hP hi (by omega) (by omega)) lkX7_65 mwX6_putForm dX7_shrinkIfAllFit_17 (by decide) rfl rfl rfl rfl (Nat.le_of_ble_eq_true rfl) (by decide) ⟨by decide, by decide⟩ (fun σ_17 hz_17 => ?_)
  obtain ⟨q1, q2⟩ := hz_17
  refine gx_aload_n hx dX7_shrinkIfAllFit_20 rfl ?_
  refine gx_getR hx flX7_19 dX7_shrinkIfAllFit_21 (by decide) rfl rfl ?_
  refine gx_callV hx (c_X4_compute (P := stF P i (fm P i - 1)) _ _ q1 (ko_LR hK1 (hL.so (fun k a1 a2 => q2 k (by omega))))) lkX7_73 mwX4_compute dX7_shrinkIfAllFit_24 (by decide) rfl rfl rfl rfl (Nat.le_of_ble_eq_true rfl) (by decide) ⟨by decide, by decide⟩ (fun σ_24 hz_24 => ?_)
  obtain ⟨hY1, hs1⟩ := hz_24
  have q3 := q1.so hs1 (by decide)
  have hL3 := ko_LR hK1 (hL.so (fun k a1 a2 => (hs1 k (by omega)).trans (q2 k (by omega))))
  refine gx_aload_n hx dX7_shrinkIfAllFit_27 rfl ?_
  refine gx_callI hx (c_X7_numberMisfitting (P := stF P i (fm P i - 1)) _ _ q3 hL3 hY1 (by rw [← udf_ko hK1]; exact hu)) lkX7_79 mwX7_numberMisfitting dX7_shrinkIfAllFit_28 (by decide) rfl rfl rfl rfl (Nat.le_of_ble_eq_true rfl) (by decide) ⟨by decide, by decide⟩ (fun z_28 σ_28 hz_28 => ?_)
  obtain ⟨rfl, rfl⟩ := hz_28
  have hms : cnt (fun q => decide (isT (stF P i (fm P i - 1)) q ∧ mis (stF P i (fm P i - 1)) (fm (stF P i (fm P i - 1))) q)) (stF P i (fm P i - 1)).length = msf (stF P i (fm P i - 1)) (fm (stF P i (fm P i - 1))) := rfl
  rw [hms]
  have hmb := cnt_le (fun q => decide (isT (stF P i (fm P i - 1)) q ∧ mis (stF P i (fm P i - 1)) (fm (stF P i (fm P i - 1))) q)) (stF P i (fm P i - 1)).length
  rw [hms, stF_len] at hmb
  refine gx_if_ne (tgt := 36) hx dX7_shrinkIfAllFit_31 (by decide) ⟨by omega, by omega⟩ (fun h31 => ?_) (fun h31 => ?_)
  · first
    | (exfalso; omega)
    | (refine gx_aload_n hx dX7_shrinkIfAllFit_36 rfl ?_
       refine gx_getR hx flX7_9 dX7_shrinkIfAllFit_37 (by decide) rfl rfl ?_
       refine gx_iload_n hx dX7_shrinkIfAllFit_40 rfl ?_
       refine gx_iload_n hx dX7_shrinkIfAllFit_41 rfl ?_
       refine gx_callV hx (c_X6_putForm (j := 0) (i := i) (f := fm P i) _ _ (by decide) q3 (by rw [stF_len]; exact hi) (by omega) (by rw [(stF_at P i (fm P i - 1) i).1]; omega)) lkX7_65 mwX6_putForm dX7_shrinkIfAllFit_42 (by decide) rfl rfl rfl rfl (Nat.le_of_ble_eq_true rfl) (by decide) ⟨by decide, by decide⟩ (fun σ_42 hz_42 => ?_)
       obtain ⟨q4, q5⟩ := hz_42
       rw [stF_back hi] at q4
       refine gx_iconst hx dX7_shrinkIfAllFit_45 ?_
       refine hret _ _ _ _ _ _ _ (by decide) (by decide) dX7_shrinkIfAllFit_46 rfl rfl ?_
       exact ⟨Or.inr ⟨rfl, by omega, q4⟩, fun k a1 a2 => (q5 k (by omega)).trans ((hs1 k (by omega)).trans (q2 k (by omega)))⟩)
  · first
    | (exfalso; omega)
    | (refine gx_iconst hx dX7_shrinkIfAllFit_34 ?_
       refine hret _ _ _ _ _ _ _ (by decide) (by decide) dX7_shrinkIfAllFit_35 rfl rfl ?_
       exact ⟨Or.inl ⟨rfl, by omega, q3⟩, fun k a1 a2 => (hs1 k (by omega)).trans (q2 k (by omega))⟩)
set_option maxRecDepth 20000 in
set_option maxHeartbeats 400000 in
theorem c_X7_shrinkAll (g : Gm) (l : Launch) {σ : Sg} {P : List It} (hP : PR σ 0 P) (hL : LR σ P) (hu : udf P = 0) : KI g l yX7_shrinkAll cX7_shrinkAll 5 ((some .int)) 5 0 0 [.inr 62] σ (fun r σ' => (∃ k : Nat, r = ((psN k P).2 : Int) ∧ PR σ' 0 (psN k P).1 ∧ (psF (psN k P).1 P.length).2 = 0 ∧ ∀ j, j < k → (psF (psN j P).1 P.length).2 ≠ 0) ∧ (∀ k, 3 < k → k ≠ 61 → σ' k = σ k)) := by
  refine startI (own := RX7) (by decide +kernel) rfl (Nat.le_of_ble_eq_true rfl) ?_
  intro X hx _ _ hret
  obtain ⟨hok, hc, hg9⟩ := id hP
  have hn := hok.1
  refine gx_iconst hx dX7_shrinkAll_0 ?_
  refine gx_istore_n hx dX7_shrinkAll_1 (Nat.le_of_ble_eq_true rfl) ?_
  refine gx_iconst hx dX7_shrinkAll_2 ?_
  refine gx_istore_n hx dX7_shrinkAll_3 (Nat.le_of_ble_eq_true rfl) ?_
  refine gx_iconst hx dX7_shrinkAll_4 ?_
  refine gx_istore_n hx dX7_shrinkAll_5 (Nat.le_of_ble_eq_true rfl) ?_
  refine gx_loop (α := Nat × Int × Sg) (fun x => x.1 ≤ 81 ∧ PR x.2.2 0 (psN x.1 P).1 ∧ (∀ k, 3 < k → k ≠ 61 → x.2.2 k = σ k) ∧ ((x.2.1 = 1 ∧ ∀ j, j < x.1 → (psF (psN j P).1 P.length).2 ≠ 0) ∨ (x.2.1 = 0 ∧ ∃ k, x.1 = k + 1 ∧ (psF (psN k P).1 P.length).2 = 0 ∧ ∀ j, j < k → (psF (psN j P).1 P.length).2 ≠ 0))) (fun x => 81 - x.1) (fun x => [some (.inr 62), some (.inl ((psN x.1 P).2 : Int)), some (.inl x.2.1), some (.inl (x.1 : Int)), none]) (fun _ => []) (fun x => x.2.2) ?_ (0, 1, σ) ⟨Nat.zero_le _, hP, fun k _ _ => rfl, Or.inl ⟨rfl, fun j hj => absurd hj (Nat.not_lt_zero j)⟩⟩
  rintro ⟨p, d, τ⟩ ⟨hp, hPp, hfr, hdd⟩ ih
  dsimp only at hp hPp hfr hdd ih ⊢
  have hd01 : d = 1 ∨ d = 0 := by omega
  have htop := psN_top hok p
  have hge : d = 1 → p ≤ (psN p P).2 := fun h1 => psN_ge p (by
    rcases hdd with h2 | h2
    · exact h2.2
    · omega)
  refine gx_iload_n hx dX7_shrinkAll_6 rfl ?_
  refine gx_if_eq (tgt := 71) hx dX7_shrinkAll_7 (by decide) ⟨by omega, by omega⟩ (fun h7 => ?_) (fun h7 => ?_)
  · first
    | (exfalso; omega)
    | (refine gx_iload_n hx dX7_shrinkAll_71 rfl ?_
       refine hret _ _ _ _ _ _ _ (by decide) (by decide) dX7_shrinkAll_72 rfl rfl ?_
       rcases hdd with ⟨h1, h2⟩ | ⟨h1, k, h2, h3, h4⟩
       · have := hge h1
         omega
       · subst h2
         have e1 : (psN (k + 1) P).2 = (psN k P).2 := by rw [psN]; dsimp only; omega
         have e2 : (psN (k + 1) P).1 = (psN k P).1 := by rw [psN]; exact psF_same _ h3
         rw [e2] at hPp
         exact ⟨⟨k, by rw [e1], hPp, h3, h4⟩, hfr⟩)
  · first
    | (exfalso; omega)
    | (refine gx_iload_n hx dX7_shrinkAll_10 rfl ?_
       refine gx_bipush hx dX7_shrinkAll_11 (by decide) ?_
       refine gx_icmp_gt (tgt := 71) hx dX7_shrinkAll_13 (by decide) ⟨by omega, by omega⟩ ⟨by omega, by omega⟩ (fun h13 => ?_) (fun h13 => ?_)
       · first
         | (exfalso; omega)
         | (refine gx_iload_n hx dX7_shrinkAll_71 rfl ?_
            refine hret _ _ _ _ _ _ _ (by decide) (by decide) dX7_shrinkAll_72 rfl rfl ?_
            rcases hdd with ⟨h1, h2⟩ | ⟨h1, k, h2, h3, h4⟩
            · have := hge h1
              omega
            · subst h2
              have e1 : (psN (k + 1) P).2 = (psN k P).2 := by rw [psN]; dsimp only; omega
              have e2 : (psN (k + 1) P).1 = (psN k P).1 := by rw [psN]; exact psF_same _ h3
              rw [e2] at hPp
              exact ⟨⟨k, by rw [e1], hPp, h3, h4⟩, hfr⟩)
       · first
         | (exfalso; omega)
         | (refine gx_iconst hx dX7_shrinkAll_16 ?_
            refine gx_istore_n hx dX7_shrinkAll_17 (Nat.le_of_ble_eq_true rfl) ?_
            refine gx_iconst hx dX7_shrinkAll_18 ?_
            refine gx_istore hx dX7_shrinkAll_19 (Nat.le_of_ble_eq_true rfl) ?_
            refine gx_loop (α := Nat × Int × Sg) (fun x => x.1 ≤ P.length ∧ PR x.2.2 0 (psF (psN p P).1 x.1).1 ∧ (∀ k, 3 < k → k ≠ 61 → x.2.2 k = σ k) ∧ ((x.2.1 = 1 ∧ (psF (psN p P).1 x.1).2 ≠ 0) ∨ (x.2.1 = 0 ∧ (psF (psN p P).1 x.1).2 = 0))) (fun x => P.length - x.1) (fun x => [some (.inr 62), some (.inl (((psN p P).2 : Int) + ((psF (psN p P).1 x.1).2 : Int))), some (.inl x.2.1), some (.inl (p : Int)), some (.inl (x.1 : Int))]) (fun _ => []) (fun x => x.2.2) ?_ (0, 0, τ) ⟨Nat.zero_le _, hPp, hfr, Or.inr ⟨rfl, rfl⟩⟩
            rintro ⟨i, dd, υ⟩ ⟨hi, hPi, hfi, hdi⟩ ih2
            dsimp only at hi hPi hfi hdi ih2 ⊢
            have hKi : KO P (psF (psN p P).1 i).1 := (KO_psN p P).trans (KO_psF _ i)
            have hLi : LR υ P := hL.so (fun q a1 a2 => hfi q (by omega) (by omega))
            have hoki := psF_ok (psN_ok hok p) i
            have hb := fm_T hoki i
            refine gx_iload hx dX7_shrinkAll_21 rfl ?_
            refine gx_aload_n hx dX7_shrinkAll_23 rfl ?_
            refine gx_getR hx flX7_9 dX7_shrinkAll_24 (by decide) rfl rfl ?_
            refine gx_callI hx (c_X6_count (j := 0) _ _ (by decide) hPi) lkX7_23 mwX6_count dX7_shrinkAll_27 (by decide) rfl rfl rfl rfl (Nat.le_of_ble_eq_true rfl) (by decide) ⟨by decide, by decide⟩ (fun z_27 σ_27 hz_27 => ?_)
            obtain ⟨e9, rfl⟩ := hz_27
            rw [← hKi.1] at e9
            subst e9
            refine gx_icmp_ge (tgt := 65) hx dX7_shrinkAll_30 (by decide) ⟨by omega, by omega⟩ ⟨by omega, by omega⟩ (fun h30 => ?_) (fun h30 => ?_)
            · first
              | (exfalso; omega)
              | (refine gx_iinc hx dX7_shrinkAll_65 (Nat.le_of_ble_eq_true rfl) rfl ?_
                 refine gx_goto (tgt := 6) hx dX7_shrinkAll_68 (by decide) ?_
                 refine GJ.drop 4 ?_
                 have ei : i = P.length := by omega
                 subst ei
                 refine GJ.cong ?_ rfl rfl (ih (p + 1, dd, υ) ⟨by omega, hPi, hfi, ?_⟩ (by dsimp only; omega))
                 · dsimp only
                   rw [show ((psN (p + 1) P).2 : Int) = ((psN p P).2 : Int) + ((psF (psN p P).1 P.length).2 : Int) from by rw [psN]; dsimp only; omega]
                   rfl
                 · dsimp only
                   have hch : ∀ j, j < p → (psF (psN j P).1 P.length).2 ≠ 0 := by
                     rcases hdd with h2 | h2
                     · exact h2.2
                     · omega
                   rcases hdi with ⟨h1, h2⟩ | ⟨h1, h2⟩
                   · refine Or.inl ⟨h1, fun j hj => ?_⟩
                     by_cases e : j = p
                     · subst e; exact h2
                     · exact hch j (by omega)
                   · exact Or.inr ⟨h1, p, rfl, h2, hch⟩)
            · first
              | (exfalso; omega)
              | (refine gx_aload_n hx dX7_shrinkAll_33 rfl ?_
                 refine gx_getR hx flX7_9 dX7_shrinkAll_34 (by decide) rfl rfl ?_
                 refine gx_iload hx dX7_shrinkAll_37 rfl ?_
                 refine gx_callI hx (c_X6_formAt (j := 0) (i := i) _ _ (by decide) hPi (by rw [← hKi.1]; omega)) lkX7_33 mwX6_formAt dX7_shrinkAll_39 (by decide) rfl rfl rfl rfl (Nat.le_of_ble_eq_true rfl) (by decide) ⟨by decide, by decide⟩ (fun z_39 σ_39 hz_39 => ?_)
                 obtain ⟨rfl, rfl⟩ := hz_39
                 refine gx_if_le (tgt := 59) hx dX7_shrinkAll_42 (by decide) ⟨by omega, by omega⟩ (fun h42 => ?_) (fun h42 => ?_)
                 · first
                   | (exfalso; omega)
                   | (refine gx_iinc hx dX7_shrinkAll_59 (Nat.le_of_ble_eq_true rfl) rfl ?_
                      refine gx_goto (tgt := 21) hx dX7_shrinkAll_62 (by decide) ?_
                      have epi : psF (psN p P).1 (i + 1) = psS (psF (psN p P).1 i) i := rfl
                      first
                      | (have hyes : psS (psF (psN p P).1 i) i = (stF (psF (psN p P).1 i).1 i (fm (psF (psN p P).1 i).1 i - 1), (psF (psN p P).1 i).2 + 1) := by
                           unfold psS
                           rw [if_pos (by omega)]
                         rcases d9 with ⟨-, w1, w2⟩ | ⟨w0, -, -⟩
                         · refine GJ.cong ?_ rfl rfl (ih2 (i + 1, 1, _) ⟨by omega, by dsimp only; rw [epi, hyes]; exact w2, fun q a1 a2 => (q2 q a1 a2).trans (hfi q a1 a2), Or.inl ⟨rfl, by dsimp only; rw [epi, hyes]; dsimp only; omega⟩⟩ (by dsimp only; omega))
                           dsimp only
                           rw [epi, hyes]
                           dsimp only
                           rw [show (((psF (psN p P).1 i).2 + 1 : Nat) : Int) = ((psF (psN p P).1 i).2 : Int) + 1 from by omega, ← Int.add_assoc]
                           rfl
                         · omega)
                      | (have hno : psS (psF (psN p P).1 i) i = psF (psN p P).1 i := by
                           unfold psS
                           rw [if_neg (by omega)]
                         rcases d9 with ⟨w0, -, -⟩ | ⟨-, w1, w2⟩
                         · omega
                         · refine GJ.cong ?_ rfl rfl (ih2 (i + 1, dd, _) ⟨by omega, by dsimp only; rw [epi, hno]; exact w2, fun q a1 a2 => (q2 q a1 a2).trans (hfi q a1 a2), by dsimp only; rw [epi, hno]; exact hdi⟩ (by dsimp only; omega))
                           dsimp only
                           rw [epi, hno]
                           rfl)
                      | (have hno : psS (psF (psN p P).1 i) i = psF (psN p P).1 i := by
                           unfold psS
                           rw [if_neg (by omega)]
                         refine GJ.cong ?_ rfl rfl (ih2 (i + 1, dd, _) ⟨by omega, by dsimp only; rw [epi, hno]; exact hPi, hfi, by dsimp only; rw [epi, hno]; exact hdi⟩ (by dsimp only; omega))
                         dsimp only
                         rw [epi, hno]
                         rfl))
                 · first
                   | (exfalso; omega)
                   | (refine gx_aload_n hx dX7_shrinkAll_45 rfl ?_
                      refine gx_iload hx dX7_shrinkAll_46 rfl ?_
                      refine gx_callI hx (c_X7_shrinkIfAllFit (P := (psF (psN p P).1 i).1) (i := i) _ _ hPi (ko_LR hKi hLi) (by rw [← udf_ko hKi]; exact hu) (by rw [← hKi.1]; omega) (by omega)) lkX7_76 mwX7_shrinkIfAllFit dX7_shrinkAll_48 (by decide) rfl rfl rfl rfl (Nat.le_of_ble_eq_true rfl) (by decide) ⟨by decide, by decide⟩ (fun z_48 σ_48 hz_48 => ?_)
                      obtain ⟨d9, q2⟩ := hz_48
                      refine gx_if_eq (tgt := 59) hx dX7_shrinkAll_51 (by decide) ⟨by omega, by omega⟩ (fun h51 => ?_) (fun h51 => ?_)
                      · first
                        | (exfalso; omega)
                        | (refine gx_iinc hx dX7_shrinkAll_59 (Nat.le_of_ble_eq_true rfl) rfl ?_
                           refine gx_goto (tgt := 21) hx dX7_shrinkAll_62 (by decide) ?_
                           have epi : psF (psN p P).1 (i + 1) = psS (psF (psN p P).1 i) i := rfl
                           first
                           | (have hyes : psS (psF (psN p P).1 i) i = (stF (psF (psN p P).1 i).1 i (fm (psF (psN p P).1 i).1 i - 1), (psF (psN p P).1 i).2 + 1) := by
                                unfold psS
                                rw [if_pos (by omega)]
                              rcases d9 with ⟨-, w1, w2⟩ | ⟨w0, -, -⟩
                              · refine GJ.cong ?_ rfl rfl (ih2 (i + 1, 1, _) ⟨by omega, by dsimp only; rw [epi, hyes]; exact w2, fun q a1 a2 => (q2 q a1 a2).trans (hfi q a1 a2), Or.inl ⟨rfl, by dsimp only; rw [epi, hyes]; dsimp only; omega⟩⟩ (by dsimp only; omega))
                                dsimp only
                                rw [epi, hyes]
                                dsimp only
                                rw [show (((psF (psN p P).1 i).2 + 1 : Nat) : Int) = ((psF (psN p P).1 i).2 : Int) + 1 from by omega, ← Int.add_assoc]
                                rfl
                              · omega)
                           | (have hno : psS (psF (psN p P).1 i) i = psF (psN p P).1 i := by
                                unfold psS
                                rw [if_neg (by omega)]
                              rcases d9 with ⟨w0, -, -⟩ | ⟨-, w1, w2⟩
                              · omega
                              · refine GJ.cong ?_ rfl rfl (ih2 (i + 1, dd, _) ⟨by omega, by dsimp only; rw [epi, hno]; exact w2, fun q a1 a2 => (q2 q a1 a2).trans (hfi q a1 a2), by dsimp only; rw [epi, hno]; exact hdi⟩ (by dsimp only; omega))
                                dsimp only
                                rw [epi, hno]
                                rfl)
                           | (have hno : psS (psF (psN p P).1 i) i = psF (psN p P).1 i := by
                                unfold psS
                                rw [if_neg (by omega)]
                              refine GJ.cong ?_ rfl rfl (ih2 (i + 1, dd, _) ⟨by omega, by dsimp only; rw [epi, hno]; exact hPi, hfi, by dsimp only; rw [epi, hno]; exact hdi⟩ (by dsimp only; omega))
                              dsimp only
                              rw [epi, hno]
                              rfl))
                      · first
                        | (exfalso; omega)
                        | (refine gx_iconst hx dX7_shrinkAll_54 ?_
                           refine gx_istore_n hx dX7_shrinkAll_55 (Nat.le_of_ble_eq_true rfl) ?_
                           refine gx_iinc hx dX7_shrinkAll_56 (Nat.le_of_ble_eq_true rfl) rfl ?_
                           refine gx_iinc hx dX7_shrinkAll_59 (Nat.le_of_ble_eq_true rfl) rfl ?_
                           refine gx_goto (tgt := 21) hx dX7_shrinkAll_62 (by decide) ?_
                           have epi : psF (psN p P).1 (i + 1) = psS (psF (psN p P).1 i) i := rfl
                           first
                           | (have hyes : psS (psF (psN p P).1 i) i = (stF (psF (psN p P).1 i).1 i (fm (psF (psN p P).1 i).1 i - 1), (psF (psN p P).1 i).2 + 1) := by
                                unfold psS
                                rw [if_pos (by omega)]
                              rcases d9 with ⟨-, w1, w2⟩ | ⟨w0, -, -⟩
                              · refine GJ.cong ?_ rfl rfl (ih2 (i + 1, 1, _) ⟨by omega, by dsimp only; rw [epi, hyes]; exact w2, fun q a1 a2 => (q2 q a1 a2).trans (hfi q a1 a2), Or.inl ⟨rfl, by dsimp only; rw [epi, hyes]; dsimp only; omega⟩⟩ (by dsimp only; omega))
                                dsimp only
                                rw [epi, hyes]
                                dsimp only
                                rw [show (((psF (psN p P).1 i).2 + 1 : Nat) : Int) = ((psF (psN p P).1 i).2 : Int) + 1 from by omega, ← Int.add_assoc]
                                rfl
                              · omega)
                           | (have hno : psS (psF (psN p P).1 i) i = psF (psN p P).1 i := by
                                unfold psS
                                rw [if_neg (by omega)]
                              rcases d9 with ⟨w0, -, -⟩ | ⟨-, w1, w2⟩
                              · omega
                              · refine GJ.cong ?_ rfl rfl (ih2 (i + 1, dd, _) ⟨by omega, by dsimp only; rw [epi, hno]; exact w2, fun q a1 a2 => (q2 q a1 a2).trans (hfi q a1 a2), by dsimp only; rw [epi, hno]; exact hdi⟩ (by dsimp only; omega))
                                dsimp only
                                rw [epi, hno]
                                rfl)
                           | (have hno : psS (psF (psN p P).1 i) i = psF (psN p P).1 i := by
                                unfold psS
                                rw [if_neg (by omega)]
                              refine GJ.cong ?_ rfl rfl (ih2 (i + 1, dd, _) ⟨by omega, by dsimp only; rw [epi, hno]; exact hPi, hfi, by dsimp only; rw [epi, hno]; exact hdi⟩ (by dsimp only; omega))
                              dsimp only
                              rw [epi, hno]
                              rfl))))))
