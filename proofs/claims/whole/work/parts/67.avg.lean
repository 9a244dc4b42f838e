/-! Averages -/
def sumF (P : List It) : Nat := cnt (fun i => decide (isT P i ∧ fm P i = 1)) P.length + 2 * cnt (fun i => decide (isT P i ∧ fm P i = 2)) P.length
def sFk (P : List It) (k : Nat) : Nat := cnt (fun i => decide (isT P i ∧ fm P i = 1)) k + 2 * cnt (fun i => decide (isT P i ∧ fm P i = 2)) k
theorem sumF_two {P : List It} : ∀ k : Nat, cnt (fun i => decide (isT P i ∧ fm P i = 1)) k + cnt (fun i => decide (isT P i ∧ fm P i = 2)) k ≤ k
  | 0 => Nat.le_refl _
  | k + 1 => by
    have ih := sumF_two (P := P) k
    have h1 := cnt_s (fun i => decide (isT P i ∧ fm P i = 1)) k
    have h2 := cnt_s (fun i => decide (isT P i ∧ fm P i = 2)) k
    by_cases e1 : isT P k ∧ fm P k = 1
    · have e2 : ¬ (isT P k ∧ fm P k = 2) := fun h => by omega
      rw [if_pos (decide_eq_true e1)] at h1
      rw [if_neg (by simp only [decide_eq_true_eq]; exact e2)] at h2
      omega
    · rw [if_neg (by simp only [decide_eq_true_eq]; exact e1)] at h1
      have h3 : (if decide (isT P k ∧ fm P k = 2) = true then 1 else 0 : Nat) ≤ 1 := by split <;> omega
      omega
theorem sumF_le {P : List It} (h : okP P) : sumF P ≤ 80 := by
  have h1 := sumF_two (P := P) P.length
  have h2 := h.1
  unfold sumF
  omega
theorem sFk_s {P : List It} (h : okP P) (k : Nat) : sFk P (k + 1) = sFk P k + (if isT P k then fm P k else 0) := by
  have h0 := (fm_T h k).1
  have h1 := cnt_s (fun i => decide (isT P i ∧ fm P i = 1)) k
  have h2 := cnt_s (fun i => decide (isT P i ∧ fm P i = 2)) k
  unfold sFk
  by_cases ht : isT P k
  · rw [if_pos ht]
    rcases (show fm P k = 0 ∨ fm P k = 1 ∨ fm P k = 2 by omega) with e | e | e
    · rw [if_neg (by simp only [decide_eq_true_eq]; omega)] at h1
      rw [if_neg (by simp only [decide_eq_true_eq]; omega)] at h2
      omega
    · rw [if_pos (decide_eq_true ⟨ht, e⟩)] at h1
      rw [if_neg (by simp only [decide_eq_true_eq]; omega)] at h2
      omega
    · rw [if_neg (by simp only [decide_eq_true_eq]; omega)] at h1
      rw [if_pos (decide_eq_true ⟨ht, e⟩)] at h2
      omega
  · rw [if_neg ht]
    rw [if_neg (by simp only [decide_eq_true_eq]; exact fun h9 => ht h9.1)] at h1
    rw [if_neg (by simp only [decide_eq_true_eq]; exact fun h9 => ht h9.1)] at h2
    omega
set_option maxRecDepth 20000 in
set_option maxHeartbeats 400000 in
theorem c_X8_averageForm (g : Gm) (l : Launch) {σ : Sg} {A : AS} (hl : l.stackTraces = false) (hC : CR σ A) : KXD g l yX8_averageForm cX8_averageForm 2 4 1 6 [.inr 69] σ (fun r σ' => nT A.1 ≠ 0 ∧ r = avD (sumF A.1) (nT A.1) ∧ CQ σ σ' A) (fun E σ' => E = exARE ∧ nT A.1 = 0 ∧ CQ σ σ' A) := by
  refine startXD hl (own := RX8) (by decide +kernel) rfl (Nat.le_of_ble_eq_true rfl) ?_
  intro X hx _ hXl hret hq
  rw [← hXl] at hl
  obtain ⟨P, hs, sv, T, er⟩ := A
  have hP : PR σ 0 P := hC.1
  have hok : okP P := hP.1
  have hl40 := hok.1
  refine gx_aload_n hx dX8_averageForm_0 rfl ?_
  refine gx_getR hx flX8_56 dX8_averageForm_1 (by decide) rfl rfl ?_
  refine gx_callI hx (c_X7_number _ _ hP) lkX8_244 mwX7_number dX8_averageForm_4 (by decide) rfl rfl rfl rfl (Nat.le_of_ble_eq_true rfl) (by decide) ⟨by decide, by decide⟩ (fun z_4 σ_4 hz_4 => ?_)
  obtain ⟨rfl, rfl⟩ := hz_4
  have htl : nT P ≤ P.length := cnt_le _ _
  rw [show cnt (fun i => decide (isT P i)) P.length = nT P from rfl]
  refine gx_istore_n hx dX8_averageForm_7 (Nat.le_of_ble_eq_true rfl) ?_
  refine gx_iload_n hx dX8_averageForm_8 rfl ?_
  refine gx_if_ne (tgt := 23) hx dX8_averageForm_9 (by decide) ⟨by omega, by omega⟩ (fun h9 => ?_) (fun h9 => ?_)
  · first
    | (exfalso; omega)
    | (refine gx_aload_n hx dX8_averageForm_23 rfl ?_
       refine gx_getR hx flX8_56 dX8_averageForm_24 (by decide) rfl rfl ?_
       refine gx_callI hx (c_X7_sumOfForms _ _ hP) lkX8_302 mwX7_sumOfForms dX8_averageForm_27 (by decide) rfl rfl rfl rfl (Nat.le_of_ble_eq_true rfl) (by decide) ⟨by decide, by decide⟩ (fun z_27 σ_27 hz_27 => ?_)
       obtain ⟨rfl, rfl⟩ := hz_27
       rw [show cnt (fun i => decide (isT P i ∧ fm P i = 1)) P.length + 2 * cnt (fun i => decide (isT P i ∧ fm P i = 2)) P.length = sumF P from rfl]
       exact hret _ _ _ _ _ _ _ _ (by decide) (by decide) dX8_averageForm_30 dX8_averageForm_31 dX8_averageForm_32 dX8_averageForm_33 dX8_averageForm_34 rfl (av_ok (sumF_le hok) (by omega) (by omega)).1 ⟨by show nT P ≠ 0; omega, rfl, hC.refl⟩)
  · first
    | (exfalso; omega)
    | (refine gx_throwW 27 hx hq excARE (by decide) rfl dX8_averageForm_12 dX8_averageForm_15 dX8_averageForm_16 dX8_averageForm_19 dX8_averageForm_22 (Nat.le_of_ble_eq_true rfl) (by decide) (by decide) ?_
       exact ⟨rfl, by show nT P = 0; omega, hC.refl⟩)
set_option maxRecDepth 20000 in
set_option maxHeartbeats 400000 in
theorem c_X9_averageForm (g : Gm) (l : Launch) {σ : Sg} {A : AS} (hR : MR σ A) : KD g l yX9_averageForm cX9_averageForm 4 4 0 0 [.inr 70] σ (fun r σ' => (nT A.1 = 0 ∧ MZ σ σ' A 1) ∨ (nT A.1 ≠ 0 ∧ r = avD (sumF A.1) (nT A.1) ∧ MZ σ σ' A 0)) := by
  refine startD (own := RX9) (by decide +kernel) rfl (Nat.le_of_ble_eq_true rfl) ?_
  intro X hx _ _ hret hret0
  obtain ⟨P, hs, sv, T, er⟩ := A
  obtain ⟨hM, hH, hS, hT, he1, he2, he3, hN⟩ := id hR
  obtain ⟨hok, hn, hit⟩ := id hM
  have hl40 := hok.1
  refine gx_aload_n hx dX9_averageForm_0 rfl ?_
  refine gx_callI hx (c_X9_transfers _ _ hM) lkX9_156 mwX9_transfers dX9_averageForm_1 (by decide) rfl rfl rfl rfl (Nat.le_of_ble_eq_true rfl) (by decide) ⟨by decide, by decide⟩ (fun z_1 σ_1 hz_1 => ?_)
  obtain ⟨rfl, rfl⟩ := hz_1
  have htl : nT P ≤ P.length := cnt_le _ _
  refine gx_istore_n hx dX9_averageForm_4 (Nat.le_of_ble_eq_true rfl) ?_
  refine gx_aload_n hx dX9_averageForm_5 rfl ?_
  refine gx_iload_n hx dX9_averageForm_6 rfl ?_
  refine gx_if_ne (tgt := 14) hx dX9_averageForm_7 (by decide) ⟨by omega, by omega⟩ (fun h7 => ?_) (fun h7 => ?_)
  · first
    | (exfalso; omega)
    | (refine gx_iconst hx dX9_averageForm_14 ?_
       refine gx_put hx fpX9_46 dX9_averageForm_15 (by decide) rfl rfl rfl rfl 0 rfl ?_
       refine gx_iload_n hx dX9_averageForm_18 rfl ?_
       refine gx_if_ne (tgt := 24) hx dX9_averageForm_19 (by decide) ⟨by omega, by omega⟩ (fun h19 => ?_) (fun h19 => ?_)
       · first
         | (exfalso; omega)
         | (refine gx_iconst hx dX9_averageForm_24 ?_
            refine gx_istore_n hx dX9_averageForm_25 (Nat.le_of_ble_eq_true rfl) ?_
            refine gx_iconst hx dX9_averageForm_26 ?_
            refine gx_istore_n hx dX9_averageForm_27 (Nat.le_of_ble_eq_true rfl) ?_
            have hM1 : MP (upd2 σ 70 0 0) P := hM.same (upd2_other (k := 70) (z := 0) (v := 0) 71 (by decide))
            have hn1 := hM1.2.1
            refine gx_loop (α := Nat) (fun k => k ≤ P.length) (fun k => P.length - k) (fun k => [some (.inr 70), some (.inl (nT P : Int)), some (.inl (sFk P k : Int)), some (.inl (k : Int))]) (fun _ => []) (fun _ => upd2 σ 70 0 0) ?_ 0 (Nat.zero_le _)
            intro k hk ih
            have hst := sFk_s hok k
            have hri := hM1.rg k
            have hft := (fm_T hok k).1
            refine gx_iload_n hx dX9_averageForm_28 rfl ?_
            refine gx_aload_n hx dX9_averageForm_29 rfl ?_
            refine gx_getR hx flX9_7 dX9_averageForm_30 (by decide) rfl rfl ?_
            refine gx_iconst hx dX9_averageForm_33 ?_
            
            refine gx_iald hx dX9_averageForm_34 (by decide) rfl (by omega) (by omega) (by decide) ?_
            rw [hn1]
            refine gx_icmp_ge (tgt := 64) hx dX9_averageForm_35 (by decide) ⟨by omega, by omega⟩ ⟨by omega, by omega⟩ (fun h35 => ?_) (fun h35 => ?_)
            · first
              | (exfalso; omega)
              | (refine gx_iload_n hx dX9_averageForm_64 rfl ?_
                 have ek : k = P.length := by omega
                 subst ek
                 exact hret _ _ (sFk P P.length) _ _ _ _ _ (by decide) (by decide) dX9_averageForm_65 dX9_averageForm_66 dX9_averageForm_67 dX9_averageForm_68 dX9_averageForm_69 rfl (av_ok (s := sFk P P.length) (sumF_le hok) (by omega) (by omega)).1 (Or.inr ⟨by show nT P ≠ 0; omega, rfl, MZ.q hR FR.refl 0 0 rfl⟩))
            · first
              | (exfalso; omega)
              | (refine gx_iload_n hx dX9_averageForm_38 rfl ?_
                 refine gx_aload_n hx dX9_averageForm_39 rfl ?_
                 refine gx_iload_n hx dX9_averageForm_40 rfl ?_
                 refine gx_callI hx (c_X9_isTransfer (i := k) _ _ hM1 (by omega)) lkX9_146 mwX9_isTransfer dX9_averageForm_41 (by decide) rfl rfl rfl rfl (Nat.le_of_ble_eq_true rfl) (by decide) ⟨by decide, by decide⟩ (fun z_41 σ_41 hz_41 => ?_)
                 obtain ⟨e9, rfl⟩ := hz_41
                 replace e9 := ite10 e9
                 refine gx_if_eq (tgt := 55) hx dX9_averageForm_44 (by decide) ⟨by omega, by omega⟩ (fun h44 => ?_) (fun h44 => ?_)
                 · first
                   | (exfalso; omega)
                   | (refine gx_iconst hx dX9_averageForm_55 ?_
                      refine gx_iadd hx dX9_averageForm_56 ?_
                      refine gx_istore_n hx dX9_averageForm_57 (Nat.le_of_ble_eq_true rfl) ?_
                      refine gx_iinc hx dX9_averageForm_58 (Nat.le_of_ble_eq_true rfl) rfl ?_
                      refine gx_goto (tgt := 28) hx dX9_averageForm_61 (by decide) ?_
                      first
                      | (have ht9 : isT P k := by omega
                         rw [if_pos ht9] at hst
                         refine GJ.cong ?_ rfl rfl (ih (k + 1) (by omega) (by omega))
                         rw [hst, show ((sFk P k + fm P k : Nat) : Int) = (sFk P k : Int) + (fm P k : Int) by omega]
                         rfl)
                      | (have ht9 : ¬ isT P k := by omega
                         rw [if_neg ht9] at hst
                         refine GJ.cong ?_ rfl rfl (ih (k + 1) (by omega) (by omega))
                         rw [hst, show ((sFk P k + 0 : Nat) : Int) = (sFk P k : Int) + 0 by omega]
                         rfl))
                 · first
                   | (exfalso; omega)
                   | (refine gx_aload_n hx dX9_averageForm_47 rfl ?_
                      refine gx_iload_n hx dX9_averageForm_48 rfl ?_
                      refine gx_callI hx (c_X9_form (i := k) _ _ hM1 (by omega)) lkX9_83 mwX9_form dX9_averageForm_49 (by decide) rfl rfl rfl rfl (Nat.le_of_ble_eq_true rfl) (by decide) ⟨by decide, by decide⟩ (fun z_49 σ_49 hz_49 => ?_)
                      obtain ⟨rfl, rfl⟩ := hz_49
                      refine gx_goto (tgt := 56) hx dX9_averageForm_52 (by decide) ?_
                      refine gx_iadd hx dX9_averageForm_56 ?_
                      refine gx_istore_n hx dX9_averageForm_57 (Nat.le_of_ble_eq_true rfl) ?_
                      refine gx_iinc hx dX9_averageForm_58 (Nat.le_of_ble_eq_true rfl) rfl ?_
                      refine gx_goto (tgt := 28) hx dX9_averageForm_61 (by decide) ?_
                      first
                      | (have ht9 : isT P k := by omega
                         rw [if_pos ht9] at hst
                         refine GJ.cong ?_ rfl rfl (ih (k + 1) (by omega) (by omega))
                         rw [hst, show ((sFk P k + fm P k : Nat) : Int) = (sFk P k : Int) + (fm P k : Int) by omega]
                         rfl)
                      | (have ht9 : ¬ isT P k := by omega
                         rw [if_neg ht9] at hst
                         refine GJ.cong ?_ rfl rfl (ih (k + 1) (by omega) (by omega))
                         rw [hst, show ((sFk P k + 0 : Nat) : Int) = (sFk P k : Int) + 0 by omega]
                         rfl))))
       · first
         | (exfalso; omega)
         | (exact hret0 _ _ _ _ _ (by decide) (by decide) dX9_averageForm_22 dX9_averageForm_23 (Or.inl ⟨by show nT P = 0; omega, MZ.q hR FR.refl 1 1 rfl⟩)))
  · first
    | (exfalso; omega)
    | (refine gx_iconst hx dX9_averageForm_10 ?_
       refine gx_goto (tgt := 15) hx dX9_averageForm_11 (by decide) ?_
       refine gx_put hx fpX9_46 dX9_averageForm_15 (by decide) rfl rfl rfl rfl 0 rfl ?_
       refine gx_iload_n hx dX9_averageForm_18 rfl ?_
       refine gx_if_ne (tgt := 24) hx dX9_averageForm_19 (by decide) ⟨by omega, by omega⟩ (fun h19 => ?_) (fun h19 => ?_)
       · first
         | (exfalso; omega)
         | (refine gx_iconst hx dX9_averageForm_24 ?_
            refine gx_istore_n hx dX9_averageForm_25 (Nat.le_of_ble_eq_true rfl) ?_
            refine gx_iconst hx dX9_averageForm_26 ?_
            refine gx_istore_n hx dX9_averageForm_27 (Nat.le_of_ble_eq_true rfl) ?_
            have hM1 : MP (upd2 σ 70 0 0) P := hM.same (upd2_other (k := 70) (z := 0) (v := 0) 71 (by decide))
            have hn1 := hM1.2.1
            refine gx_loop (α := Nat) (fun k => k ≤ P.length) (fun k => P.length - k) (fun k => [some (.inr 70), some (.inl (nT P : Int)), some (.inl (sFk P k : Int)), some (.inl (k : Int))]) (fun _ => []) (fun _ => upd2 σ 70 0 0) ?_ 0 (Nat.zero_le _)
            intro k hk ih
            have hst := sFk_s hok k
            have hri := hM1.rg k
            have hft := (fm_T hok k).1
            refine gx_iload_n hx dX9_averageForm_28 rfl ?_
            refine gx_aload_n hx dX9_averageForm_29 rfl ?_
            refine gx_getR hx flX9_7 dX9_averageForm_30 (by decide) rfl rfl ?_
            refine gx_iconst hx dX9_averageForm_33 ?_
            
            refine gx_iald hx dX9_averageForm_34 (by decide) rfl (by omega) (by omega) (by decide) ?_
            rw [hn1]
            refine gx_icmp_ge (tgt := 64) hx dX9_averageForm_35 (by decide) ⟨by omega, by omega⟩ ⟨by omega, by omega⟩ (fun h35 => ?_) (fun h35 => ?_)
            · first
              | (exfalso; omega)
              | (refine gx_iload_n hx dX9_averageForm_64 rfl ?_
                 have ek : k = P.length := by omega
                 subst ek
                 exact hret _ _ (sFk P P.length) _ _ _ _ _ (by decide) (by decide) dX9_averageForm_65 dX9_averageForm_66 dX9_averageForm_67 dX9_averageForm_68 dX9_averageForm_69 rfl (av_ok (s := sFk P P.length) (sumF_le hok) (by omega) (by omega)).1 (Or.inr ⟨by show nT P ≠ 0; omega, rfl, MZ.q hR FR.refl 0 0 rfl⟩))
            · first
              | (exfalso; omega)
              | (refine gx_iload_n hx dX9_averageForm_38 rfl ?_
                 refine gx_aload_n hx dX9_averageForm_39 rfl ?_
                 refine gx_iload_n hx dX9_averageForm_40 rfl ?_
                 refine gx_callI hx (c_X9_isTransfer (i := k) _ _ hM1 (by omega)) lkX9_146 mwX9_isTransfer dX9_averageForm_41 (by decide) rfl rfl rfl rfl (Nat.le_of_ble_eq_true rfl) (by decide) ⟨by decide, by decide⟩ (fun z_41 σ_41 hz_41 => ?_)
                 obtain ⟨e9, rfl⟩ := hz_41
                 replace e9 := ite10 e9
                 refine gx_if_eq (tgt := 55) hx dX9_averageForm_44 (by decide) ⟨by omega, by omega⟩ (fun h44 => ?_) (fun h44 => ?_)
                 · first
                   | (exfalso; omega)
                   | (refine gx_iconst hx dX9_averageForm_55 ?_
                      refine gx_iadd hx dX9_averageForm_56 ?_
                      refine gx_istore_n hx dX9_averageForm_57 (Nat.le_of_ble_eq_true rfl) ?_
                      refine gx_iinc hx dX9_averageForm_58 (Nat.le_of_ble_eq_true rfl) rfl ?_
                      refine gx_goto (tgt := 28) hx dX9_averageForm_61 (by decide) ?_
                      first
                      | (have ht9 : isT P k := by omega
                         rw [if_pos ht9] at hst
                         refine GJ.cong ?_ rfl rfl (ih (k + 1) (by omega) (by omega))
                         rw [hst, show ((sFk P k + fm P k : Nat) : Int) = (sFk P k : Int) + (fm P k : Int) by omega]
                         rfl)
                      | (have ht9 : ¬ isT P k := by omega
                         rw [if_neg ht9] at hst
                         refine GJ.cong ?_ rfl rfl (ih (k + 1) (by omega) (by omega))
                         rw [hst, show ((sFk P k + 0 : Nat) : Int) = (sFk P k : Int) + 0 by omega]
                         rfl))
                 · first
                   | (exfalso; omega)
                   | (refine gx_aload_n hx dX9_averageForm_47 rfl ?_
                      refine gx_iload_n hx dX9_averageForm_48 rfl ?_
                      refine gx_callI hx (c_X9_form (i := k) _ _ hM1 (by omega)) lkX9_83 mwX9_form dX9_averageForm_49 (by decide) rfl rfl rfl rfl (Nat.le_of_ble_eq_true rfl) (by decide) ⟨by decide, by decide⟩ (fun z_49 σ_49 hz_49 => ?_)
                      obtain ⟨rfl, rfl⟩ := hz_49
                      refine gx_goto (tgt := 56) hx dX9_averageForm_52 (by decide) ?_
                      refine gx_iadd hx dX9_averageForm_56 ?_
                      refine gx_istore_n hx dX9_averageForm_57 (Nat.le_of_ble_eq_true rfl) ?_
                      refine gx_iinc hx dX9_averageForm_58 (Nat.le_of_ble_eq_true rfl) rfl ?_
                      refine gx_goto (tgt := 28) hx dX9_averageForm_61 (by decide) ?_
                      first
                      | (have ht9 : isT P k := by omega
                         rw [if_pos ht9] at hst
                         refine GJ.cong ?_ rfl rfl (ih (k + 1) (by omega) (by omega))
                         rw [hst, show ((sFk P k + fm P k : Nat) : Int) = (sFk P k : Int) + (fm P k : Int) by omega]
                         rfl)
                      | (have ht9 : ¬ isT P k := by omega
                         rw [if_neg ht9] at hst
                         refine GJ.cong ?_ rfl rfl (ih (k + 1) (by omega) (by omega))
                         rw [hst, show ((sFk P k + 0 : Nat) : Int) = (sFk P k : Int) + 0 by omega]
                         rfl))))
       · first
         | (exfalso; omega)
         | (exact hret0 _ _ _ _ _ (by decide) (by decide) dX9_averageForm_22 dX9_averageForm_23 (Or.inl ⟨by show nT P = 0; omega, MZ.q hR FR.refl 1 1 rfl⟩)))
