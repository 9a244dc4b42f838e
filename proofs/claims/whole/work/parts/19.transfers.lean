/-! Transfers -/
set_option maxRecDepth 20000 in
set_option maxHeartbeats 400000 in
theorem c_X7_number (g : Gm) (l : Launch) {σ : Sg} {P : List It} (hP : PR σ 0 P) : KI g l yX7_number cX7_number 3 ((some .int)) 2 0 0 [.inr 62] σ (fun r σ' => r = (cnt (fun i => decide (isT P i)) P.length : Int) ∧ σ = σ') := by
  refine startI (own := RX7) (by decide +kernel) rfl (Nat.le_of_ble_eq_true rfl) ?_
  intro X hx _ _ hret
  obtain ⟨hok, hc, hg9⟩ := id hP
  have hn := hok.1
  refine gx_iconst hx dX7_number_0 ?_
  refine gx_istore_n hx dX7_number_1 (Nat.le_of_ble_eq_true rfl) ?_
  refine gx_iconst hx dX7_number_2 ?_
  refine gx_istore_n hx dX7_number_3 (Nat.le_of_ble_eq_true rfl) ?_
  refine gx_loop (α := Nat) (fun i => i ≤ P.length) (fun i => P.length - i) (fun i => [some (.inr 62), some (.inl (cnt (fun i => decide (isT P i)) i : Int)), some (.inl (i : Int))]) (fun _ => []) (fun _ => σ) ?_ 0 (Nat.zero_le _)
  intro i hi ih
  have hcl := cnt_le (fun i => decide (isT P i)) i
  refine gx_iload_n hx dX7_number_4 rfl ?_
  refine gx_aload_n hx dX7_number_5 rfl ?_
  refine gx_getR hx flX7_9 dX7_number_6 (by decide) rfl rfl ?_
  refine gx_callI hx (c_X6_count (j := 0) _ _ (by decide) hP) lkX7_23 mwX6_count dX7_number_9 (by decide) rfl rfl rfl rfl (Nat.le_of_ble_eq_true rfl) (by decide) ⟨by decide, by decide⟩ (fun z_9 σ_9 hz_9 => ?_)
  obtain ⟨rfl, rfl⟩ := hz_9
  refine gx_icmp_ge (tgt := 35) hx dX7_number_12 (by decide) ⟨by omega, by omega⟩ ⟨by omega, by omega⟩ (fun h12 => ?_) (fun h12 => ?_)
  · first
    | (exfalso; omega)
    | (refine gx_iload_n hx dX7_number_35 rfl ?_
       refine hret _ _ _ _ _ _ _ (by decide) (by decide) dX7_number_36 rfl rfl ?_
       have ei : i = P.length := by omega
       subst ei
       exact ⟨rfl, rfl⟩)
  · first
    | (exfalso; omega)
    | (refine gx_aload_n hx dX7_number_15 rfl ?_
       refine gx_getR hx flX7_9 dX7_number_16 (by decide) rfl rfl ?_
       refine gx_iload_n hx dX7_number_19 rfl ?_
       refine gx_callI hx (c_X6_isTransfer (j := 0) (i := i) _ _ (by decide) hP (by omega)) lkX7_29 mwX6_isTransfer dX7_number_20 (by decide) rfl rfl rfl rfl (Nat.le_of_ble_eq_true rfl) (by decide) ⟨by decide, by decide⟩ (fun z_20 σ_20 hz_20 => ?_)
       obtain ⟨e9, rfl⟩ := hz_20
       have t9 := ite10 e9
       refine gx_if_eq (tgt := 29) hx dX7_number_23 (by decide) ⟨by omega, by omega⟩ (fun h23 => ?_) (fun h23 => ?_)
       · first
         | (exfalso; omega)
         | (refine gx_iinc hx dX7_number_29 (Nat.le_of_ble_eq_true rfl) rfl ?_
            refine gx_goto (tgt := 4) hx dX7_number_32 (by decide) ?_
            refine GJ.cong ?_ rfl rfl (ih (i + 1) (by omega) (by omega))
            first
            | (rw [cnt_s1 (p := (fun i => decide (isT P i))) (i := i) (by simp only [decide_eq_true_eq, isT]; omega)]; rfl)
            | (rw [cnt_s0 (p := (fun i => decide (isT P i))) (i := i) (by simp only [decide_eq_false_iff_not, isT]; omega)]; rfl))
       · first
         | (exfalso; omega)
         | (refine gx_iinc hx dX7_number_26 (Nat.le_of_ble_eq_true rfl) rfl ?_
            refine gx_iinc hx dX7_number_29 (Nat.le_of_ble_eq_true rfl) rfl ?_
            refine gx_goto (tgt := 4) hx dX7_number_32 (by decide) ?_
            refine GJ.cong ?_ rfl rfl (ih (i + 1) (by omega) (by omega))
            first
            | (rw [cnt_s1 (p := (fun i => decide (isT P i))) (i := i) (by simp only [decide_eq_true_eq, isT]; omega)]; rfl)
            | (rw [cnt_s0 (p := (fun i => decide (isT P i))) (i := i) (by simp only [decide_eq_false_iff_not, isT]; omega)]; rfl)))
set_option maxRecDepth 20000 in
set_option maxHeartbeats 400000 in
theorem c_X7_numberWith (g : Gm) (l : Launch) {σ : Sg} {P : List It} {f : Nat} (hP : PR σ 0 P) (hf : f ≤ 2) : KI g l yX7_numberWith cX7_numberWith 4 ((some .int)) 2 0 0 [.inr 62, .inl (f : Int)] σ (fun r σ' => r = (cnt (fun i => decide (isT P i ∧ fm P i = f)) P.length : Int) ∧ σ = σ') := by
  refine startI (own := RX7) (by decide +kernel) rfl (Nat.le_of_ble_eq_true rfl) ?_
  intro X hx _ _ hret
  obtain ⟨hok, hc, hg9⟩ := id hP
  have hn := hok.1
  refine gx_iconst hx dX7_numberWith_0 ?_
  refine gx_istore_n hx dX7_numberWith_1 (Nat.le_of_ble_eq_true rfl) ?_
  refine gx_iconst hx dX7_numberWith_2 ?_
  refine gx_istore_n hx dX7_numberWith_3 (Nat.le_of_ble_eq_true rfl) ?_
  refine gx_loop (α := Nat) (fun i => i ≤ P.length) (fun i => P.length - i) (fun i => [some (.inr 62), some (.inl (f : Int)), some (.inl (cnt (fun i => decide (isT P i ∧ fm P i = f)) i : Int)), some (.inl (i : Int))]) (fun _ => []) (fun _ => σ) ?_ 0 (Nat.zero_le _)
  intro i hi ih
  have hcl := cnt_le (fun i => decide (isT P i ∧ fm P i = f)) i
  have hb := hok.2.1 i
  unfold okI at hb
  refine gx_iload_n hx dX7_numberWith_4 rfl ?_
  refine gx_aload_n hx dX7_numberWith_5 rfl ?_
  refine gx_getR hx flX7_9 dX7_numberWith_6 (by decide) rfl rfl ?_
  refine gx_callI hx (c_X6_count (j := 0) _ _ (by decide) hP) lkX7_23 mwX6_count dX7_numberWith_9 (by decide) rfl rfl rfl rfl (Nat.le_of_ble_eq_true rfl) (by decide) ⟨by decide, by decide⟩ (fun z_9 σ_9 hz_9 => ?_)
  obtain ⟨rfl, rfl⟩ := hz_9
  refine gx_icmp_ge (tgt := 47) hx dX7_numberWith_12 (by decide) ⟨by omega, by omega⟩ ⟨by omega, by omega⟩ (fun h12 => ?_) (fun h12 => ?_)
  · first
    | (exfalso; omega)
    | (refine gx_iload_n hx dX7_numberWith_47 rfl ?_
       refine hret _ _ _ _ _ _ _ (by decide) (by decide) dX7_numberWith_48 rfl rfl ?_
       have ei : i = P.length := by omega
       subst ei
       exact ⟨rfl, rfl⟩)
  · first
    | (exfalso; omega)
    | (refine gx_aload_n hx dX7_numberWith_15 rfl ?_
       refine gx_getR hx flX7_9 dX7_numberWith_16 (by decide) rfl rfl ?_
       refine gx_iload_n hx dX7_numberWith_19 rfl ?_
       refine gx_callI hx (c_X6_isTransfer (j := 0) (i := i) _ _ (by decide) hP (by omega)) lkX7_29 mwX6_isTransfer dX7_numberWith_20 (by decide) rfl rfl rfl rfl (Nat.le_of_ble_eq_true rfl) (by decide) ⟨by decide, by decide⟩ (fun z_20 σ_20 hz_20 => ?_)
       obtain ⟨e9, rfl⟩ := hz_20
       have t9 := ite10 e9
       refine gx_if_eq (tgt := 41) hx dX7_numberWith_23 (by decide) ⟨by omega, by omega⟩ (fun h23 => ?_) (fun h23 => ?_)
       · first
         | (exfalso; omega)
         | (refine gx_iinc hx dX7_numberWith_41 (Nat.le_of_ble_eq_true rfl) rfl ?_
            refine gx_goto (tgt := 4) hx dX7_numberWith_44 (by decide) ?_
            refine GJ.cong ?_ rfl rfl (ih (i + 1) (by omega) (by omega))
            first
            | (rw [cnt_s1 (p := (fun i => decide (isT P i ∧ fm P i = f))) (i := i) (by simp only [decide_eq_true_eq, isT]; omega)]; rfl)
            | (rw [cnt_s0 (p := (fun i => decide (isT P i ∧ fm P i = f))) (i := i) (by simp only [decide_eq_false_iff_not, isT]; omega)]; rfl))
       · first
         | (exfalso; omega)
         | (refine gx_aload_n hx dX7_numberWith_26 rfl ?_
            refine gx_getR hx flX7_9 dX7_numberWith_27 (by decide) rfl rfl ?_
            refine gx_iload_n hx dX7_numberWith_30 rfl ?_
            refine gx_callI hx (c_X6_formAt (j := 0) (i := i) _ _ (by decide) hP (by omega)) lkX7_33 mwX6_formAt dX7_numberWith_31 (by decide) rfl rfl rfl rfl (Nat.le_of_ble_eq_true rfl) (by decide) ⟨by decide, by decide⟩ (fun z_31 σ_31 hz_31 => ?_)
            obtain ⟨rfl, rfl⟩ := hz_31
            refine gx_iload_n hx dX7_numberWith_34 rfl ?_
            refine gx_icmp_ne (tgt := 41) hx dX7_numberWith_35 (by decide) ⟨by omega, by omega⟩ ⟨by omega, by omega⟩ (fun h35 => ?_) (fun h35 => ?_)
            · first
              | (exfalso; omega)
              | (refine gx_iinc hx dX7_numberWith_41 (Nat.le_of_ble_eq_true rfl) rfl ?_
                 refine gx_goto (tgt := 4) hx dX7_numberWith_44 (by decide) ?_
                 refine GJ.cong ?_ rfl rfl (ih (i + 1) (by omega) (by omega))
                 first
                 | (rw [cnt_s1 (p := (fun i => decide (isT P i ∧ fm P i = f))) (i := i) (by simp only [decide_eq_true_eq, isT]; omega)]; rfl)
                 | (rw [cnt_s0 (p := (fun i => decide (isT P i ∧ fm P i = f))) (i := i) (by simp only [decide_eq_false_iff_not, isT]; omega)]; rfl))
            · first
              | (exfalso; omega)
              | (refine gx_iinc hx dX7_numberWith_38 (Nat.le_of_ble_eq_true rfl) rfl ?_
                 refine gx_iinc hx dX7_numberWith_41 (Nat.le_of_ble_eq_true rfl) rfl ?_
                 refine gx_goto (tgt := 4) hx dX7_numberWith_44 (by decide) ?_
                 refine GJ.cong ?_ rfl rfl (ih (i + 1) (by omega) (by omega))
                 first
                 | (rw [cnt_s1 (p := (fun i => decide (isT P i ∧ fm P i = f))) (i := i) (by simp only [decide_eq_true_eq, isT]; omega)]; rfl)
                 | (rw [cnt_s0 (p := (fun i => decide (isT P i ∧ fm P i = f))) (i := i) (by simp only [decide_eq_false_iff_not, isT]; omega)]; rfl))))
set_option maxRecDepth 20000 in
set_option maxHeartbeats 400000 in
theorem c_X7_sumOfForms (g : Gm) (l : Launch) {σ : Sg} {P : List It} (hP : PR σ 0 P) : KI g l yX7_sumOfForms cX7_sumOfForms 1 ((some .int)) 3 0 0 [.inr 62] σ (fun r σ' => r = ((cnt (fun i => decide (isT P i ∧ fm P i = 1)) P.length + 2 * cnt (fun i => decide (isT P i ∧ fm P i = 2)) P.length : Nat) : Int) ∧ σ = σ') := by
  refine startI (own := RX7) (by decide +kernel) rfl (Nat.le_of_ble_eq_true rfl) ?_
  intro X hx _ _ hret
  obtain ⟨hok, hc, hg9⟩ := id hP
  have hn := hok.1
  refine gx_aload_n hx dX7_sumOfForms_0 rfl ?_
  refine gx_iconst hx dX7_sumOfForms_1 ?_
  refine gx_callI hx (c_X7_numberWith (f := 1) _ _ hP (by decide)) lkX7_37 mwX7_numberWith dX7_sumOfForms_2 (by decide) rfl rfl rfl rfl (Nat.le_of_ble_eq_true rfl) (by decide) ⟨by decide, by decide⟩ (fun z_2 σ_2 hz_2 => ?_)
  obtain ⟨rfl, rfl⟩ := hz_2
  refine gx_iconst hx dX7_sumOfForms_5 ?_
  refine gx_aload_n hx dX7_sumOfForms_6 rfl ?_
  refine gx_iconst hx dX7_sumOfForms_7 ?_
  refine gx_callI hx (c_X7_numberWith (f := 2) _ _ hP (by decide)) lkX7_37 mwX7_numberWith dX7_sumOfForms_8 (by decide) rfl rfl rfl rfl (Nat.le_of_ble_eq_true rfl) (by decide) ⟨by decide, by decide⟩ (fun z_8 σ_8 hz_8 => ?_)
  obtain ⟨rfl, rfl⟩ := hz_8
  refine gx_imul hx dX7_sumOfForms_11 ?_
  refine gx_iadd hx dX7_sumOfForms_12 ?_
  refine hret _ _ _ _ _ _ _ (by decide) (by decide) dX7_sumOfForms_13 rfl rfl ?_
  exact ⟨by omega, rfl⟩
set_option maxRecDepth 20000 in
set_option maxHeartbeats 400000 in
theorem c_X7_isDefined (g : Gm) (l : Launch) {σ : Sg} {P : List It} {i : Nat} (hP : PR σ 0 P) (hL : LR σ P) (hi : i < P.length) (ht : isT P i) : KI g l yX7_isDefined cX7_isDefined 2 ((some .boolean)) 1 0 0 [.inr 62, .inl (i : Int)] σ (fun r σ' => ((r = 1 ∧ dfn P (op P i) P.length ≠ -1) ∨ (r = 0 ∧ dfn P (op P i) P.length = -1)) ∧ σ = σ') := by
  refine startI (own := RX7) (by decide +kernel) rfl (Nat.le_of_ble_eq_true rfl) ?_
  intro X hx _ _ hret
  obtain ⟨hok, hc, hg9⟩ := id hP
  have hn := hok.1
  have hb := hok.2.1 i
  unfold okI at hb
  have hdl := dfn_lt P (op P i) P.length
  unfold isT at ht
  refine gx_aload_n hx dX7_isDefined_0 rfl ?_
  refine gx_getR hx flX7_15 dX7_isDefined_1 (by decide) rfl rfl ?_
  refine gx_aload_n hx dX7_isDefined_4 rfl ?_
  refine gx_getR hx flX7_9 dX7_isDefined_5 (by decide) rfl rfl ?_
  refine gx_iload_n hx dX7_isDefined_8 rfl ?_
  refine gx_callI hx (c_X6_operandAt (j := 0) (i := i) _ _ (by decide) hP hi) lkX7_40 mwX6_operandAt dX7_isDefined_9 (by decide) rfl rfl rfl rfl (Nat.le_of_ble_eq_true rfl) (by decide) ⟨by decide, by decide⟩ (fun z_9 σ_9 hz_9 => ?_)
  obtain ⟨rfl, rfl⟩ := hz_9
  refine gx_callI hx (c_X5_definerOf (lb := op P i) _ _ hP hL (by omega)) lkX7_43 mwX5_definerOf dX7_isDefined_12 (by decide) rfl rfl rfl rfl (Nat.le_of_ble_eq_true rfl) (by decide) ⟨by decide, by decide⟩ (fun z_12 σ_12 hz_12 => ?_)
  obtain ⟨rfl, rfl⟩ := hz_12
  refine gx_iconst hx dX7_isDefined_15 ?_
  refine gx_icmp_eq (tgt := 23) hx dX7_isDefined_16 (by decide) ⟨by omega, by omega⟩ ⟨by omega, by omega⟩ (fun h16 => ?_) (fun h16 => ?_)
  · first
    | (exfalso; omega)
    | (refine gx_iconst hx dX7_isDefined_23 ?_
       refine hret _ _ _ _ _ _ _ (by decide) (by decide) dX7_isDefined_24 rfl rfl ?_
       exact ⟨by omega, rfl⟩)
  · first
    | (exfalso; omega)
    | (refine gx_iconst hx dX7_isDefined_19 ?_
       refine gx_goto (tgt := 24) hx dX7_isDefined_20 (by decide) ?_
       refine hret _ _ _ _ _ _ _ (by decide) (by decide) dX7_isDefined_24 rfl rfl ?_
       exact ⟨by omega, rfl⟩)
set_option maxRecDepth 20000 in
set_option maxHeartbeats 400000 in
theorem c_X7_numberUndefined (g : Gm) (l : Launch) {σ : Sg} {P : List It} (hP : PR σ 0 P) (hL : LR σ P) : KI g l yX7_numberUndefined cX7_numberUndefined 3 ((some .int)) 2 0 0 [.inr 62] σ (fun r σ' => r = (cnt (fun i => decide (isT P i ∧ dfn P (op P i) P.length = -1)) P.length : Int) ∧ σ = σ') := by
  refine startI (own := RX7) (by decide +kernel) rfl (Nat.le_of_ble_eq_true rfl) ?_
  intro X hx _ _ hret
  obtain ⟨hok, hc, hg9⟩ := id hP
  have hn := hok.1
  refine gx_iconst hx dX7_numberUndefined_0 ?_
  refine gx_istore_n hx dX7_numberUndefined_1 (Nat.le_of_ble_eq_true rfl) ?_
  refine gx_iconst hx dX7_numberUndefined_2 ?_
  refine gx_istore_n hx dX7_numberUndefined_3 (Nat.le_of_ble_eq_true rfl) ?_
  refine gx_loop (α := Nat) (fun i => i ≤ P.length) (fun i => P.length - i) (fun i => [some (.inr 62), some (.inl (cnt (fun i => decide (isT P i ∧ dfn P (op P i) P.length = -1)) i : Int)), some (.inl (i : Int))]) (fun _ => []) (fun _ => σ) ?_ 0 (Nat.zero_le _)
  intro i hi ih
  have hcl := cnt_le (fun i => decide (isT P i ∧ dfn P (op P i) P.length = -1)) i
  refine gx_iload_n hx dX7_numberUndefined_4 rfl ?_
  refine gx_aload_n hx dX7_numberUndefined_5 rfl ?_
  refine gx_getR hx flX7_9 dX7_numberUndefined_6 (by decide) rfl rfl ?_
  refine gx_callI hx (c_X6_count (j := 0) _ _ (by decide) hP) lkX7_23 mwX6_count dX7_numberUndefined_9 (by decide) rfl rfl rfl rfl (Nat.le_of_ble_eq_true rfl) (by decide) ⟨by decide, by decide⟩ (fun z_9 σ_9 hz_9 => ?_)
  obtain ⟨rfl, rfl⟩ := hz_9
  refine gx_icmp_ge (tgt := 43) hx dX7_numberUndefined_12 (by decide) ⟨by omega, by omega⟩ ⟨by omega, by omega⟩ (fun h12 => ?_) (fun h12 => ?_)
  · first
    | (exfalso; omega)
    | (refine gx_iload_n hx dX7_numberUndefined_43 rfl ?_
       refine hret _ _ _ _ _ _ _ (by decide) (by decide) dX7_numberUndefined_44 rfl rfl ?_
       have ei : i = P.length := by omega
       subst ei
       exact ⟨rfl, rfl⟩)
  · first
    | (exfalso; omega)
    | (refine gx_aload_n hx dX7_numberUndefined_15 rfl ?_
       refine gx_getR hx flX7_9 dX7_numberUndefined_16 (by decide) rfl rfl ?_
       refine gx_iload_n hx dX7_numberUndefined_19 rfl ?_
       refine gx_callI hx (c_X6_isTransfer (j := 0) (i := i) _ _ (by decide) hP (by omega)) lkX7_29 mwX6_isTransfer dX7_numberUndefined_20 (by decide) rfl rfl rfl rfl (Nat.le_of_ble_eq_true rfl) (by decide) ⟨by decide, by decide⟩ (fun z_20 σ_20 hz_20 => ?_)
       obtain ⟨e9, rfl⟩ := hz_20
       have t9 := ite10 e9
       refine gx_if_eq (tgt := 37) hx dX7_numberUndefined_23 (by decide) ⟨by omega, by omega⟩ (fun h23 => ?_) (fun h23 => ?_)
       · first
         | (exfalso; omega)
         | (refine gx_iinc hx dX7_numberUndefined_37 (Nat.le_of_ble_eq_true rfl) rfl ?_
            refine gx_goto (tgt := 4) hx dX7_numberUndefined_40 (by decide) ?_
            refine GJ.cong ?_ rfl rfl (ih (i + 1) (by omega) (by omega))
            first
            | (rw [cnt_s1 (p := (fun i => decide (isT P i ∧ dfn P (op P i) P.length = -1))) (i := i) (by simp only [decide_eq_true_eq, isT]; omega)]; rfl)
            | (rw [cnt_s0 (p := (fun i => decide (isT P i ∧ dfn P (op P i) P.length = -1))) (i := i) (by simp only [decide_eq_false_iff_not, isT]; omega)]; rfl))
       · first
         | (exfalso; omega)
         | (refine gx_aload_n hx dX7_numberUndefined_26 rfl ?_
            refine gx_iload_n hx dX7_numberUndefined_27 rfl ?_
            refine gx_callI hx (c_X7_isDefined (i := i) _ _ hP hL (by omega) (by unfold isT; omega)) lkX7_48 mwX7_isDefined dX7_numberUndefined_28 (by decide) rfl rfl rfl rfl (Nat.le_of_ble_eq_true rfl) (by decide) ⟨by decide, by decide⟩ (fun z_28 σ_28 hz_28 => ?_)
            obtain ⟨d9, rfl⟩ := hz_28
            refine gx_if_ne (tgt := 37) hx dX7_numberUndefined_31 (by decide) ⟨by omega, by omega⟩ (fun h31 => ?_) (fun h31 => ?_)
            · first
              | (exfalso; omega)
              | (refine gx_iinc hx dX7_numberUndefined_37 (Nat.le_of_ble_eq_true rfl) rfl ?_
                 refine gx_goto (tgt := 4) hx dX7_numberUndefined_40 (by decide) ?_
                 refine GJ.cong ?_ rfl rfl (ih (i + 1) (by omega) (by omega))
                 first
                 | (rw [cnt_s1 (p := (fun i => decide (isT P i ∧ dfn P (op P i) P.length = -1))) (i := i) (by simp only [decide_eq_true_eq, isT]; omega)]; rfl)
                 | (rw [cnt_s0 (p := (fun i => decide (isT P i ∧ dfn P (op P i) P.length = -1))) (i := i) (by simp only [decide_eq_false_iff_not, isT]; omega)]; rfl))
            · first
              | (exfalso; omega)
              | (refine gx_iinc hx dX7_numberUndefined_34 (Nat.le_of_ble_eq_true rfl) rfl ?_
                 refine gx_iinc hx dX7_numberUndefined_37 (Nat.le_of_ble_eq_true rfl) rfl ?_
                 refine gx_goto (tgt := 4) hx dX7_numberUndefined_40 (by decide) ?_
                 refine GJ.cong ?_ rfl rfl (ih (i + 1) (by omega) (by omega))
                 first
                 | (rw [cnt_s1 (p := (fun i => decide (isT P i ∧ dfn P (op P i) P.length = -1))) (i := i) (by simp only [decide_eq_true_eq, isT]; omega)]; rfl)
                 | (rw [cnt_s0 (p := (fun i => decide (isT P i ∧ dfn P (op P i) P.length = -1))) (i := i) (by simp only [decide_eq_false_iff_not, isT]; omega)]; rfl))))
set_option maxRecDepth 20000 in
set_option maxHeartbeats 400000 in
theorem c_X7_displacementAt (g : Gm) (l : Launch) {σ : Sg} {P P0 : List It} {i : Nat} (hP : PR σ 0 P) (hL : LR σ P) (hK : KO P P0) (hY : YR σ P0) (hi : i < P.length) (ht : isT P i) (hd : 0 ≤ dfn P (op P i) P.length) : KI g l yX7_displacementAt cX7_displacementAt 3 ((some .int)) 1 0 0 [.inr 62, .inl (i : Int)] σ (fun r σ' => r = dsp P0 (fm P0) i ∧ σ = σ') := by
  refine startI (own := RX7) (by decide +kernel) rfl (Nat.le_of_ble_eq_true rfl) ?_
  intro X hx _ _ hret
  obtain ⟨hok, hc, hg9⟩ := id hP
  have hn := hok.1
  have hb := hok.2.1 i
  unfold okI at hb
  have hdl := dfn_lt P (op P i) P.length
  unfold isT at ht
  have hl0 := hK.1
  have ed : dfn P0 (op P0 i) P0.length = dfn P (op P i) P.length := by rw [← ko_dfn hK, ← hK.1, ← (hK.2 i).2]
  refine gx_aload_n hx dX7_displacementAt_0 rfl ?_
  refine gx_getR hx flX7_15 dX7_displacementAt_1 (by decide) rfl rfl ?_
  refine gx_aload_n hx dX7_displacementAt_4 rfl ?_
  refine gx_getR hx flX7_9 dX7_displacementAt_5 (by decide) rfl rfl ?_
  refine gx_iload_n hx dX7_displacementAt_8 rfl ?_
  refine gx_callI hx (c_X6_operandAt (j := 0) (i := i) _ _ (by decide) hP hi) lkX7_40 mwX6_operandAt dX7_displacementAt_9 (by decide) rfl rfl rfl rfl (Nat.le_of_ble_eq_true rfl) (by decide) ⟨by decide, by decide⟩ (fun z_9 σ_9 hz_9 => ?_)
  obtain ⟨rfl, rfl⟩ := hz_9
  refine gx_callI hx (c_X5_definerOf (lb := op P i) _ _ hP hL (by omega)) lkX7_43 mwX5_definerOf dX7_displacementAt_12 (by decide) rfl rfl rfl rfl (Nat.le_of_ble_eq_true rfl) (by decide) ⟨by decide, by decide⟩ (fun z_12 σ_12 hz_12 => ?_)
  obtain ⟨rfl, rfl⟩ := hz_12
  refine gx_istore_n hx dX7_displacementAt_15 (Nat.le_of_ble_eq_true rfl) ?_
  refine gx_aload_n hx dX7_displacementAt_16 rfl ?_
  refine gx_getR hx flX7_19 dX7_displacementAt_17 (by decide) rfl rfl ?_
  refine gx_iload_n hx dX7_displacementAt_20 rfl ?_
  refine gx_callI hx (c_X4_addressAt (P := P0) (i := (dfn P (op P i) P.length).toNat) _ _ (by omega) hY (by omega) (by omega)) lkX7_51 mwX4_addressAt dX7_displacementAt_21 (by decide) rfl rfl rfl rfl (Nat.le_of_ble_eq_true rfl) (by decide) ⟨by decide, by decide⟩ (fun z_21 σ_21 hz_21 => ?_)
  obtain ⟨rfl, rfl⟩ := hz_21
  refine gx_aload_n hx dX7_displacementAt_24 rfl ?_
  refine gx_getR hx flX7_19 dX7_displacementAt_25 (by decide) rfl rfl ?_
  refine gx_iload_n hx dX7_displacementAt_28 rfl ?_
  refine gx_iconst hx dX7_displacementAt_29 ?_
  refine gx_iadd hx dX7_displacementAt_30 ?_
  refine gx_callI hx (c_X4_addressAt (P := P0) (i := i + 1) _ _ (by omega) hY (by omega) (by omega)) lkX7_51 mwX4_addressAt dX7_displacementAt_31 (by decide) rfl rfl rfl rfl (Nat.le_of_ble_eq_true rfl) (by decide) ⟨by decide, by decide⟩ (fun z_31 σ_31 hz_31 => ?_)
  obtain ⟨rfl, rfl⟩ := hz_31
  refine gx_isub hx dX7_displacementAt_34 ?_
  refine hret _ _ _ _ _ _ _ (by decide) (by decide) dX7_displacementAt_35 rfl rfl ?_
  exact ⟨by unfold dsp; rw [ed], rfl⟩
set_option maxRecDepth 20000 in
set_option maxHeartbeats 400000 in
theorem c_X7_isFitting (g : Gm) (l : Launch) {σ : Sg} {P P0 : List It} {i : Nat} (hP : PR σ 0 P) (hL : LR σ P) (hK : KO P P0) (hY : YR σ P0) (hi : i < P.length) (ht : isT P i) (hd : 0 ≤ dfn P (op P i) P.length) (hdr : rg (dsp P0 (fm P0) i)) : KI g l yX7_isFitting cX7_isFitting 2 ((some .boolean)) 2 0 0 [.inr 62, .inl (i : Int)] σ (fun r σ' => ((r = 1 ∧ ndF (dsp P0 (fm P0) i) ≤ fm P i) ∨ (r = 0 ∧ fm P i < ndF (dsp P0 (fm P0) i))) ∧ σ = σ') := by
  refine startI (own := RX7) (by decide +kernel) rfl (Nat.le_of_ble_eq_true rfl) ?_
  intro X hx _ _ hret
  obtain ⟨hok, hc, hg9⟩ := id hP
  have hn := hok.1
  have hb := hok.2.1 i
  unfold okI at hb
  have hnd := ndF_le (dsp P0 (fm P0) i)
  have hl0 := hK.1
  refine gx_aload_n hx dX7_isFitting_0 rfl ?_
  refine gx_iload_n hx dX7_isFitting_1 rfl ?_
  refine gx_callI hx (c_X7_displacementAt _ _ hP hL hK hY hi ht hd) lkX7_56 mwX7_displacementAt dX7_isFitting_2 (by decide) rfl rfl rfl rfl (Nat.le_of_ble_eq_true rfl) (by decide) ⟨by decide, by decide⟩ (fun z_2 σ_2 hz_2 => ?_)
  obtain ⟨rfl, rfl⟩ := hz_2
  refine gx_callN hx (c_X8_formFor _ _ hdr) (List.mem_of_getElem? (i := 7) rfl) mwX8_formFor dX7_isFitting_5 rfl rfl (Nat.le_of_ble_eq_true rfl) (by decide) ⟨by decide, by decide⟩ (fun z_5 σ_5 hz_5 => ?_)
  obtain ⟨rfl, rfl⟩ := hz_5
  refine gx_aload_n hx dX7_isFitting_8 rfl ?_
  refine gx_getR hx flX7_9 dX7_isFitting_9 (by decide) rfl rfl ?_
  refine gx_iload_n hx dX7_isFitting_12 rfl ?_
  refine gx_callI hx (c_X6_formAt (j := 0) (i := i) _ _ (by decide) hP hi) lkX7_33 mwX6_formAt dX7_isFitting_13 (by decide) rfl rfl rfl rfl (Nat.le_of_ble_eq_true rfl) (by decide) ⟨by decide, by decide⟩ (fun z_13 σ_13 hz_13 => ?_)
  obtain ⟨rfl, rfl⟩ := hz_13
  refine gx_icmp_gt (tgt := 23) hx dX7_isFitting_16 (by decide) ⟨by omega, by omega⟩ ⟨by omega, by omega⟩ (fun h16 => ?_) (fun h16 => ?_)
  · first
    | (exfalso; omega)
    | (refine gx_iconst hx dX7_isFitting_23 ?_
       refine hret _ _ _ _ _ _ _ (by decide) (by decide) dX7_isFitting_24 rfl rfl ?_
       exact ⟨by omega, rfl⟩)
  · first
    | (exfalso; omega)
    | (refine gx_iconst hx dX7_isFitting_19 ?_
       refine gx_goto (tgt := 24) hx dX7_isFitting_20 (by decide) ?_
       refine hret _ _ _ _ _ _ _ (by decide) (by decide) dX7_isFitting_24 rfl rfl ?_
       exact ⟨by omega, rfl⟩)
set_option maxRecDepth 20000 in
set_option maxHeartbeats 400000 in
theorem c_X7_numberMisfitting (g : Gm) (l : Launch) {σ : Sg} {P : List It} (hP : PR σ 0 P) (hL : LR σ P) (hY : YR σ P) (hu : udf P = 0) : KI g l yX7_numberMisfitting cX7_numberMisfitting 3 ((some .int)) 3 0 0 [.inr 62] σ (fun r σ' => r = (cnt (fun i => decide (isT P i ∧ mis P (fm P) i)) P.length : Int) ∧ σ = σ') := by
  refine startI (own := RX7) (by decide +kernel) rfl (Nat.le_of_ble_eq_true rfl) ?_
  intro X hx _ _ hret
  obtain ⟨hok, hc, hg9⟩ := id hP
  have hn := hok.1
  refine gx_iconst hx dX7_numberMisfitting_0 ?_
  refine gx_istore_n hx dX7_numberMisfitting_1 (Nat.le_of_ble_eq_true rfl) ?_
  refine gx_iconst hx dX7_numberMisfitting_2 ?_
  refine gx_istore_n hx dX7_numberMisfitting_3 (Nat.le_of_ble_eq_true rfl) ?_
  refine gx_loop (α := Nat) (fun i => i ≤ P.length) (fun i => P.length - i) (fun i => [some (.inr 62), some (.inl (cnt (fun i => decide (isT P i ∧ mis P (fm P) i)) i : Int)), some (.inl (i : Int))]) (fun _ => []) (fun _ => σ) ?_ 0 (Nat.zero_le _)
  intro i hi ih
  have hcl := cnt_le (fun i => decide (isT P i ∧ mis P (fm P) i)) i
  refine gx_iload_n hx dX7_numberMisfitting_4 rfl ?_
  refine gx_aload_n hx dX7_numberMisfitting_5 rfl ?_
  refine gx_getR hx flX7_9 dX7_numberMisfitting_6 (by decide) rfl rfl ?_
  refine gx_callI hx (c_X6_count (j := 0) _ _ (by decide) hP) lkX7_23 mwX6_count dX7_numberMisfitting_9 (by decide) rfl rfl rfl rfl (Nat.le_of_ble_eq_true rfl) (by decide) ⟨by decide, by decide⟩ (fun z_9 σ_9 hz_9 => ?_)
  obtain ⟨rfl, rfl⟩ := hz_9
  refine gx_icmp_ge (tgt := 43) hx dX7_numberMisfitting_12 (by decide) ⟨by omega, by omega⟩ ⟨by omega, by omega⟩ (fun h12 => ?_) (fun h12 => ?_)
  · first
    | (exfalso; omega)
    | (refine gx_iload_n hx dX7_numberMisfitting_43 rfl ?_
       refine hret _ _ _ _ _ _ _ (by decide) (by decide) dX7_numberMisfitting_44 rfl rfl ?_
       have ei : i = P.length := by omega
       subst ei
       exact ⟨rfl, rfl⟩)
  · first
    | (exfalso; omega)
    | (refine gx_aload_n hx dX7_numberMisfitting_15 rfl ?_
       refine gx_getR hx flX7_9 dX7_numberMisfitting_16 (by decide) rfl rfl ?_
       refine gx_iload_n hx dX7_numberMisfitting_19 rfl ?_
       refine gx_callI hx (c_X6_isTransfer (j := 0) (i := i) _ _ (by decide) hP (by omega)) lkX7_29 mwX6_isTransfer dX7_numberMisfitting_20 (by decide) rfl rfl rfl rfl (Nat.le_of_ble_eq_true rfl) (by decide) ⟨by decide, by decide⟩ (fun z_20 σ_20 hz_20 => ?_)
       obtain ⟨e9, rfl⟩ := hz_20
       have t9 := ite10 e9
       refine gx_if_eq (tgt := 37) hx dX7_numberMisfitting_23 (by decide) ⟨by omega, by omega⟩ (fun h23 => ?_) (fun h23 => ?_)
       · first
         | (exfalso; omega)
         | (refine gx_iinc hx dX7_numberMisfitting_37 (Nat.le_of_ble_eq_true rfl) rfl ?_
            refine gx_goto (tgt := 4) hx dX7_numberMisfitting_40 (by decide) ?_
            refine GJ.cong ?_ rfl rfl (ih (i + 1) (by omega) (by omega))
            first
            | (rw [cnt_s1 (p := (fun i => decide (isT P i ∧ mis P (fm P) i))) (i := i) (by simp only [decide_eq_true_eq, isT, mis]; omega)]; rfl)
            | (rw [cnt_s0 (p := (fun i => decide (isT P i ∧ mis P (fm P) i))) (i := i) (by simp only [decide_eq_false_iff_not, isT, mis]; omega)]; rfl))
       · first
         | (exfalso; omega)
         | (refine gx_aload_n hx dX7_numberMisfitting_26 rfl ?_
            refine gx_iload_n hx dX7_numberMisfitting_27 rfl ?_
            refine gx_callI hx (c_X7_isFitting (i := i) _ _ hP hL (KO.refl P) hY (by omega) (by unfold isT; omega) (by have := udf_zero hu (i := i) (by omega) (by unfold isT; omega); omega) (by have := dsp_rg hok (fm P) (i := i) (by omega); exact ⟨by omega, by omega⟩)) lkX7_62 mwX7_isFitting dX7_numberMisfitting_28 (by decide) rfl rfl rfl rfl (Nat.le_of_ble_eq_true rfl) (by decide) ⟨by decide, by decide⟩ (fun z_28 σ_28 hz_28 => ?_)
            obtain ⟨d9, rfl⟩ := hz_28
            refine gx_if_ne (tgt := 37) hx dX7_numberMisfitting_31 (by decide) ⟨by omega, by omega⟩ (fun h31 => ?_) (fun h31 => ?_)
            · first
              | (exfalso; omega)
              | (refine gx_iinc hx dX7_numberMisfitting_37 (Nat.le_of_ble_eq_true rfl) rfl ?_
                 refine gx_goto (tgt := 4) hx dX7_numberMisfitting_40 (by decide) ?_
                 refine GJ.cong ?_ rfl rfl (ih (i + 1) (by omega) (by omega))
                 first
                 | (rw [cnt_s1 (p := (fun i => decide (isT P i ∧ mis P (fm P) i))) (i := i) (by simp only [decide_eq_true_eq, isT, mis]; omega)]; rfl)
                 | (rw [cnt_s0 (p := (fun i => decide (isT P i ∧ mis P (fm P) i))) (i := i) (by simp only [decide_eq_false_iff_not, isT, mis]; omega)]; rfl))
            · first
              | (exfalso; omega)
              | (refine gx_iinc hx dX7_numberMisfitting_34 (Nat.le_of_ble_eq_true rfl) rfl ?_
                 refine gx_iinc hx dX7_numberMisfitting_37 (Nat.le_of_ble_eq_true rfl) rfl ?_
                 refine gx_goto (tgt := 4) hx dX7_numberMisfitting_40 (by decide) ?_
                 refine GJ.cong ?_ rfl rfl (ih (i + 1) (by omega) (by omega))
                 first
                 | (rw [cnt_s1 (p := (fun i => decide (isT P i ∧ mis P (fm P) i))) (i := i) (by simp only [decide_eq_true_eq, isT, mis]; omega)]; rfl)
                 | (rw [cnt_s0 (p := (fun i => decide (isT P i ∧ mis P (fm P) i))) (i := i) (by simp only [decide_eq_false_iff_not, isT, mis]; omega)]; rfl))))
set_option maxRecDepth 20000 in
set_option maxHeartbeats 400000 in
theorem c_X7_growMisfits (g : Gm) (l : Launch) {σ : Sg} {P : List It} (hP : PR σ 0 P) (hL : LR σ P) (hu : udf P = 0) : KI g l yX7_growMisfits cX7_growMisfits 3 ((some .boolean)) 4 0 0 [.inr 62] σ (fun r σ' => ((r = 1 ∧ msf P (fm P) ≠ 0) ∨ (r = 0 ∧ msf P (fm P) = 0)) ∧ PR σ' 0 (rnd P) ∧ (∀ k, 3 < k → k ≠ 61 → σ' k = σ k)) := by
  refine startI (own := RX7) (by decide +kernel) rfl (Nat.le_of_ble_eq_true rfl) ?_
  intro X hx _ _ hret
  obtain ⟨hok, hc, hg9⟩ := id hP
  have hn := hok.1
  refine gx_iconst hx dX7_growMisfits_0 ?_
  refine gx_istore_n hx dX7_growMisfits_1 (Nat.le_of_ble_eq_true rfl) ?_
  refine gx_aload_n hx dX7_growMisfits_2 rfl ?_
  refine gx_getR hx flX7_19 dX7_growMisfits_3 (by decide) rfl rfl ?_
  refine gx_callV hx (c_X4_compute _ _ hP hL) lkX7_73 mwX4_compute dX7_growMisfits_6 (by decide) rfl rfl rfl rfl (Nat.le_of_ble_eq_true rfl) (by decide) ⟨by decide, by decide⟩ (fun σ_6 hz_6 => ?_)
  obtain ⟨hY1, hs1⟩ := hz_6
  obtain ⟨σ1, es1⟩ : ∃ s, s = σ_6 := ⟨_, rfl⟩
  rw [← es1] at hY1 hs1 ⊢
  refine gx_iconst hx dX7_growMisfits_9 ?_
  refine gx_istore_n hx dX7_growMisfits_10 (Nat.le_of_ble_eq_true rfl) ?_
  refine gx_loop (α := Nat × Int × Sg) (fun x => x.1 ≤ P.length ∧ PR x.2.2 0 (setF P (grF P x.1)) ∧ SO σ1 x.2.2 0 3 ∧ ((x.2.1 = 1 ∧ ∃ q, q < x.1 ∧ isT P q ∧ mis P (fm P) q) ∨ (x.2.1 = 0 ∧ ∀ q, q < x.1 → ¬ (isT P q ∧ mis P (fm P) q)))) (fun x => P.length - x.1) (fun x => [some (.inr 62), some (.inl x.2.1), some (.inl (x.1 : Int))]) (fun _ => []) (fun x => x.2.2) ?_ (0, 0, σ1) ⟨Nat.zero_le _, by dsimp only; rw [grF_0]; exact hP.so hs1 (by decide), SO.refl, Or.inr ⟨rfl, fun q hq => absurd hq (Nat.not_lt_zero q)⟩⟩
  rintro ⟨i, c, τ⟩ ⟨hi, hPt, hso, hcc⟩ ih
  dsimp only at hi hPt hso hcc ih ⊢
  have hLt : LR τ P := hL.so (fun k a1 a2 => (hso k (by omega)).trans (hs1 k (by omega)))
  have hYt : YR τ P := hY1.so (hso 61 (by omega))
  have hb := hok.2.1 i
  unfold okI at hb
  have hc01 : c = 1 ∨ c = 0 := by omega
  refine gx_iload_n hx dX7_growMisfits_11 rfl ?_
  refine gx_aload_n hx dX7_growMisfits_12 rfl ?_
  refine gx_getR hx flX7_9 dX7_growMisfits_13 (by decide) rfl rfl ?_
  refine gx_callI hx (c_X6_count (j := 0) _ _ (by decide) hPt) lkX7_23 mwX6_count dX7_growMisfits_16 (by decide) rfl rfl rfl rfl (Nat.le_of_ble_eq_true rfl) (by decide) ⟨by decide, by decide⟩ (fun z_16 σ_16 hz_16 => ?_)
  obtain ⟨e9, rfl⟩ := hz_16
  rw [setF_len] at e9
  subst e9
  refine gx_icmp_ge (tgt := 65) hx dX7_growMisfits_19 (by decide) ⟨by omega, by omega⟩ ⟨by omega, by omega⟩ (fun h19 => ?_) (fun h19 => ?_)
  · first
    | (exfalso; omega)
    | (refine gx_iload_n hx dX7_growMisfits_65 rfl ?_
       refine hret _ _ _ _ _ _ _ (by decide) (by decide) dX7_growMisfits_66 rfl (by rcases hc01 with h | h <;> rw [h] <;> rfl) ?_
       have ei : i = P.length := by omega
       subst ei
       refine ⟨?_, hPt, fun k a1 a2 => (hso k (by omega)).trans (hs1 k (by omega))⟩
       rcases hcc with ⟨h1, q, h2, h3⟩ | ⟨h1, h2⟩
       · refine Or.inl ⟨h1, fun h0 => ?_⟩
         have := (cnt_zero _).mp h0 q h2
         rw [decide_eq_false_iff_not] at this
         exact this h3
       · refine Or.inr ⟨h1, (cnt_zero _).mpr (fun q hq => ?_)⟩
         rw [decide_eq_false_iff_not]
         exact h2 q hq)
  · first
    | (exfalso; omega)
    | (refine gx_aload_n hx dX7_growMisfits_22 rfl ?_
       refine gx_getR hx flX7_9 dX7_growMisfits_23 (by decide) rfl rfl ?_
       refine gx_iload_n hx dX7_growMisfits_26 rfl ?_
       refine gx_callI hx (c_X6_isTransfer (j := 0) (i := i) _ _ (by decide) hPt (by rw [setF_len]; omega)) lkX7_29 mwX6_isTransfer dX7_growMisfits_27 (by decide) rfl rfl rfl rfl (Nat.le_of_ble_eq_true rfl) (by decide) ⟨by decide, by decide⟩ (fun z_27 σ_27 hz_27 => ?_)
       obtain ⟨e9, rfl⟩ := hz_27
       rw [(setF_at P (grF P i) i).1] at e9
       have t9 := ite10 e9
       refine gx_if_eq (tgt := 59) hx dX7_growMisfits_30 (by decide) ⟨by omega, by omega⟩ (fun h30 => ?_) (fun h30 => ?_)
       · first
         | (exfalso; omega)
         | (refine gx_iinc hx dX7_growMisfits_59 (Nat.le_of_ble_eq_true rfl) rfl ?_
            refine gx_goto (tgt := 11) hx dX7_growMisfits_62 (by decide) ?_
            first
            | exact ih (i + 1, 1, _) ⟨by omega, q1, hso.trans q2, Or.inl ⟨rfl, i, by dsimp only; omega, hit, hmi⟩⟩ (by dsimp only; omega)
            | (refine ih (i + 1, c, _) ⟨by omega, ?_, hso, ?_⟩ (by dsimp only; omega)
               · dsimp only
                 rw [← gr_no (fun hc => by have h1 := hc.1; have h2 := hc.2; unfold isT at h1; unfold mis at h2; omega)]
                 exact hPt
               · dsimp only
                 rcases hcc with ⟨h1, q, h2, h3⟩ | ⟨h1, h2⟩
                 · exact Or.inl ⟨h1, q, by omega, h3⟩
                 · refine Or.inr ⟨h1, fun q hq hc => ?_⟩
                   by_cases e : q = i
                   · subst e
                     have h1 := hc.1
                     have h2 := hc.2
                     unfold isT at h1
                     unfold mis at h2
                     omega
                   · exact h2 q (by omega) hc))
       · first
         | (exfalso; omega)
         | (have hlt : i < P.length := by omega
            have hit : isT P i := by unfold isT; omega
            have hdd : 0 ≤ dfn (setF P (grF P i)) (op (setF P (grF P i)) i) (setF P (grF P i)).length := by
              rw [← ko_dfn (KO_setF P _), setF_len, (setF_at P (grF P i) i).2.1]
              have := udf_zero hu hlt hit
              omega
            have hfi : fm (setF P (grF P i)) i = fm P i := by
              rw [(setF_at P (grF P i) i).2.2, if_pos hlt]
              unfold grF
              rw [if_neg (fun h => absurd h.1 (Nat.lt_irrefl i))]
            refine gx_aload_n hx dX7_growMisfits_33 rfl ?_
            refine gx_iload_n hx dX7_growMisfits_34 rfl ?_
            refine gx_callI hx (c_X7_isFitting (P := setF P (grF P i)) (P0 := P) (i := i) _ _ hPt (ko_LR (KO_setF P _) hLt) (KO_setF P _).symm hYt (by rw [setF_len]; omega) (by unfold isT; rw [(setF_at P (grF P i) i).1]; omega) hdd (by have := dsp_rg hok (fm P) (i := i) (by omega); exact ⟨by omega, by omega⟩)) lkX7_62 mwX7_isFitting dX7_growMisfits_35 (by decide) rfl rfl rfl rfl (Nat.le_of_ble_eq_true rfl) (by decide) ⟨by decide, by decide⟩ (fun z_35 σ_35 hz_35 => ?_)
            obtain ⟨d9, rfl⟩ := hz_35
            rw [hfi] at d9
            refine gx_if_ne (tgt := 59) hx dX7_growMisfits_38 (by decide) ⟨by omega, by omega⟩ (fun h38 => ?_) (fun h38 => ?_)
            · first
              | (exfalso; omega)
              | (refine gx_iinc hx dX7_growMisfits_59 (Nat.le_of_ble_eq_true rfl) rfl ?_
                 refine gx_goto (tgt := 11) hx dX7_growMisfits_62 (by decide) ?_
                 first
                 | exact ih (i + 1, 1, _) ⟨by omega, q1, hso.trans q2, Or.inl ⟨rfl, i, by dsimp only; omega, hit, hmi⟩⟩ (by dsimp only; omega)
                 | (refine ih (i + 1, c, _) ⟨by omega, ?_, hso, ?_⟩ (by dsimp only; omega)
                    · dsimp only
                      rw [← gr_no (fun hc => by have h1 := hc.1; have h2 := hc.2; unfold isT at h1; unfold mis at h2; omega)]
                      exact hPt
                    · dsimp only
                      rcases hcc with ⟨h1, q, h2, h3⟩ | ⟨h1, h2⟩
                      · exact Or.inl ⟨h1, q, by omega, h3⟩
                      · refine Or.inr ⟨h1, fun q hq hc => ?_⟩
                        by_cases e : q = i
                        · subst e
                          have h1 := hc.1
                          have h2 := hc.2
                          unfold isT at h1
                          unfold mis at h2
                          omega
                        · exact h2 q (by omega) hc))
            · first
              | (exfalso; omega)
              | (have hmi : mis P (fm P) i := by unfold mis; omega
                 refine gx_aload_n hx dX7_growMisfits_41 rfl ?_
                 refine gx_getR hx flX7_9 dX7_growMisfits_42 (by decide) rfl rfl ?_
                 refine gx_iload_n hx dX7_growMisfits_45 rfl ?_
                 refine gx_aload_n hx dX7_growMisfits_46 rfl ?_
                 refine gx_iload_n hx dX7_growMisfits_47 rfl ?_
                 refine gx_callI hx (c_X7_displacementAt (P := setF P (grF P i)) (P0 := P) (i := i) _ _ hPt (ko_LR (KO_setF P _) hLt) (KO_setF P _).symm hYt (by rw [setF_len]; omega) (by unfold isT; rw [(setF_at P (grF P i) i).1]; omega) hdd) lkX7_56 mwX7_displacementAt dX7_growMisfits_48 (by decide) rfl rfl rfl rfl (Nat.le_of_ble_eq_true rfl) (by decide) ⟨by decide, by decide⟩ (fun z_48 σ_48 hz_48 => ?_)
                 obtain ⟨rfl, rfl⟩ := hz_48
                 refine gx_callN hx (c_X8_formFor _ _ (by have := dsp_rg hok (fm P) (i := i) (by omega); exact ⟨by omega, by omega⟩)) (List.mem_of_getElem? (i := 7) rfl) mwX8_formFor dX7_growMisfits_51 rfl rfl (Nat.le_of_ble_eq_true rfl) (by decide) ⟨by decide, by decide⟩ (fun z_51 σ_51 hz_51 => ?_)
                 obtain ⟨rfl, rfl⟩ := hz_51
                 refine gx_callV hx (c_X6_putForm (j := 0) (i := i) (f := ndF (dsp P (fm P) i)) _ _ (by decide) hPt (by rw [setF_len]; omega) (ndF_le _) (by rw [(setF_at P (grF P i) i).1]; omega)) lkX7_65 mwX6_putForm dX7_growMisfits_54 (by decide) rfl rfl rfl rfl (Nat.le_of_ble_eq_true rfl) (by decide) ⟨by decide, by decide⟩ (fun σ_54 hz_54 => ?_)
                 obtain ⟨q1, q2⟩ := hz_54
                 rw [gr_yes hlt hit hmi] at q1
                 refine gx_iconst hx dX7_growMisfits_57 ?_
                 refine gx_istore_n hx dX7_growMisfits_58 (Nat.le_of_ble_eq_true rfl) ?_
                 refine gx_iinc hx dX7_growMisfits_59 (Nat.le_of_ble_eq_true rfl) rfl ?_
                 refine gx_goto (tgt := 11) hx dX7_growMisfits_62 (by decide) ?_
                 first
                 | exact ih (i + 1, 1, _) ⟨by omega, q1, hso.trans q2, Or.inl ⟨rfl, i, by dsimp only; omega, hit, hmi⟩⟩ (by dsimp only; omega)
                 | (refine ih (i + 1, c, _) ⟨by omega, ?_, hso, ?_⟩ (by dsimp only; omega)
                    · dsimp only
                      rw [← gr_no (fun hc => by have h1 := hc.1; have h2 := hc.2; unfold isT at h1; unfold mis at h2; omega)]
                      exact hPt
                    · dsimp only
                      rcases hcc with ⟨h1, q, h2, h3⟩ | ⟨h1, h2⟩
                      · exact Or.inl ⟨h1, q, by omega, h3⟩
                      · refine Or.inr ⟨h1, fun q hq hc => ?_⟩
                        by_cases e : q = i
                        · subst e
                          have h1 := hc.1
                          have h2 := hc.2
                          unfold isT at h1
                          unfold mis at h2
                          omega
                        · exact h2 q (by omega) hc))))
