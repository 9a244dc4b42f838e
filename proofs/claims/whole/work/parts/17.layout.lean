/-! Layout -/
set_option maxRecDepth 20000 in
set_option maxHeartbeats 400000 in
theorem c_X4_poolSize (g : Gm) (l : Launch) {σ : Sg} {P : List It} {q a : Nat} (hP : PR σ 0 P) (hL : LR σ P) (hq : q ≤ P.length) (h7 : kd P q = 7) (ha : a < 100000) : KI g l yX4_poolSize cX4_poolSize 4 ((some .int)) 1 0 0 [.inr 60, .inl (pno P q : Int), .inl (a : Int)] σ (fun r σ' => r = (plSz (vals P q).length a : Int) ∧ σ = σ') := by
  refine startI (own := RX4) (by decide +kernel) rfl (Nat.le_of_ble_eq_true rfl) ?_
  intro X hx _ _ hret
  obtain ⟨hok, hc, hg9⟩ := id hP
  have hn := hok.1
  have hv := vals_le hok hq
  refine gx_aload_n hx dX4_poolSize_0 rfl ?_
  refine gx_getR hx flX4_19 dX4_poolSize_1 (by decide) rfl rfl ?_
  refine gx_iload_n hx dX4_poolSize_4 rfl ?_
  refine gx_callI hx (c_X5_literalsIn _ _ hP hL hq h7) lkX4_61 mwX5_literalsIn dX4_poolSize_5 (by decide) rfl rfl rfl rfl (Nat.le_of_ble_eq_true rfl) (by decide) ⟨by decide, by decide⟩ (fun z_5 σ_5 hz_5 => ?_)
  obtain ⟨rfl, rfl⟩ := hz_5
  refine gx_istore_n hx dX4_poolSize_8 (Nat.le_of_ble_eq_true rfl) ?_
  refine gx_iload_n hx dX4_poolSize_9 rfl ?_
  refine gx_if_ne (tgt := 17) hx dX4_poolSize_10 (by decide) ⟨by omega, by omega⟩ (fun h10 => ?_) (fun h10 => ?_)
  · first
    | (exfalso; omega)
    | (refine gx_iload_n hx dX4_poolSize_17 rfl ?_
       refine gx_iconst hx dX4_poolSize_18 ?_
       refine gx_callN hx (c_X8_gapTo (k := 2) _ _ ha (by decide) rfl) (List.mem_of_getElem? (i := 3) rfl) mwX8_gapTo dX4_poolSize_19 rfl rfl (Nat.le_of_ble_eq_true rfl) (by decide) ⟨by decide, by decide⟩ (fun z_19 σ_19 hz_19 => ?_)
       obtain ⟨rfl, rfl⟩ := hz_19
       refine gx_iconst hx dX4_poolSize_22 ?_
       refine gx_iload_n hx dX4_poolSize_23 rfl ?_
       refine gx_imul hx dX4_poolSize_24 ?_
       refine gx_iadd hx dX4_poolSize_25 ?_
       refine hret _ _ _ _ _ _ _ (by decide) (by decide) dX4_poolSize_26 rfl rfl ?_
       refine ⟨?_, rfl⟩
       unfold plSz
       first
       | (rw [if_pos (by omega)]; rfl)
       | (rw [if_neg (by omega), show (2 ^ 2 : Nat) = 4 from rfl]; omega))
  · first
    | (exfalso; omega)
    | (refine gx_iconst hx dX4_poolSize_13 ?_
       refine gx_goto (tgt := 26) hx dX4_poolSize_14 (by decide) ?_
       refine hret _ _ _ _ _ _ _ (by decide) (by decide) dX4_poolSize_26 rfl rfl ?_
       refine ⟨?_, rfl⟩
       unfold plSz
       first
       | (rw [if_pos (by omega)]; rfl)
       | (rw [if_neg (by omega), show (2 ^ 2 : Nat) = 4 from rfl]; omega))
set_option maxRecDepth 20000 in
set_option maxHeartbeats 400000 in
theorem c_X4_sizeWith (g : Gm) (l : Launch) {σ : Sg} {P : List It} {i f a : Nat} (hP : PR σ 0 P) (hL : LR σ P) (hi : i < P.length) (hf : f ≤ 2) (ha : a < 100000) : KI g l yX4_sizeWith cX4_sizeWith 4 ((some .int)) 2 0 0 [.inr 60, .inl (i : Int), .inl (f : Int), .inl (a : Int)] σ (fun r σ' => r = (sz P i f a : Int) ∧ σ = σ') := by
  refine startI (own := RX4) (by decide +kernel) rfl (Nat.le_of_ble_eq_true rfl) ?_
  intro X hx _ _ hret
  obtain ⟨hok, hc, hg9⟩ := id hP
  have hn := hok.1
  have hb := hok.2.1 i
  unfold okI at hb
  have hpn := pno_le P i
  have hcs : kd P i = 0 ∨ kd P i = 1 ∨ kd P i = 2 ∨ kd P i = 3 ∨ kd P i = 4 ∨ kd P i = 5 ∨ kd P i = 6 ∨ kd P i = 7 := by omega
  refine gx_aload_n hx dX4_sizeWith_0 rfl ?_
  refine gx_getR hx flX4_15 dX4_sizeWith_1 (by decide) rfl rfl ?_
  refine gx_iload_n hx dX4_sizeWith_4 rfl ?_
  refine gx_callI hx (c_X6_kindAt (j := 0) _ _ (by decide) hP hi) lkX4_37 mwX6_kindAt dX4_sizeWith_5 (by decide) rfl rfl rfl rfl (Nat.le_of_ble_eq_true rfl) (by decide) ⟨by decide, by decide⟩ (fun z_5 σ_5 hz_5 => ?_)
  obtain ⟨rfl, rfl⟩ := hz_5
  rcases hcs with h | h | h | h | h | h | h | h
  · refine gx_tableIn (off := 48) (tgt := 56) hx dX4_sizeWith_8 ⟨by omega, by omega⟩ (by omega) (by omega) (by rw [h]; rfl) (by decide) ?_
    refine gx_aload_n hx dX4_sizeWith_56 rfl ?_
    refine gx_getR hx flX4_15 dX4_sizeWith_57 (by decide) rfl rfl ?_
    refine gx_iload_n hx dX4_sizeWith_60 rfl ?_
    refine gx_callI hx (c_X6_operandAt (j := 0) _ _ (by decide) hP hi) lkX4_40 mwX6_operandAt dX4_sizeWith_61 (by decide) rfl rfl rfl rfl (Nat.le_of_ble_eq_true rfl) (by decide) ⟨by decide, by decide⟩ (fun z_61 σ_61 hz_61 => ?_)
    obtain ⟨rfl, rfl⟩ := hz_61
    refine hret _ _ _ _ _ _ _ (by decide) (by decide) dX4_sizeWith_64 rfl rfl ?_
    refine ⟨?_, rfl⟩
    unfold sz
    simp only [h]
    first | rfl | simp
  · refine gx_tableIn (off := 48) (tgt := 56) hx dX4_sizeWith_8 ⟨by omega, by omega⟩ (by omega) (by omega) (by rw [h]; rfl) (by decide) ?_
    refine gx_aload_n hx dX4_sizeWith_56 rfl ?_
    refine gx_getR hx flX4_15 dX4_sizeWith_57 (by decide) rfl rfl ?_
    refine gx_iload_n hx dX4_sizeWith_60 rfl ?_
    refine gx_callI hx (c_X6_operandAt (j := 0) _ _ (by decide) hP hi) lkX4_40 mwX6_operandAt dX4_sizeWith_61 (by decide) rfl rfl rfl rfl (Nat.le_of_ble_eq_true rfl) (by decide) ⟨by decide, by decide⟩ (fun z_61 σ_61 hz_61 => ?_)
    obtain ⟨rfl, rfl⟩ := hz_61
    refine hret _ _ _ _ _ _ _ (by decide) (by decide) dX4_sizeWith_64 rfl rfl ?_
    refine ⟨?_, rfl⟩
    unfold sz
    simp only [h]
    first | rfl | simp
  · refine gx_tableIn (off := 98) (tgt := 106) hx dX4_sizeWith_8 ⟨by omega, by omega⟩ (by omega) (by omega) (by rw [h]; rfl) (by decide) ?_
    refine gx_iconst hx dX4_sizeWith_106 ?_
    refine hret _ _ _ _ _ _ _ (by decide) (by decide) dX4_sizeWith_107 rfl rfl ?_
    refine ⟨?_, rfl⟩
    unfold sz
    simp only [h]
    first | rfl | simp
  · refine gx_tableIn (off := 57) (tgt := 65) hx dX4_sizeWith_8 ⟨by omega, by omega⟩ (by omega) (by omega) (by rw [h]; rfl) (by decide) ?_
    refine gx_iload_n hx dX4_sizeWith_65 rfl ?_
    refine gx_iconst hx dX4_sizeWith_66 ?_
    refine gx_aload_n hx dX4_sizeWith_67 rfl ?_
    refine gx_getR hx flX4_15 dX4_sizeWith_68 (by decide) rfl rfl ?_
    refine gx_iload_n hx dX4_sizeWith_71 rfl ?_
    refine gx_callI hx (c_X6_operandAt (j := 0) _ _ (by decide) hP hi) lkX4_40 mwX6_operandAt dX4_sizeWith_72 (by decide) rfl rfl rfl rfl (Nat.le_of_ble_eq_true rfl) (by decide) ⟨by decide, by decide⟩ (fun z_72 σ_72 hz_72 => ?_)
    obtain ⟨rfl, rfl⟩ := hz_72
    refine gx_ishl hx dX4_sizeWith_75 (ii_shl (k := op P i) (by omega)) ?_
    refine gx_callN hx (c_X8_gapTo (k := op P i) _ _ ha (by omega) rfl) (List.mem_of_getElem? (i := 3) rfl) mwX8_gapTo dX4_sizeWith_76 rfl rfl (Nat.le_of_ble_eq_true rfl) (by decide) ⟨by decide, by decide⟩ (fun z_76 σ_76 hz_76 => ?_)
    obtain ⟨rfl, rfl⟩ := hz_76
    refine hret _ _ _ _ _ _ _ (by decide) (by decide) dX4_sizeWith_79 rfl rfl ?_
    refine ⟨?_, rfl⟩
    unfold sz
    simp only [h]
    first | rfl | simp
  · refine gx_tableIn (off := 72) (tgt := 80) hx dX4_sizeWith_8 ⟨by omega, by omega⟩ (by omega) (by omega) (by rw [h]; rfl) (by decide) ?_
    refine gx_iload_n hx dX4_sizeWith_80 rfl ?_
    refine gx_callN hx (c_X8_jumpSize _ _ hf) (List.mem_of_getElem? (i := 4) rfl) mwX8_jumpSize dX4_sizeWith_81 rfl rfl (Nat.le_of_ble_eq_true rfl) (by decide) ⟨by decide, by decide⟩ (fun z_81 σ_81 hz_81 => ?_)
    obtain ⟨rfl, rfl⟩ := hz_81
    refine hret _ _ _ _ _ _ _ (by decide) (by decide) dX4_sizeWith_84 rfl rfl ?_
    refine ⟨?_, rfl⟩
    unfold sz
    simp only [h]
    first | rfl | simp
  · refine gx_tableIn (off := 77) (tgt := 85) hx dX4_sizeWith_8 ⟨by omega, by omega⟩ (by omega) (by omega) (by rw [h]; rfl) (by decide) ?_
    refine gx_iload_n hx dX4_sizeWith_85 rfl ?_
    refine gx_callN hx (c_X8_branchSize _ _ hf) (List.mem_of_getElem? (i := 5) rfl) mwX8_branchSize dX4_sizeWith_86 rfl rfl (Nat.le_of_ble_eq_true rfl) (by decide) ⟨by decide, by decide⟩ (fun z_86 σ_86 hz_86 => ?_)
    obtain ⟨rfl, rfl⟩ := hz_86
    refine hret _ _ _ _ _ _ _ (by decide) (by decide) dX4_sizeWith_89 rfl rfl ?_
    refine ⟨?_, rfl⟩
    unfold sz
    simp only [h]
    first | rfl | simp
  · refine gx_tableIn (off := 82) (tgt := 90) hx dX4_sizeWith_8 ⟨by omega, by omega⟩ (by omega) (by omega) (by rw [h]; rfl) (by decide) ?_
    refine gx_iconst hx dX4_sizeWith_90 ?_
    refine hret _ _ _ _ _ _ _ (by decide) (by decide) dX4_sizeWith_91 rfl rfl ?_
    refine ⟨?_, rfl⟩
    unfold sz
    simp only [h]
    first | rfl | simp
  · refine gx_tableIn (off := 84) (tgt := 92) hx dX4_sizeWith_8 ⟨by omega, by omega⟩ (by omega) (by omega) (by rw [h]; rfl) (by decide) ?_
    refine gx_aload_n hx dX4_sizeWith_92 rfl ?_
    refine gx_aload_n hx dX4_sizeWith_93 rfl ?_
    refine gx_getR hx flX4_19 dX4_sizeWith_94 (by decide) rfl rfl ?_
    refine gx_iload_n hx dX4_sizeWith_97 rfl ?_
    refine gx_callI hx (c_X5_poolAt _ _ hP hL hi) lkX4_53 mwX5_poolAt dX4_sizeWith_98 (by decide) rfl rfl rfl rfl (Nat.le_of_ble_eq_true rfl) (by decide) ⟨by decide, by decide⟩ (fun z_98 σ_98 hz_98 => ?_)
    obtain ⟨rfl, rfl⟩ := hz_98
    refine gx_iload_n hx dX4_sizeWith_101 rfl ?_
    refine gx_callI hx (c_X4_poolSize _ _ hP hL (Nat.le_of_lt hi) h ha) lkX4_58 mwX4_poolSize dX4_sizeWith_102 (by decide) rfl rfl rfl rfl (Nat.le_of_ble_eq_true rfl) (by decide) ⟨by decide, by decide⟩ (fun z_102 σ_102 hz_102 => ?_)
    obtain ⟨rfl, rfl⟩ := hz_102
    refine hret _ _ _ _ _ _ _ (by decide) (by decide) dX4_sizeWith_105 rfl rfl ?_
    refine ⟨?_, rfl⟩
    unfold sz
    simp only [h]
    first | rfl | simp
set_option maxRecDepth 20000 in
set_option maxHeartbeats 400000 in
theorem c_X4_compute (g : Gm) (l : Launch) {σ : Sg} {P : List It} (hP : PR σ 0 P) (hL : LR σ P) : KV g l yX4_compute cX4_compute 4 3 0 0 [.inr 60] σ (fun σ' => YR σ' P ∧ SO σ σ' 61 61) := by
  refine startV (own := RX4) (by decide +kernel) rfl (Nat.le_of_ble_eq_true rfl) ?_
  intro X hx _ _ hret
  obtain ⟨hok, hc, hg9⟩ := id hP
  have hn := hok.1
  refine gx_iconst hx dX4_compute_0 ?_
  refine gx_istore_n hx dX4_compute_1 (Nat.le_of_ble_eq_true rfl) ?_
  refine gx_aload_n hx dX4_compute_2 rfl ?_
  refine gx_getR hx flX4_15 dX4_compute_3 (by decide) rfl rfl ?_
  refine gx_callI hx (c_X6_count (j := 0) _ _ (by decide) hP) lkX4_23 mwX6_count dX4_compute_6 (by decide) rfl rfl rfl rfl (Nat.le_of_ble_eq_true rfl) (by decide) ⟨by decide, by decide⟩ (fun z_6 σ_6 hz_6 => ?_)
  obtain ⟨rfl, rfl⟩ := hz_6
  refine gx_istore_n hx dX4_compute_9 (Nat.le_of_ble_eq_true rfl) ?_
  refine gx_iconst hx dX4_compute_10 ?_
  refine gx_istore_n hx dX4_compute_11 (Nat.le_of_ble_eq_true rfl) ?_
  refine gx_loop (α := Nat × Sg) (fun x => x.1 ≤ P.length ∧ (∀ q : Nat, q < x.1 → x.2 61 (q : Int) = (aP P q : Int)) ∧ SO σ x.2 61 61) (fun x => P.length - x.1) (fun x => [some (.inr 60), some (.inl (aP P x.1 : Int)), some (.inl (P.length : Int)), some (.inl (x.1 : Int))]) (fun _ => []) (fun x => x.2) ?_ (0, σ) ⟨Nat.zero_le _, fun q hq => absurd hq (Nat.not_lt_zero q), SO.refl⟩
  rintro ⟨i, τ⟩ ⟨hi, hy, hso⟩ ih
  dsimp only at hi hy hso ih ⊢
  have hbd := aPb hok hi
  refine gx_iload_n hx dX4_compute_12 rfl ?_
  refine gx_iload_n hx dX4_compute_13 rfl ?_
  refine gx_icmp_ge (tgt := 47) hx dX4_compute_14 (by decide) ⟨by omega, by omega⟩ ⟨by omega, by omega⟩ (fun h14 => ?_) (fun h14 => ?_)
  · first
    | (exfalso; omega)
    | (refine gx_aload_n hx dX4_compute_47 rfl ?_
       refine gx_getR hx flX4_9 dX4_compute_48 (by decide) rfl rfl ?_
       refine gx_iload_n hx dX4_compute_51 rfl ?_
       refine gx_iload_n hx dX4_compute_52 rfl ?_
       refine gx_iast hx dX4_compute_53 (by decide) rfl (by omega) (by omega) (by decide) ?_
       refine hret _ _ _ _ _ (by decide) (by decide) dX4_compute_54 ?_
       have ei : i = P.length := by omega
       subst ei
       refine ⟨fun q hq => ?_, hso.trans (SO.upd (by decide) (by decide))⟩
       by_cases e : q = P.length
       · subst e; rw [upd2_at]
       · rw [upd2_ne (by omega)]; exact hy q (by omega))
  · first
    | (exfalso; omega)
    | (refine gx_aload_n hx dX4_compute_17 rfl ?_
       refine gx_getR hx flX4_9 dX4_compute_18 (by decide) rfl rfl ?_
       refine gx_iload_n hx dX4_compute_21 rfl ?_
       refine gx_iload_n hx dX4_compute_22 rfl ?_
       refine gx_iast hx dX4_compute_23 (by decide) rfl (by omega) (by omega) (by decide) ?_
       have hlt : i < P.length := by omega
       have hso9 : SO σ (upd2 τ 61 (i : Int) (aP P i : Int)) 61 61 := hso.trans (SO.upd (by decide) (by decide))
       have hb := hok.2.1 i
       unfold okI at hb
       refine gx_iload_n hx dX4_compute_24 rfl ?_
       refine gx_aload_n hx dX4_compute_25 rfl ?_
       refine gx_iload_n hx dX4_compute_26 rfl ?_
       refine gx_aload_n hx dX4_compute_27 rfl ?_
       refine gx_getR hx flX4_15 dX4_compute_28 (by decide) rfl rfl ?_
       refine gx_iload_n hx dX4_compute_31 rfl ?_
       refine gx_callI hx (c_X6_formAt (j := 0) _ _ (by decide) (hP.so hso9 (by decide)) hlt) lkX4_29 mwX6_formAt dX4_compute_32 (by decide) rfl rfl rfl rfl (Nat.le_of_ble_eq_true rfl) (by decide) ⟨by decide, by decide⟩ (fun z_32 σ_32 hz_32 => ?_)
       obtain ⟨rfl, rfl⟩ := hz_32
       refine gx_iload_n hx dX4_compute_35 rfl ?_
       refine gx_callI hx (c_X4_sizeWith (f := fm P i) (a := aP P i) _ _ (hP.so hso9 (by decide)) (hL.so (fun k a1 a2 => hso9 k (by omega))) hlt (by omega) (by omega)) lkX4_33 mwX4_sizeWith dX4_compute_36 (by decide) rfl rfl rfl rfl (Nat.le_of_ble_eq_true rfl) (by decide) ⟨by decide, by decide⟩ (fun z_36 σ_36 hz_36 => ?_)
       obtain ⟨rfl, rfl⟩ := hz_36
       refine gx_iadd hx dX4_compute_39 ?_
       refine gx_istore_n hx dX4_compute_40 (Nat.le_of_ble_eq_true rfl) ?_
       refine gx_iinc hx dX4_compute_41 (Nat.le_of_ble_eq_true rfl) rfl ?_
       refine gx_goto (tgt := 12) hx dX4_compute_44 (by decide) ?_
       refine GJ.cong ?_ rfl rfl (ih (i + 1, upd2 τ 61 (i : Int) (aP P i : Int)) ⟨by omega, fun q hq => ?_, hso9⟩ (by dsimp only; omega))
       · dsimp only
         rw [show (aP P (i + 1) : Int) = (aP P i : Int) + (sz P i (fm P i) (aP P i) : Int) from rfl]
         rfl
       · dsimp only at hq ⊢
         by_cases e : q = i
         · subst e; rw [upd2_at]
         · rw [upd2_ne (by omega)]; exact hy q (by omega))
set_option maxRecDepth 20000 in
set_option maxHeartbeats 400000 in
theorem c_X4_addressAt (g : Gm) (l : Launch) {σ : Sg} {P : List It} {i : Nat} {z : Int} (hn : P.length ≤ 40) (hY : YR σ P) (hi : i ≤ P.length) (hz : z = (i : Int)) : KI g l yX4_addressAt cX4_addressAt 2 ((some .int)) 0 0 0 [.inr 60, .inl z] σ (fun r σ' => r = (aP P i : Int) ∧ σ = σ') := by
  refine startI (own := RX4) (by decide +kernel) rfl (Nat.le_of_ble_eq_true rfl) ?_
  intro X hx _ _ hret
  subst hz
  refine gx_iload_n hx dX4_addressAt_0 rfl ?_
  refine gx_if_lt (tgt := 19) hx dX4_addressAt_1 (by decide) ⟨by omega, by omega⟩ (fun h1 => ?_) (fun h1 => ?_)
  · first
    | (exfalso; omega)
    | (refine gx_iconst hx dX4_addressAt_19 ?_
       refine hret _ _ _ _ _ _ _ (by decide) (by decide) dX4_addressAt_20 rfl rfl ?_
       exact ⟨hY i hi, rfl⟩)
  · first
    | (exfalso; omega)
    | (refine gx_iload_n hx dX4_addressAt_4 rfl ?_
       refine gx_bipush hx dX4_addressAt_5 (by decide) ?_
       refine gx_icmp_gt (tgt := 19) hx dX4_addressAt_7 (by decide) ⟨by omega, by omega⟩ ⟨by omega, by omega⟩ (fun h7 => ?_) (fun h7 => ?_)
       · first
         | (exfalso; omega)
         | (refine gx_iconst hx dX4_addressAt_19 ?_
            refine hret _ _ _ _ _ _ _ (by decide) (by decide) dX4_addressAt_20 rfl rfl ?_
            exact ⟨hY i hi, rfl⟩)
       · first
         | (exfalso; omega)
         | (refine gx_aload_n hx dX4_addressAt_10 rfl ?_
            refine gx_getR hx flX4_9 dX4_addressAt_11 (by decide) rfl rfl ?_
            refine gx_iload_n hx dX4_addressAt_14 rfl ?_
            refine gx_iald hx dX4_addressAt_15 (by decide) rfl (by omega) (by omega) (by decide) ?_
            refine gx_goto (tgt := 20) hx dX4_addressAt_16 (by decide) ?_
            refine hret _ _ _ _ _ _ _ (by decide) (by decide) dX4_addressAt_20 rfl rfl ?_
            exact ⟨hY i hi, rfl⟩))
set_option maxRecDepth 20000 in
set_option maxHeartbeats 400000 in
theorem c_X4_sizeAt (g : Gm) (l : Launch) {σ : Sg} {P : List It} {i : Nat} (hP : PR σ 0 P) (hY : YR σ P) (hi : i < P.length) : KI g l yX4_sizeAt cX4_sizeAt 2 ((some .int)) 1 0 0 [.inr 60, .inl (i : Int)] σ (fun r σ' => r = (sz P i (fm P i) (aP P i) : Int) ∧ σ = σ') := by
  refine startI (own := RX4) (by decide +kernel) rfl (Nat.le_of_ble_eq_true rfl) ?_
  intro X hx _ _ hret
  obtain ⟨hok, hc, hg9⟩ := id hP
  have hn := hok.1
  refine gx_aload_n hx dX4_sizeAt_0 rfl ?_
  refine gx_iload_n hx dX4_sizeAt_1 rfl ?_
  refine gx_iconst hx dX4_sizeAt_2 ?_
  refine gx_iadd hx dX4_sizeAt_3 ?_
  refine gx_callI hx (c_X4_addressAt (i := i + 1) _ _ hn hY (by omega) (by omega)) lkX4_64 mwX4_addressAt dX4_sizeAt_4 (by decide) rfl rfl rfl rfl (Nat.le_of_ble_eq_true rfl) (by decide) ⟨by decide, by decide⟩ (fun z_4 σ_4 hz_4 => ?_)
  obtain ⟨rfl, rfl⟩ := hz_4
  refine gx_aload_n hx dX4_sizeAt_7 rfl ?_
  refine gx_iload_n hx dX4_sizeAt_8 rfl ?_
  refine gx_callI hx (c_X4_addressAt (i := i) _ _ hn hY (by omega) rfl) lkX4_64 mwX4_addressAt dX4_sizeAt_9 (by decide) rfl rfl rfl rfl (Nat.le_of_ble_eq_true rfl) (by decide) ⟨by decide, by decide⟩ (fun z_9 σ_9 hz_9 => ?_)
  obtain ⟨rfl, rfl⟩ := hz_9
  refine gx_isub hx dX4_sizeAt_12 ?_
  refine hret _ _ _ _ _ _ _ (by decide) (by decide) dX4_sizeAt_13 rfl rfl ?_
  refine ⟨?_, rfl⟩
  show ((aP P i + sz P i (fm P i) (aP P i) : Nat) : Int) - (aP P i : Int) = _
  omega
set_option maxRecDepth 20000 in
set_option maxHeartbeats 400000 in
theorem c_X4_sizeOfItems (g : Gm) (l : Launch) {σ : Sg} {P : List It} (hP : PR σ 0 P) (hY : YR σ P) : KI g l yX4_sizeOfItems cX4_sizeOfItems 1 ((some .int)) 1 0 0 [.inr 60] σ (fun r σ' => r = (aP P P.length : Int) ∧ σ = σ') := by
  refine startI (own := RX4) (by decide +kernel) rfl (Nat.le_of_ble_eq_true rfl) ?_
  intro X hx _ _ hret
  obtain ⟨hok, hc, hg9⟩ := id hP
  have hn := hok.1
  refine gx_aload_n hx dX4_sizeOfItems_0 rfl ?_
  refine gx_aload_n hx dX4_sizeOfItems_1 rfl ?_
  refine gx_getR hx flX4_15 dX4_sizeOfItems_2 (by decide) rfl rfl ?_
  refine gx_callI hx (c_X6_count (j := 0) _ _ (by decide) hP) lkX4_23 mwX6_count dX4_sizeOfItems_5 (by decide) rfl rfl rfl rfl (Nat.le_of_ble_eq_true rfl) (by decide) ⟨by decide, by decide⟩ (fun z_5 σ_5 hz_5 => ?_)
  obtain ⟨rfl, rfl⟩ := hz_5
  refine gx_callI hx (c_X4_addressAt (i := P.length) _ _ hn hY (by omega) rfl) lkX4_64 mwX4_addressAt dX4_sizeOfItems_8 (by decide) rfl rfl rfl rfl (Nat.le_of_ble_eq_true rfl) (by decide) ⟨by decide, by decide⟩ (fun z_8 σ_8 hz_8 => ?_)
  obtain ⟨rfl, rfl⟩ := hz_8
  refine hret _ _ _ _ _ _ _ (by decide) (by decide) dX4_sizeOfItems_11 rfl rfl ?_
  exact ⟨rfl, rfl⟩
set_option maxRecDepth 20000 in
set_option maxHeartbeats 400000 in
theorem c_X4_sizeWithEndPool (g : Gm) (l : Launch) {σ : Sg} {P : List It} (hP : PR σ 0 P) (hL : LR σ P) (hY : YR σ P) : KI g l yX4_sizeWithEndPool cX4_sizeWithEndPool 1 ((some .int)) 2 0 0 [.inr 60] σ (fun r σ' => r = ((aP P P.length + plSz (vals P P.length).length (aP P P.length) : Nat) : Int) ∧ σ = σ') := by
  refine startI (own := RX4) (by decide +kernel) rfl (Nat.le_of_ble_eq_true rfl) ?_
  intro X hx _ _ hret
  obtain ⟨hok, hc, hg9⟩ := id hP
  have hn := hok.1
  have hbd := aPb hok (Nat.le_refl P.length)
  refine gx_aload_n hx dX4_sizeWithEndPool_0 rfl ?_
  refine gx_callI hx (c_X4_sizeOfItems _ _ hP hY) lkX4_67 mwX4_sizeOfItems dX4_sizeWithEndPool_1 (by decide) rfl rfl rfl rfl (Nat.le_of_ble_eq_true rfl) (by decide) ⟨by decide, by decide⟩ (fun z_1 σ_1 hz_1 => ?_)
  obtain ⟨rfl, rfl⟩ := hz_1
  refine gx_aload_n hx dX4_sizeWithEndPool_4 rfl ?_
  refine gx_aload_n hx dX4_sizeWithEndPool_5 rfl ?_
  refine gx_getR hx flX4_19 dX4_sizeWithEndPool_6 (by decide) rfl rfl ?_
  refine gx_callI hx (c_X5_endPoolNumber _ _ hP hL) lkX4_70 mwX5_endPoolNumber dX4_sizeWithEndPool_9 (by decide) rfl rfl rfl rfl (Nat.le_of_ble_eq_true rfl) (by decide) ⟨by decide, by decide⟩ (fun z_9 σ_9 hz_9 => ?_)
  obtain ⟨rfl, rfl⟩ := hz_9
  refine gx_aload_n hx dX4_sizeWithEndPool_12 rfl ?_
  refine gx_callI hx (c_X4_sizeOfItems _ _ hP hY) lkX4_67 mwX4_sizeOfItems dX4_sizeWithEndPool_13 (by decide) rfl rfl rfl rfl (Nat.le_of_ble_eq_true rfl) (by decide) ⟨by decide, by decide⟩ (fun z_13 σ_13 hz_13 => ?_)
  obtain ⟨rfl, rfl⟩ := hz_13
  refine gx_callI hx (c_X4_poolSize (q := P.length) _ _ hP hL (Nat.le_refl _) (ok_out (Nat.le_refl _)).1 (by omega)) lkX4_58 mwX4_poolSize dX4_sizeWithEndPool_16 (by decide) rfl rfl rfl rfl (Nat.le_of_ble_eq_true rfl) (by decide) ⟨by decide, by decide⟩ (fun z_16 σ_16 hz_16 => ?_)
  obtain ⟨rfl, rfl⟩ := hz_16
  refine gx_iadd hx dX4_sizeWithEndPool_19 ?_
  refine hret _ _ _ _ _ _ _ (by decide) (by decide) dX4_sizeWithEndPool_20 rfl rfl ?_
  exact ⟨by omega, rfl⟩
set_option maxRecDepth 20000 in
set_option maxHeartbeats 400000 in
theorem c_X4_lastItemUpTo (g : Gm) (l : Launch) {σ : Sg} {P : List It} {a : Nat} (hP : PR σ 0 P) (hY : YR σ P) (ha : a < 100000) : KI g l yX4_lastItemUpTo cX4_lastItemUpTo 4 ((some .int)) 1 0 0 [.inr 60, .inl (a : Int)] σ (fun r σ' => r = (itA P a P.length : Int) ∧ σ = σ') := by
  refine startI (own := RX4) (by decide +kernel) rfl (Nat.le_of_ble_eq_true rfl) ?_
  intro X hx _ _ hret
  obtain ⟨hok, hc, hg9⟩ := id hP
  have hn := hok.1
  refine gx_iconst hx dX4_lastItemUpTo_0 ?_
  refine gx_istore_n hx dX4_lastItemUpTo_1 (Nat.le_of_ble_eq_true rfl) ?_
  refine gx_iconst hx dX4_lastItemUpTo_2 ?_
  refine gx_istore_n hx dX4_lastItemUpTo_3 (Nat.le_of_ble_eq_true rfl) ?_
  refine gx_loop (α := Nat) (fun i => i ≤ P.length) (fun i => P.length - i) (fun i => [some (.inr 60), some (.inl (a : Int)), some (.inl (itA P a i : Int)), some (.inl (i : Int))]) (fun _ => []) (fun _ => σ) ?_ 0 (Nat.zero_le _)
  intro i hi ih
  have hbd := aPb hok hi
  have hyi := hY i hi
  have hit := itA_lt P a i
  refine gx_iload_n hx dX4_lastItemUpTo_4 rfl ?_
  refine gx_aload_n hx dX4_lastItemUpTo_5 rfl ?_
  refine gx_getR hx flX4_15 dX4_lastItemUpTo_6 (by decide) rfl rfl ?_
  refine gx_callI hx (c_X6_count (j := 0) _ _ (by decide) hP) lkX4_23 mwX6_count dX4_lastItemUpTo_9 (by decide) rfl rfl rfl rfl (Nat.le_of_ble_eq_true rfl) (by decide) ⟨by decide, by decide⟩ (fun z_9 σ_9 hz_9 => ?_)
  obtain ⟨rfl, rfl⟩ := hz_9
  refine gx_icmp_ge (tgt := 33) hx dX4_lastItemUpTo_12 (by decide) ⟨by omega, by omega⟩ ⟨by omega, by omega⟩ (fun h12 => ?_) (fun h12 => ?_)
  · first
    | (exfalso; omega)
    | (refine gx_iload_n hx dX4_lastItemUpTo_33 rfl ?_
       refine hret _ _ _ _ _ _ _ (by decide) (by decide) dX4_lastItemUpTo_34 rfl rfl ?_
       have ei : i = P.length := by omega
       subst ei
       exact ⟨rfl, rfl⟩)
  · first
    | (exfalso; omega)
    | (refine gx_aload_n hx dX4_lastItemUpTo_15 rfl ?_
       refine gx_getR hx flX4_9 dX4_lastItemUpTo_16 (by decide) rfl rfl ?_
       refine gx_iload_n hx dX4_lastItemUpTo_19 rfl ?_
       refine gx_iald hx dX4_lastItemUpTo_20 (by decide) rfl (by omega) (by omega) (by decide) ?_
       refine gx_iload_n hx dX4_lastItemUpTo_21 rfl ?_
       refine gx_icmp_gt (tgt := 27) hx dX4_lastItemUpTo_22 (by decide) ⟨by omega, by omega⟩ ⟨by omega, by omega⟩ (fun h22 => ?_) (fun h22 => ?_)
       · first
         | (exfalso; omega)
         | (refine gx_iinc hx dX4_lastItemUpTo_27 (Nat.le_of_ble_eq_true rfl) rfl ?_
            refine gx_goto (tgt := 4) hx dX4_lastItemUpTo_30 (by decide) ?_
            refine GJ.cong ?_ rfl rfl (ih (i + 1) (by omega) (by omega))
            rw [show itA P a (i + 1) = if aP P i ≤ a then i else itA P a i from rfl]
            first
            | (rw [if_pos (by omega)]; rfl)
            | (rw [if_neg (by omega)]; rfl))
       · first
         | (exfalso; omega)
         | (refine gx_iload_n hx dX4_lastItemUpTo_25 rfl ?_
            refine gx_istore_n hx dX4_lastItemUpTo_26 (Nat.le_of_ble_eq_true rfl) ?_
            refine gx_iinc hx dX4_lastItemUpTo_27 (Nat.le_of_ble_eq_true rfl) rfl ?_
            refine gx_goto (tgt := 4) hx dX4_lastItemUpTo_30 (by decide) ?_
            refine GJ.cong ?_ rfl rfl (ih (i + 1) (by omega) (by omega))
            rw [show itA P a (i + 1) = if aP P i ≤ a then i else itA P a i from rfl]
            first
            | (rw [if_pos (by omega)]; rfl)
            | (rw [if_neg (by omega)]; rfl)))
set_option maxRecDepth 20000 in
set_option maxHeartbeats 400000 in
theorem c_X4_addressWith (g : Gm) (l : Launch) {σ : Sg} {P : List It} {i0 f : Nat} (hP : PR σ 0 P) (hL : LR σ P) (hi0 : i0 < P.length) (hf : f ≤ 2) : KI g l yX4_addressWith cX4_addressWith 5 ((some .int)) 3 0 0 [.inr 60, .inl (i0 : Int), .inl (f : Int)] σ (fun r σ' => r = (ad0 P (fun _ => f) i0 : Int) ∧ σ = σ') := by
  refine startI (own := RX4) (by decide +kernel) rfl (Nat.le_of_ble_eq_true rfl) ?_
  intro X hx _ _ hret
  obtain ⟨hok, hc, hg9⟩ := id hP
  have hn := hok.1
  refine gx_iconst hx dX4_addressWith_0 ?_
  refine gx_istore_n hx dX4_addressWith_1 (Nat.le_of_ble_eq_true rfl) ?_
  refine gx_iconst hx dX4_addressWith_2 ?_
  refine gx_istore hx dX4_addressWith_3 (Nat.le_of_ble_eq_true rfl) ?_
  refine gx_loop (α := Nat) (fun i => i ≤ i0) (fun i => i0 - i) (fun i => [some (.inr 60), some (.inl (i0 : Int)), some (.inl (f : Int)), some (.inl (ad0 P (fun _ => f) i : Int)), some (.inl (i : Int))]) (fun _ => []) (fun _ => σ) ?_ 0 (Nat.zero_le _)
  intro i hi ih
  have hbd := aP_le hok (fun _ => f) (i := i) (by omega)
  refine gx_iload hx dX4_addressWith_5 rfl ?_
  refine gx_iload_n hx dX4_addressWith_7 rfl ?_
  refine gx_icmp_ge (tgt := 40) hx dX4_addressWith_8 (by decide) ⟨by omega, by omega⟩ ⟨by omega, by omega⟩ (fun h8 => ?_) (fun h8 => ?_)
  · first
    | (exfalso; omega)
    | (refine gx_iload_n hx dX4_addressWith_40 rfl ?_
       refine hret _ _ _ _ _ _ _ (by decide) (by decide) dX4_addressWith_41 rfl rfl ?_
       have ei : i = i0 := by omega
       subst ei
       exact ⟨rfl, rfl⟩)
  · first
    | (exfalso; omega)
    | (refine gx_iload hx dX4_addressWith_11 rfl ?_
       refine gx_aload_n hx dX4_addressWith_13 rfl ?_
       refine gx_getR hx flX4_15 dX4_addressWith_14 (by decide) rfl rfl ?_
       refine gx_callI hx (c_X6_count (j := 0) _ _ (by decide) hP) lkX4_23 mwX6_count dX4_addressWith_17 (by decide) rfl rfl rfl rfl (Nat.le_of_ble_eq_true rfl) (by decide) ⟨by decide, by decide⟩ (fun z_17 σ_17 hz_17 => ?_)
       obtain ⟨rfl, rfl⟩ := hz_17
       refine gx_icmp_ge (tgt := 40) hx dX4_addressWith_20 (by decide) ⟨by omega, by omega⟩ ⟨by omega, by omega⟩ (fun h20 => ?_) (fun h20 => ?_)
       · first
         | (exfalso; omega)
         | (refine gx_iload_n hx dX4_addressWith_40 rfl ?_
            refine hret _ _ _ _ _ _ _ (by decide) (by decide) dX4_addressWith_41 rfl rfl ?_
            have ei : i = i0 := by omega
            subst ei
            exact ⟨rfl, rfl⟩)
       · first
         | (exfalso; omega)
         | (refine gx_iload_n hx dX4_addressWith_23 rfl ?_
            refine gx_aload_n hx dX4_addressWith_24 rfl ?_
            refine gx_iload hx dX4_addressWith_25 rfl ?_
            refine gx_iload_n hx dX4_addressWith_27 rfl ?_
            refine gx_iload_n hx dX4_addressWith_28 rfl ?_
            refine gx_callI hx (c_X4_sizeWith (f := f) (a := ad0 P (fun _ => f) i) _ _ hP hL (by omega) hf (by omega)) lkX4_33 mwX4_sizeWith dX4_addressWith_29 (by decide) rfl rfl rfl rfl (Nat.le_of_ble_eq_true rfl) (by decide) ⟨by decide, by decide⟩ (fun z_29 σ_29 hz_29 => ?_)
            obtain ⟨rfl, rfl⟩ := hz_29
            refine gx_iadd hx dX4_addressWith_32 ?_
            refine gx_istore_n hx dX4_addressWith_33 (Nat.le_of_ble_eq_true rfl) ?_
            refine gx_iinc hx dX4_addressWith_34 (Nat.le_of_ble_eq_true rfl) rfl ?_
            refine gx_goto (tgt := 5) hx dX4_addressWith_37 (by decide) ?_
            refine GJ.cong ?_ rfl rfl (ih (i + 1) (by omega) (by omega))
            rw [show (ad0 P (fun _ => f) (i + 1) : Int) = (ad0 P (fun _ => f) i : Int) + (sz P i f (ad0 P (fun _ => f) i) : Int) from rfl]
            rfl))
set_option maxRecDepth 20000 in
set_option maxHeartbeats 400000 in
theorem c_X4_addressOfLiteral (g : Gm) (l : Launch) {σ : Sg} {P : List It} {q ix m : Nat} (hP : PR σ 0 P) (hL : LR σ P) (hY : YR σ P) (hq : q ≤ P.length) (h7 : kd P q = 7) (hix : ix < 1000) (hm : m < 1000) : KI g l yX4_addressOfLiteral cX4_addressOfLiteral 5 ((some .int)) 2 0 0 [.inr 60, .inl (pno P q : Int), .inl (ix : Int), .inl (m : Int)] σ (fun r σ' => r = (lad P q ix m : Int) ∧ σ = σ') := by
  refine startI (own := RX4) (by decide +kernel) rfl (Nat.le_of_ble_eq_true rfl) ?_
  intro X hx _ _ hret
  obtain ⟨hok, hc, hg9⟩ := id hP
  have hn := hok.1
  have hbd := aPb hok hq
  refine gx_aload_n hx dX4_addressOfLiteral_0 rfl ?_
  refine gx_aload_n hx dX4_addressOfLiteral_1 rfl ?_
  refine gx_getR hx flX4_19 dX4_addressOfLiteral_2 (by decide) rfl rfl ?_
  refine gx_iload_n hx dX4_addressOfLiteral_5 rfl ?_
  refine gx_callI hx (c_X5_itemOfPool _ _ hP hL hq h7) lkX4_76 mwX5_itemOfPool dX4_addressOfLiteral_6 (by decide) rfl rfl rfl rfl (Nat.le_of_ble_eq_true rfl) (by decide) ⟨by decide, by decide⟩ (fun z_6 σ_6 hz_6 => ?_)
  obtain ⟨rfl, rfl⟩ := hz_6
  refine gx_callI hx (c_X4_addressAt (i := q) _ _ hn hY hq rfl) lkX4_64 mwX4_addressAt dX4_addressOfLiteral_9 (by decide) rfl rfl rfl rfl (Nat.le_of_ble_eq_true rfl) (by decide) ⟨by decide, by decide⟩ (fun z_9 σ_9 hz_9 => ?_)
  obtain ⟨rfl, rfl⟩ := hz_9
  refine gx_iload_n hx dX4_addressOfLiteral_12 rfl ?_
  refine gx_iadd hx dX4_addressOfLiteral_13 ?_
  refine gx_istore hx dX4_addressOfLiteral_14 (Nat.le_of_ble_eq_true rfl) ?_
  rw [show (aP P q : Int) + (m : Int) = ((aP P q + m : Nat) : Int) by omega]
  refine gx_iload hx dX4_addressOfLiteral_16 rfl ?_
  refine gx_iload hx dX4_addressOfLiteral_18 rfl ?_
  refine gx_iconst hx dX4_addressOfLiteral_20 ?_
  refine gx_callN hx (c_X8_gapTo (a := aP P q + m) (k := 2) _ _ (by omega) (by decide) rfl) (List.mem_of_getElem? (i := 3) rfl) mwX8_gapTo dX4_addressOfLiteral_21 rfl rfl (Nat.le_of_ble_eq_true rfl) (by decide) ⟨by decide, by decide⟩ (fun z_21 σ_21 hz_21 => ?_)
  obtain ⟨rfl, rfl⟩ := hz_21
  refine gx_iadd hx dX4_addressOfLiteral_24 ?_
  refine gx_iconst hx dX4_addressOfLiteral_25 ?_
  refine gx_iload_n hx dX4_addressOfLiteral_26 rfl ?_
  refine gx_imul hx dX4_addressOfLiteral_27 ?_
  refine gx_iadd hx dX4_addressOfLiteral_28 ?_
  refine hret _ _ _ _ _ _ _ (by decide) (by decide) dX4_addressOfLiteral_29 rfl rfl ?_
  refine ⟨?_, rfl⟩
  unfold lad
  rw [show (2 ^ 2 : Nat) = 4 from rfl]
  omega
set_option maxRecDepth 20000 in
set_option maxHeartbeats 400000 in
theorem c_X4_distanceWith (g : Gm) (l : Launch) {σ : Sg} {P : List It} {i m : Nat} (hP : PR σ 0 P) (hL : LR σ P) (hY : YR σ P) (hi : i < P.length) (h6 : kd P i = 6) (hm : m < 1000) : KI g l yX4_distanceWith cX4_distanceWith 4 ((some .int)) 3 0 0 [.inr 60, .inl (i : Int), .inl (m : Int)] σ (fun r σ' => r = dst P i m ∧ σ = σ') := by
  refine startI (own := RX4) (by decide +kernel) rfl (Nat.le_of_ble_eq_true rfl) ?_
  intro X hx _ _ hret
  obtain ⟨hok, hc, hg9⟩ := id hP
  have hn := hok.1
  obtain ⟨n1, n2, n3, n4⟩ := npl_spec (P := P) (i := i) (by omega)
  have n5 := pno_npl (P := P) (i := i) (by omega)
  have hv := vals_le hok (i := i + 1) (by omega)
  have hx2 : lix P i ≤ 40 := by
    unfold lix
    have := List.idxOf_le_length (a := op P i) (l := vals P (i + 1))
    omega
  have hbd := aPb hok (i := i) (by omega)
  refine gx_aload_n hx dX4_distanceWith_0 rfl ?_
  refine gx_aload_n hx dX4_distanceWith_1 rfl ?_
  refine gx_getR hx flX4_19 dX4_distanceWith_2 (by decide) rfl rfl ?_
  refine gx_iload_n hx dX4_distanceWith_5 rfl ?_
  refine gx_callI hx (c_X5_poolAt _ _ hP hL hi) lkX4_53 mwX5_poolAt dX4_distanceWith_6 (by decide) rfl rfl rfl rfl (Nat.le_of_ble_eq_true rfl) (by decide) ⟨by decide, by decide⟩ (fun z_6 σ_6 hz_6 => ?_)
  obtain ⟨rfl, rfl⟩ := hz_6
  rw [← n5]
  refine gx_aload_n hx dX4_distanceWith_9 rfl ?_
  refine gx_getR hx flX4_19 dX4_distanceWith_10 (by decide) rfl rfl ?_
  refine gx_iload_n hx dX4_distanceWith_13 rfl ?_
  refine gx_callI hx (c_X5_literalIndexAt _ _ hP hL hi h6) lkX4_79 mwX5_literalIndexAt dX4_distanceWith_14 (by decide) rfl rfl rfl rfl (Nat.le_of_ble_eq_true rfl) (by decide) ⟨by decide, by decide⟩ (fun z_14 σ_14 hz_14 => ?_)
  obtain ⟨rfl, rfl⟩ := hz_14
  rw [show (vals P (i + 1)).idxOf (op P i) = lix P i from rfl]
  refine gx_iload_n hx dX4_distanceWith_17 rfl ?_
  refine gx_callI hx (c_X4_addressOfLiteral _ _ hP hL hY n3 n1 (by omega) hm) lkX4_82 mwX4_addressOfLiteral dX4_distanceWith_18 (by decide) rfl rfl rfl rfl (Nat.le_of_ble_eq_true rfl) (by decide) ⟨by decide, by decide⟩ (fun z_18 σ_18 hz_18 => ?_)
  obtain ⟨rfl, rfl⟩ := hz_18
  refine gx_istore_n hx dX4_distanceWith_21 (Nat.le_of_ble_eq_true rfl) ?_
  refine gx_iload_n hx dX4_distanceWith_22 rfl ?_
  refine gx_aload_n hx dX4_distanceWith_23 rfl ?_
  refine gx_iload_n hx dX4_distanceWith_24 rfl ?_
  refine gx_callI hx (c_X4_addressAt (i := i) _ _ hn hY (by omega) rfl) lkX4_64 mwX4_addressAt dX4_distanceWith_25 (by decide) rfl rfl rfl rfl (Nat.le_of_ble_eq_true rfl) (by decide) ⟨by decide, by decide⟩ (fun z_25 σ_25 hz_25 => ?_)
  obtain ⟨rfl, rfl⟩ := hz_25
  refine gx_iconst hx dX4_distanceWith_28 ?_
  refine gx_iadd hx dX4_distanceWith_29 ?_
  refine gx_isub hx dX4_distanceWith_30 ?_
  refine hret _ _ _ _ _ _ _ (by decide) (by decide) dX4_distanceWith_31 rfl rfl ?_
  exact ⟨rfl, rfl⟩
set_option maxRecDepth 20000 in
set_option maxHeartbeats 400000 in
theorem c_X4_loadsBeyondReach (g : Gm) (l : Launch) {σ : Sg} {P : List It} (hP : PR σ 0 P) (hL : LR σ P) (hY : YR σ P) : KI g l yX4_loadsBeyondReach cX4_loadsBeyondReach 3 ((some .int)) 4 0 0 [.inr 60] σ (fun r σ' => r = (cnt (fun i => decide (kd P i = 6 ∧ 60 < dst P i 0)) P.length : Int) ∧ σ = σ') := by
  refine startI (own := RX4) (by decide +kernel) rfl (Nat.le_of_ble_eq_true rfl) ?_
  intro X hx _ _ hret
  obtain ⟨hok, hc, hg9⟩ := id hP
  have hn := hok.1
  refine gx_iconst hx dX4_loadsBeyondReach_0 ?_
  refine gx_istore_n hx dX4_loadsBeyondReach_1 (Nat.le_of_ble_eq_true rfl) ?_
  refine gx_iconst hx dX4_loadsBeyondReach_2 ?_
  refine gx_istore_n hx dX4_loadsBeyondReach_3 (Nat.le_of_ble_eq_true rfl) ?_
  refine gx_loop (α := Nat) (fun i => i ≤ P.length) (fun i => P.length - i) (fun i => [some (.inr 60), some (.inl (cnt (fun i => decide (kd P i = 6 ∧ 60 < dst P i 0)) i : Int)), some (.inl (i : Int))]) (fun _ => []) (fun _ => σ) ?_ 0 (Nat.zero_le _)
  intro i hi ih
  have hb := hok.2.1 i
  unfold okI at hb
  refine gx_iload_n hx dX4_loadsBeyondReach_4 rfl ?_
  refine gx_aload_n hx dX4_loadsBeyondReach_5 rfl ?_
  refine gx_getR hx flX4_15 dX4_loadsBeyondReach_6 (by decide) rfl rfl ?_
  refine gx_callI hx (c_X6_count (j := 0) _ _ (by decide) hP) lkX4_23 mwX6_count dX4_loadsBeyondReach_9 (by decide) rfl rfl rfl rfl (Nat.le_of_ble_eq_true rfl) (by decide) ⟨by decide, by decide⟩ (fun z_9 σ_9 hz_9 => ?_)
  obtain ⟨rfl, rfl⟩ := hz_9
  refine gx_icmp_ge (tgt := 48) hx dX4_loadsBeyondReach_12 (by decide) ⟨by omega, by omega⟩ ⟨by omega, by omega⟩ (fun h12 => ?_) (fun h12 => ?_)
  · first
    | (exfalso; omega)
    | (refine gx_iload_n hx dX4_loadsBeyondReach_48 rfl ?_
       refine hret _ _ _ _ _ _ _ (by decide) (by decide) dX4_loadsBeyondReach_49 rfl rfl ?_
       have ei : i = P.length := by omega
       subst ei
       exact ⟨rfl, rfl⟩)
  · first
    | (exfalso; omega)
    | (refine gx_aload_n hx dX4_loadsBeyondReach_15 rfl ?_
       refine gx_getR hx flX4_15 dX4_loadsBeyondReach_16 (by decide) rfl rfl ?_
       refine gx_iload_n hx dX4_loadsBeyondReach_19 rfl ?_
       refine gx_callI hx (c_X6_kindAt (j := 0) _ _ (by decide) hP (i := i) (by omega)) lkX4_37 mwX6_kindAt dX4_loadsBeyondReach_20 (by decide) rfl rfl rfl rfl (Nat.le_of_ble_eq_true rfl) (by decide) ⟨by decide, by decide⟩ (fun z_20 σ_20 hz_20 => ?_)
       obtain ⟨rfl, rfl⟩ := hz_20
       refine gx_bipush hx dX4_loadsBeyondReach_23 (by decide) ?_
       refine gx_icmp_ne (tgt := 42) hx dX4_loadsBeyondReach_25 (by decide) ⟨by omega, by omega⟩ ⟨by omega, by omega⟩ (fun h25 => ?_) (fun h25 => ?_)
       · first
         | (exfalso; omega)
         | (refine gx_iinc hx dX4_loadsBeyondReach_42 (Nat.le_of_ble_eq_true rfl) rfl ?_
            refine gx_goto (tgt := 4) hx dX4_loadsBeyondReach_45 (by decide) ?_
            refine GJ.cong ?_ rfl rfl (ih (i + 1) (by omega) (by omega))
            rw [show (cnt (fun i => decide (kd P i = 6 ∧ 60 < dst P i 0)) (i + 1) : Int) = (cnt (fun i => decide (kd P i = 6 ∧ 60 < dst P i 0)) i : Int) + ((if decide (kd P i = 6 ∧ 60 < dst P i 0) = true then 1 else 0 : Nat) : Int) from rfl]
            first
            | (rw [if_pos (by rw [decide_eq_true_eq]; omega)]; rfl)
            | (rw [if_neg (by rw [decide_eq_true_eq]; omega), show ((0 : Nat) : Int) = 0 from rfl, Int.add_zero]; rfl))
       · first
         | (exfalso; omega)
         | (refine gx_aload_n hx dX4_loadsBeyondReach_28 rfl ?_
            refine gx_iload_n hx dX4_loadsBeyondReach_29 rfl ?_
            refine gx_iconst hx dX4_loadsBeyondReach_30 ?_
            refine gx_callI hx (c_X4_distanceWith (i := i) (m := 0) _ _ hP hL hY (by omega) (by omega) (by decide)) lkX4_85 mwX4_distanceWith dX4_loadsBeyondReach_31 (by decide) rfl rfl rfl rfl (Nat.le_of_ble_eq_true rfl) (by decide) ⟨by decide, by decide⟩ (fun z_31 σ_31 hz_31 => ?_)
            obtain ⟨rfl, rfl⟩ := hz_31
            refine gx_bipush hx dX4_loadsBeyondReach_34 (by decide) ?_
            refine gx_icmp_le (tgt := 42) hx dX4_loadsBeyondReach_36 (by decide) ⟨by have := dst_rg hok (i := i) (m := 0) (by omega) (by omega); omega, by have := dst_rg hok (i := i) (m := 0) (by omega) (by omega); omega⟩ ⟨by omega, by omega⟩ (fun h36 => ?_) (fun h36 => ?_)
            · first
              | (exfalso; omega)
              | (refine gx_iinc hx dX4_loadsBeyondReach_42 (Nat.le_of_ble_eq_true rfl) rfl ?_
                 refine gx_goto (tgt := 4) hx dX4_loadsBeyondReach_45 (by decide) ?_
                 refine GJ.cong ?_ rfl rfl (ih (i + 1) (by omega) (by omega))
                 rw [show (cnt (fun i => decide (kd P i = 6 ∧ 60 < dst P i 0)) (i + 1) : Int) = (cnt (fun i => decide (kd P i = 6 ∧ 60 < dst P i 0)) i : Int) + ((if decide (kd P i = 6 ∧ 60 < dst P i 0) = true then 1 else 0 : Nat) : Int) from rfl]
                 first
                 | (rw [if_pos (by rw [decide_eq_true_eq]; omega)]; rfl)
                 | (rw [if_neg (by rw [decide_eq_true_eq]; omega), show ((0 : Nat) : Int) = 0 from rfl, Int.add_zero]; rfl))
            · first
              | (exfalso; omega)
              | (refine gx_iinc hx dX4_loadsBeyondReach_39 (Nat.le_of_ble_eq_true rfl) rfl ?_
                 refine gx_iinc hx dX4_loadsBeyondReach_42 (Nat.le_of_ble_eq_true rfl) rfl ?_
                 refine gx_goto (tgt := 4) hx dX4_loadsBeyondReach_45 (by decide) ?_
                 refine GJ.cong ?_ rfl rfl (ih (i + 1) (by omega) (by omega))
                 rw [show (cnt (fun i => decide (kd P i = 6 ∧ 60 < dst P i 0)) (i + 1) : Int) = (cnt (fun i => decide (kd P i = 6 ∧ 60 < dst P i 0)) i : Int) + ((if decide (kd P i = 6 ∧ 60 < dst P i 0) = true then 1 else 0 : Nat) : Int) from rfl]
                 first
                 | (rw [if_pos (by rw [decide_eq_true_eq]; omega)]; rfl)
                 | (rw [if_neg (by rw [decide_eq_true_eq]; omega), show ((0 : Nat) : Int) = 0 from rfl, Int.add_zero]; rfl))))
set_option maxRecDepth 20000 in
set_option maxHeartbeats 400000 in
theorem c_X4_slackOf (g : Gm) (l : Launch) {σ : Sg} {P : List It} {i : Nat} (hP : PR σ 0 P) (hL : LR σ P) (hY : YR σ P) (hi : i < P.length) (h6 : kd P i = 6) : KI g l yX4_slackOf cX4_slackOf 3 ((some .int)) 4 0 0 [.inr 60, .inl (i : Int)] σ (fun r σ' => (∃ m : Nat, r = (m : Int) ∧ m ≤ 50 ∧ (m = 0 ∨ dst P i m ≤ 60) ∧ ∀ q : Nat, m < q → q ≤ 50 → 60 < dst P i q) ∧ σ = σ') := by
  refine startI (own := RX4) (by decide +kernel) rfl (Nat.le_of_ble_eq_true rfl) ?_
  intro X hx _ _ hret
  obtain ⟨hok, hc, hg9⟩ := id hP
  have hn := hok.1
  refine gx_bipush hx dX4_slackOf_0 (by decide) ?_
  refine gx_istore_n hx dX4_slackOf_2 (Nat.le_of_ble_eq_true rfl) ?_
  refine gx_loop (α := Nat) (fun m => m ≤ 50 ∧ ∀ q : Nat, m < q → q ≤ 50 → 60 < dst P i q) (fun m => m) (fun m => [some (.inr 60), some (.inl (i : Int)), some (.inl (m : Int))]) (fun _ => []) (fun _ => σ) ?_ 50 ⟨by decide, fun q h1 h2 => by omega⟩
  rintro m ⟨hm, hno⟩ ih
  refine gx_iload_n hx dX4_slackOf_3 rfl ?_
  refine gx_if_le (tgt := 26) hx dX4_slackOf_4 (by decide) ⟨by omega, by omega⟩ (fun h4 => ?_) (fun h4 => ?_)
  · first
    | (exfalso; omega)
    | (refine gx_iconst hx dX4_slackOf_26 ?_
       refine hret _ _ _ _ _ _ _ (by decide) (by decide) dX4_slackOf_27 rfl rfl ?_
       exact ⟨⟨0, rfl, by decide, Or.inl rfl, fun q h1 h2 => hno q (by omega) h2⟩, rfl⟩)
  · first
    | (exfalso; omega)
    | (refine gx_aload_n hx dX4_slackOf_7 rfl ?_
       refine gx_iload_n hx dX4_slackOf_8 rfl ?_
       refine gx_iload_n hx dX4_slackOf_9 rfl ?_
       refine gx_callI hx (c_X4_distanceWith (i := i) (m := m) _ _ hP hL hY hi h6 (by omega)) lkX4_85 mwX4_distanceWith dX4_slackOf_10 (by decide) rfl rfl rfl rfl (Nat.le_of_ble_eq_true rfl) (by decide) ⟨by decide, by decide⟩ (fun z_10 σ_10 hz_10 => ?_)
       obtain ⟨rfl, rfl⟩ := hz_10
       refine gx_bipush hx dX4_slackOf_13 (by decide) ?_
       refine gx_icmp_gt (tgt := 20) hx dX4_slackOf_15 (by decide) ⟨by have := dst_rg hok (i := i) (m := m) (by omega) (by omega); omega, by have := dst_rg hok (i := i) (m := m) (by omega) (by omega); omega⟩ ⟨by omega, by omega⟩ (fun h15 => ?_) (fun h15 => ?_)
       · first
         | (exfalso; omega)
         | (refine gx_iinc hx dX4_slackOf_20 (Nat.le_of_ble_eq_true rfl) rfl ?_
            refine gx_goto (tgt := 3) hx dX4_slackOf_23 (by decide) ?_
            refine GJ.cong ?_ rfl rfl (ih (m - 1) ⟨by omega, fun q h1 h2 => ?_⟩ (by omega))
            · rw [show ((m - 1 : Nat) : Int) = (m : Int) + (-1) by omega]
              rfl
            · by_cases e : q = m
              · subst e; omega
              · exact hno q (by omega) h2)
       · first
         | (exfalso; omega)
         | (refine gx_iload_n hx dX4_slackOf_18 rfl ?_
            refine hret _ _ _ _ _ _ _ (by decide) (by decide) dX4_slackOf_19 rfl rfl ?_
            exact ⟨⟨m, rfl, hm, Or.inr (by omega), hno⟩, rfl⟩))
set_option maxRecDepth 20000 in
set_option maxHeartbeats 400000 in
theorem c_X4_paddingBytes (g : Gm) (l : Launch) {σ : Sg} {P : List It} (hP : PR σ 0 P) (hL : LR σ P) (hY : YR σ P) : KI g l yX4_paddingBytes cX4_paddingBytes 4 ((some .int)) 3 0 0 [.inr 60] σ (fun r σ' => r = ((alS P P.length + poS P (P.length + 1) : Nat) : Int) ∧ σ = σ') := by
  refine startI (own := RX4) (by decide +kernel) rfl (Nat.le_of_ble_eq_true rfl) ?_
  intro X hx _ _ hret
  obtain ⟨hok, hc, hg9⟩ := id hP
  have hn := hok.1
  have hpn := pno_le P P.length
  refine gx_iconst hx dX4_paddingBytes_0 ?_
  refine gx_istore_n hx dX4_paddingBytes_1 (Nat.le_of_ble_eq_true rfl) ?_
  refine gx_iconst hx dX4_paddingBytes_2 ?_
  refine gx_istore_n hx dX4_paddingBytes_3 (Nat.le_of_ble_eq_true rfl) ?_
  refine gx_loop (α := Nat) (fun i => i ≤ P.length) (fun i => P.length - i) (fun i => [some (.inr 60), some (.inl (alS P i : Int)), some (.inl (i : Int)), none]) (fun _ => []) (fun _ => σ) ?_ 0 (Nat.zero_le _)
  intro i hi ih
  have hb := hok.2.1 i
  unfold okI at hb
  refine gx_iload_n hx dX4_paddingBytes_4 rfl ?_
  refine gx_aload_n hx dX4_paddingBytes_5 rfl ?_
  refine gx_getR hx flX4_15 dX4_paddingBytes_6 (by decide) rfl rfl ?_
  refine gx_callI hx (c_X6_count (j := 0) _ _ (by decide) hP) lkX4_23 mwX6_count dX4_paddingBytes_9 (by decide) rfl rfl rfl rfl (Nat.le_of_ble_eq_true rfl) (by decide) ⟨by decide, by decide⟩ (fun z_9 σ_9 hz_9 => ?_)
  obtain ⟨rfl, rfl⟩ := hz_9
  refine gx_icmp_ge (tgt := 41) hx dX4_paddingBytes_12 (by decide) ⟨by omega, by omega⟩ ⟨by omega, by omega⟩ (fun h12 => ?_) (fun h12 => ?_)
  · first
    | (exfalso; omega)
    | (refine gx_iconst hx dX4_paddingBytes_41 ?_
       refine gx_istore_n hx dX4_paddingBytes_42 (Nat.le_of_ble_eq_true rfl) ?_
       have ei : i = P.length := by omega
       subst ei
       refine gx_loop (α := Nat) (fun k => k ≤ pno P P.length + 1) (fun k => pno P P.length + 1 - k) (fun k => [some (.inr 60), some (.inl ((alS P P.length + plA P k : Nat) : Int)), some (.inl (k : Int)), none]) (fun _ => []) (fun _ => σ) ?_ 0 (Nat.zero_le _)
       intro k hk ih2
       have ha1 := alS_le hok P.length
       have ha2 := plA_le (P := P) k
       refine gx_iload_n hx dX4_paddingBytes_43 rfl ?_
       refine gx_aload_n hx dX4_paddingBytes_44 rfl ?_
       refine gx_getR hx flX4_19 dX4_paddingBytes_45 (by decide) rfl rfl ?_
       refine gx_callI hx (c_X5_endPoolNumber _ _ hP hL) lkX4_70 mwX5_endPoolNumber dX4_paddingBytes_48 (by decide) rfl rfl rfl rfl (Nat.le_of_ble_eq_true rfl) (by decide) ⟨by decide, by decide⟩ (fun z_48 σ_48 hz_48 => ?_)
       obtain ⟨rfl, rfl⟩ := hz_48
       refine gx_icmp_gt (tgt := 93) hx dX4_paddingBytes_51 (by decide) ⟨by omega, by omega⟩ ⟨by omega, by omega⟩ (fun h51 => ?_) (fun h51 => ?_)
       · first
         | (exfalso; omega)
         | (refine gx_iload_n hx dX4_paddingBytes_93 rfl ?_
            refine hret _ _ _ _ _ _ _ (by decide) (by decide) dX4_paddingBytes_94 rfl rfl ?_
            have ek : k = pno P P.length + 1 := by omega
            subst ek
            exact ⟨by rw [plA_all], rfl⟩)
       · first
         | (exfalso; omega)
         | (obtain ⟨p1, p2, p3⟩ := plc_spec (P := P) k (by omega)
            have hbd := aPb hok p2
            have hpl := plSz_ge (vals P (plc P k)).length (aP P (plc P k))
            refine gx_aload_n hx dX4_paddingBytes_54 rfl ?_
            refine gx_iload_n hx dX4_paddingBytes_55 rfl ?_
            refine gx_aload_n hx dX4_paddingBytes_56 rfl ?_
            refine gx_aload_n hx dX4_paddingBytes_57 rfl ?_
            refine gx_getR hx flX4_19 dX4_paddingBytes_58 (by decide) rfl rfl ?_
            refine GJ.cong (L' := [some (.inr 60), some (.inl ((alS P P.length + plA P k : Nat) : Int)), some (.inl (pno P (plc P k) : Int)), none]) (st' := [.inr 52, .inr 60, .inl (pno P (plc P k) : Int), .inr 60]) (by rw [p3]) (by rw [p3]) rfl ?_
            refine gx_iload_n hx dX4_paddingBytes_61 rfl ?_
            refine gx_callI hx (c_X5_itemOfPool (q := plc P k) _ _ hP hL p2 p1) lkX4_76 mwX5_itemOfPool dX4_paddingBytes_62 (by decide) rfl rfl rfl rfl (Nat.le_of_ble_eq_true rfl) (by decide) ⟨by decide, by decide⟩ (fun z_62 σ_62 hz_62 => ?_)
            obtain ⟨rfl, rfl⟩ := hz_62
            refine gx_callI hx (c_X4_addressAt (i := plc P k) _ _ hn hY p2 rfl) lkX4_64 mwX4_addressAt dX4_paddingBytes_65 (by decide) rfl rfl rfl rfl (Nat.le_of_ble_eq_true rfl) (by decide) ⟨by decide, by decide⟩ (fun z_65 σ_65 hz_65 => ?_)
            obtain ⟨rfl, rfl⟩ := hz_65
            refine gx_callI hx (c_X4_poolSize (q := plc P k) _ _ hP hL p2 p1 (by omega)) lkX4_58 mwX4_poolSize dX4_paddingBytes_68 (by decide) rfl rfl rfl rfl (Nat.le_of_ble_eq_true rfl) (by decide) ⟨by decide, by decide⟩ (fun z_68 σ_68 hz_68 => ?_)
            obtain ⟨rfl, rfl⟩ := hz_68
            refine gx_istore_n hx dX4_paddingBytes_71 (Nat.le_of_ble_eq_true rfl) ?_
            refine gx_iload_n hx dX4_paddingBytes_72 rfl ?_
            refine gx_iload_n hx dX4_paddingBytes_73 rfl ?_
            refine gx_iconst hx dX4_paddingBytes_74 ?_
            refine gx_aload_n hx dX4_paddingBytes_75 rfl ?_
            refine gx_getR hx flX4_19 dX4_paddingBytes_76 (by decide) rfl rfl ?_
            refine gx_iload_n hx dX4_paddingBytes_79 rfl ?_
            refine gx_callI hx (c_X5_literalsIn (q := plc P k) _ _ hP hL p2 p1) lkX4_61 mwX5_literalsIn dX4_paddingBytes_80 (by decide) rfl rfl rfl rfl (Nat.le_of_ble_eq_true rfl) (by decide) ⟨by decide, by decide⟩ (fun z_80 σ_80 hz_80 => ?_)
            obtain ⟨rfl, rfl⟩ := hz_80
            refine gx_imul hx dX4_paddingBytes_83 ?_
            refine gx_isub hx dX4_paddingBytes_84 ?_
            refine gx_iadd hx dX4_paddingBytes_85 ?_
            refine gx_istore_n hx dX4_paddingBytes_86 (Nat.le_of_ble_eq_true rfl) ?_
            refine gx_iinc hx dX4_paddingBytes_87 (Nat.le_of_ble_eq_true rfl) rfl ?_
            refine gx_goto (tgt := 43) hx dX4_paddingBytes_90 (by decide) ?_
            refine GJ.drop 3 ?_
            refine GJ.cong ?_ rfl rfl (ih2 (k + 1) (by omega) (by omega))
            rw [show ((alS P P.length + plA P (k + 1) : Nat) : Int) = ((alS P P.length + plA P k : Nat) : Int) + ((plSz (vals P (plc P k)).length (aP P (plc P k)) : Int) - 4 * ((vals P (plc P k)).length : Int)) by
              rw [plA]; omega, show ((k + 1 : Nat) : Int) = (pno P (plc P k) : Int) + 1 by rw [p3]; omega]
            rfl))
  · first
    | (exfalso; omega)
    | (refine gx_aload_n hx dX4_paddingBytes_15 rfl ?_
       refine gx_getR hx flX4_15 dX4_paddingBytes_16 (by decide) rfl rfl ?_
       refine gx_iload_n hx dX4_paddingBytes_19 rfl ?_
       refine gx_callI hx (c_X6_kindAt (j := 0) _ _ (by decide) hP (i := i) (by omega)) lkX4_37 mwX6_kindAt dX4_paddingBytes_20 (by decide) rfl rfl rfl rfl (Nat.le_of_ble_eq_true rfl) (by decide) ⟨by decide, by decide⟩ (fun z_20 σ_20 hz_20 => ?_)
       obtain ⟨rfl, rfl⟩ := hz_20
       refine gx_iconst hx dX4_paddingBytes_23 ?_
       refine gx_icmp_ne (tgt := 35) hx dX4_paddingBytes_24 (by decide) ⟨by omega, by omega⟩ ⟨by omega, by omega⟩ (fun h24 => ?_) (fun h24 => ?_)
       · first
         | (exfalso; omega)
         | (refine gx_iinc hx dX4_paddingBytes_35 (Nat.le_of_ble_eq_true rfl) rfl ?_
            refine gx_goto (tgt := 4) hx dX4_paddingBytes_38 (by decide) ?_
            refine GJ.cong ?_ rfl rfl (ih (i + 1) (by omega) (by omega))
            rw [show (alS P (i + 1) : Int) = (alS P i : Int) + ((if kd P i = 3 then sz P i (fm P i) (aP P i) else 0 : Nat) : Int) from rfl]
            first
            | (rw [if_pos (by omega)]; rfl)
            | (rw [if_neg (by omega), show ((0 : Nat) : Int) = 0 from rfl, Int.add_zero]; rfl))
       · first
         | (exfalso; omega)
         | (refine gx_iload_n hx dX4_paddingBytes_27 rfl ?_
            refine gx_aload_n hx dX4_paddingBytes_28 rfl ?_
            refine gx_iload_n hx dX4_paddingBytes_29 rfl ?_
            refine gx_callI hx (c_X4_sizeAt (i := i) _ _ hP hY (by omega)) lkX4_73 mwX4_sizeAt dX4_paddingBytes_30 (by decide) rfl rfl rfl rfl (Nat.le_of_ble_eq_true rfl) (by decide) ⟨by decide, by decide⟩ (fun z_30 σ_30 hz_30 => ?_)
            obtain ⟨rfl, rfl⟩ := hz_30
            refine gx_iadd hx dX4_paddingBytes_33 ?_
            refine gx_istore_n hx dX4_paddingBytes_34 (Nat.le_of_ble_eq_true rfl) ?_
            refine gx_iinc hx dX4_paddingBytes_35 (Nat.le_of_ble_eq_true rfl) rfl ?_
            refine gx_goto (tgt := 4) hx dX4_paddingBytes_38 (by decide) ?_
            refine GJ.cong ?_ rfl rfl (ih (i + 1) (by omega) (by omega))
            rw [show (alS P (i + 1) : Int) = (alS P i : Int) + ((if kd P i = 3 then sz P i (fm P i) (aP P i) else 0 : Nat) : Int) from rfl]
            first
            | (rw [if_pos (by omega)]; rfl)
            | (rw [if_neg (by omega), show ((0 : Nat) : Int) = 0 from rfl, Int.add_zero]; rfl)))
