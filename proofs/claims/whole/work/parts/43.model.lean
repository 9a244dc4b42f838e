/-! The reference: sizes, addresses, transfers, pools -/
set_option maxRecDepth 20000 in
set_option maxHeartbeats 400000 in
theorem c_X9_poolSize (g : Gm) (l : Launch) {σ : Sg} {P : List It} {q a : Nat} (hM : MP σ P) (hq : q ≤ P.length) (ha : a < 100000) : KI g l yX9_poolSize cX9_poolSize 3 ((some .int)) (2) 0 0 [.inr 70, .inl (q : Int), .inl (a : Int)] σ (fun r σ' => r = (plSz (vals P q).length a : Int) ∧ TV σ' (vals P q) ∧ FR σ σ' c1 f1) := by
  refine startI (own := RX9) (by decide +kernel) rfl (Nat.le_of_ble_eq_true rfl) ?_
  intro X hx _ _ hret
  obtain ⟨hok, hn, hit⟩ := id hM
  have hl40 := hok.1
  have hvl := vals_len hok q
  refine gx_aload_n hx dX9_poolSize_0 rfl ?_
  refine gx_iload_n hx dX9_poolSize_1 rfl ?_
  refine gx_callV hx (c_X9_tellValues _ _ hM hq) lkX9_69 mwX9_tellValues dX9_poolSize_2 (by decide) rfl rfl rfl rfl (Nat.le_of_ble_eq_true rfl) (by decide) ⟨by decide, by decide⟩ (fun σ_2 hz_2 => ?_)
  obtain ⟨hV1, hF1⟩ := hz_2
  refine gx_aload_n hx dX9_poolSize_5 rfl ?_
  refine gx_getI hx flX9_60 dX9_poolSize_6 (by decide) rfl rfl 11 rfl ?_
  rw [hV1.1]
  refine gx_if_ne (tgt := 16) hx dX9_poolSize_9 (by decide) ⟨by omega, by omega⟩ (fun h9 => ?_) (fun h9 => ?_)
  · first
    | (exfalso; omega)
    | (refine gx_iload_n hx dX9_poolSize_16 rfl ?_
       refine gx_iconst hx dX9_poolSize_17 ?_
       refine gx_callS hx (c_X9_upTo (a := a) (u := 4) _ _ (by omega) (by decide) (by decide)) lkX9_73 mwX9_upTo dX9_poolSize_18 rfl rfl (Nat.le_of_ble_eq_true rfl) (by decide) ⟨by decide, by decide⟩ (fun z_18 σ_18 hz_18 => ?_)
       obtain ⟨rfl, rfl⟩ := hz_18
       refine gx_iload_n hx dX9_poolSize_21 rfl ?_
       refine gx_isub hx dX9_poolSize_22 ?_
       refine gx_iconst hx dX9_poolSize_23 ?_
       refine gx_aload_n hx dX9_poolSize_24 rfl ?_
       refine gx_getI hx flX9_60 dX9_poolSize_25 (by decide) rfl rfl 11 rfl ?_
       rw [hV1.1]
       refine gx_imul hx dX9_poolSize_28 ?_
       refine gx_iadd hx dX9_poolSize_29 ?_
       refine hret _ _ _ _ _ _ _ (by decide) (by decide) dX9_poolSize_30 rfl rfl ?_
       refine ⟨?_, hV1, hF1⟩
       unfold plSz
       split <;> omega)
  · first
    | (exfalso; omega)
    | (refine gx_iconst hx dX9_poolSize_12 ?_
       refine gx_goto (tgt := 30) hx dX9_poolSize_13 (by decide) ?_
       refine hret _ _ _ _ _ _ _ (by decide) (by decide) dX9_poolSize_30 rfl rfl ?_
       refine ⟨?_, hV1, hF1⟩
       unfold plSz
       split <;> omega)
set_option maxRecDepth 20000 in
set_option maxHeartbeats 400000 in
theorem c_X9_sizeAt (g : Gm) (l : Launch) {σ : Sg} {P : List It} {i f a : Nat} (hM : MP σ P) (hi : i < P.length) (hf : f ≤ 2) (ha : a < 100000) : KI g l yX9_sizeAt cX9_sizeAt 4 ((some .int)) (3) 0 0 [.inr 70, .inl (i : Int), .inl (a : Int), .inl (f : Int)] σ (fun r σ' => r = (sz P i f a : Int) ∧ FR σ σ' c1 f1) := by
  refine startI (own := RX9) (by decide +kernel) rfl (Nat.le_of_ble_eq_true rfl) ?_
  intro X hx _ _ hret
  obtain ⟨hok, hn, hit⟩ := id hM
  have hl40 := hok.1
  have hrg := hok.2.1 i
  unfold okI at hrg
  refine gx_aload_n hx dX9_sizeAt_0 rfl ?_
  refine gx_iload_n hx dX9_sizeAt_1 rfl ?_
  refine gx_callI hx (c_X9_kind (i := i) _ _ hM hi) lkX9_53 mwX9_kind dX9_sizeAt_2 (by decide) rfl rfl rfl rfl (Nat.le_of_ble_eq_true rfl) (by decide) ⟨by decide, by decide⟩ (fun z_2 σ_2 hz_2 => ?_)
  obtain ⟨rfl, rfl⟩ := hz_2
  rcases (show kd P i = 0 ∨ kd P i = 1 ∨ kd P i = 2 ∨ kd P i = 3 ∨ kd P i = 4 ∨ kd P i = 5 ∨ kd P i = 6 ∨ kd P i = 7 by omega) with h | h | h | h | h | h | h | h
  · refine gx_tableIn (off := 47) (tgt := 52) hx dX9_sizeAt_5 ⟨by omega, by omega⟩ (by omega) (by omega) (by rw [h]; rfl) (by decide) ?_
    refine gx_aload_n hx dX9_sizeAt_52 rfl ?_
    refine gx_iload_n hx dX9_sizeAt_53 rfl ?_
    refine gx_callI hx (c_X9_operand (i := i) _ _ hM hi) lkX9_63 mwX9_operand dX9_sizeAt_54 (by decide) rfl rfl rfl rfl (Nat.le_of_ble_eq_true rfl) (by decide) ⟨by decide, by decide⟩ (fun z_54 σ_54 hz_54 => ?_)
    obtain ⟨rfl, rfl⟩ := hz_54
    refine hret _ _ _ _ _ _ _ (by decide) (by decide) dX9_sizeAt_57 rfl rfl ?_
    first
    | (refine ⟨?_, hF1⟩; unfold sz; (repeat' split) <;> omega)
    | (refine ⟨?_, FR.refl⟩; unfold sz; (repeat' split) <;> omega)
  · refine gx_tableIn (off := 47) (tgt := 52) hx dX9_sizeAt_5 ⟨by omega, by omega⟩ (by omega) (by omega) (by rw [h]; rfl) (by decide) ?_
    refine gx_aload_n hx dX9_sizeAt_52 rfl ?_
    refine gx_iload_n hx dX9_sizeAt_53 rfl ?_
    refine gx_callI hx (c_X9_operand (i := i) _ _ hM hi) lkX9_63 mwX9_operand dX9_sizeAt_54 (by decide) rfl rfl rfl rfl (Nat.le_of_ble_eq_true rfl) (by decide) ⟨by decide, by decide⟩ (fun z_54 σ_54 hz_54 => ?_)
    obtain ⟨rfl, rfl⟩ := hz_54
    refine hret _ _ _ _ _ _ _ (by decide) (by decide) dX9_sizeAt_57 rfl rfl ?_
    first
    | (refine ⟨?_, hF1⟩; unfold sz; (repeat' split) <;> omega)
    | (refine ⟨?_, FR.refl⟩; unfold sz; (repeat' split) <;> omega)
  · refine gx_tableIn (off := 86) (tgt := 91) hx dX9_sizeAt_5 ⟨by omega, by omega⟩ (by omega) (by omega) (by rw [h]; rfl) (by decide) ?_
    refine gx_iconst hx dX9_sizeAt_91 ?_
    refine hret _ _ _ _ _ _ _ (by decide) (by decide) dX9_sizeAt_92 rfl rfl ?_
    first
    | (refine ⟨?_, hF1⟩; unfold sz; (repeat' split) <;> omega)
    | (refine ⟨?_, FR.refl⟩; unfold sz; (repeat' split) <;> omega)
  · refine gx_tableIn (off := 53) (tgt := 58) hx dX9_sizeAt_5 ⟨by omega, by omega⟩ (by omega) (by omega) (by rw [h]; rfl) (by decide) ?_
    refine gx_iload_n hx dX9_sizeAt_58 rfl ?_
    refine gx_iconst hx dX9_sizeAt_59 ?_
    refine gx_aload_n hx dX9_sizeAt_60 rfl ?_
    refine gx_iload_n hx dX9_sizeAt_61 rfl ?_
    refine gx_callI hx (c_X9_operand (i := i) _ _ hM hi) lkX9_63 mwX9_operand dX9_sizeAt_62 (by decide) rfl rfl rfl rfl (Nat.le_of_ble_eq_true rfl) (by decide) ⟨by decide, by decide⟩ (fun z_62 σ_62 hz_62 => ?_)
    obtain ⟨rfl, rfl⟩ := hz_62
    refine gx_ishl hx dX9_sizeAt_65 (ii_shl (k := op P i) (by omega)) ?_
    refine gx_callS hx (c_X9_upTo (a := a) (u := 2 ^ op P i) _ _ (by omega) (Nat.pow_pos (by decide)) (pow_le (by omega))) lkX9_73 mwX9_upTo dX9_sizeAt_66 rfl rfl (Nat.le_of_ble_eq_true rfl) (by decide) ⟨by decide, by decide⟩ (fun z_66 σ_66 hz_66 => ?_)
    obtain ⟨rfl, rfl⟩ := hz_66
    refine gx_iload_n hx dX9_sizeAt_69 rfl ?_
    refine gx_isub hx dX9_sizeAt_70 ?_
    refine hret _ _ _ _ _ _ _ (by decide) (by decide) dX9_sizeAt_71 rfl rfl ?_
    first
    | (refine ⟨?_, hF1⟩; unfold sz; (repeat' split) <;> omega)
    | (refine ⟨?_, FR.refl⟩; unfold sz; (repeat' split) <;> omega)
  · refine gx_tableIn (off := 67) (tgt := 72) hx dX9_sizeAt_5 ⟨by omega, by omega⟩ (by omega) (by omega) (by rw [h]; rfl) (by decide) ?_
    refine gx_aload_n hx dX9_sizeAt_72 rfl ?_
    refine gx_iload_n hx dX9_sizeAt_73 rfl ?_
    refine gx_callI hx (c_X9_kind (i := i) _ _ hM hi) lkX9_53 mwX9_kind dX9_sizeAt_74 (by decide) rfl rfl rfl rfl (Nat.le_of_ble_eq_true rfl) (by decide) ⟨by decide, by decide⟩ (fun z_74 σ_74 hz_74 => ?_)
    obtain ⟨rfl, rfl⟩ := hz_74
    refine gx_iload_n hx dX9_sizeAt_77 rfl ?_
    refine gx_callS hx (c_X9_transferSize (k := kd P i) (f := f) _ _ (by omega) hf) lkX9_77 mwX9_transferSize dX9_sizeAt_78 rfl rfl (Nat.le_of_ble_eq_true rfl) (by decide) ⟨by decide, by decide⟩ (fun z_78 σ_78 hz_78 => ?_)
    obtain ⟨rfl, rfl⟩ := hz_78
    refine hret _ _ _ _ _ _ _ (by decide) (by decide) dX9_sizeAt_81 rfl rfl ?_
    first
    | (refine ⟨?_, hF1⟩; unfold sz; (repeat' split) <;> omega)
    | (refine ⟨?_, FR.refl⟩; unfold sz; (repeat' split) <;> omega)
  · refine gx_tableIn (off := 67) (tgt := 72) hx dX9_sizeAt_5 ⟨by omega, by omega⟩ (by omega) (by omega) (by rw [h]; rfl) (by decide) ?_
    refine gx_aload_n hx dX9_sizeAt_72 rfl ?_
    refine gx_iload_n hx dX9_sizeAt_73 rfl ?_
    refine gx_callI hx (c_X9_kind (i := i) _ _ hM hi) lkX9_53 mwX9_kind dX9_sizeAt_74 (by decide) rfl rfl rfl rfl (Nat.le_of_ble_eq_true rfl) (by decide) ⟨by decide, by decide⟩ (fun z_74 σ_74 hz_74 => ?_)
    obtain ⟨rfl, rfl⟩ := hz_74
    refine gx_iload_n hx dX9_sizeAt_77 rfl ?_
    refine gx_callS hx (c_X9_transferSize (k := kd P i) (f := f) _ _ (by omega) hf) lkX9_77 mwX9_transferSize dX9_sizeAt_78 rfl rfl (Nat.le_of_ble_eq_true rfl) (by decide) ⟨by decide, by decide⟩ (fun z_78 σ_78 hz_78 => ?_)
    obtain ⟨rfl, rfl⟩ := hz_78
    refine hret _ _ _ _ _ _ _ (by decide) (by decide) dX9_sizeAt_81 rfl rfl ?_
    first
    | (refine ⟨?_, hF1⟩; unfold sz; (repeat' split) <;> omega)
    | (refine ⟨?_, FR.refl⟩; unfold sz; (repeat' split) <;> omega)
  · refine gx_tableIn (off := 77) (tgt := 82) hx dX9_sizeAt_5 ⟨by omega, by omega⟩ (by omega) (by omega) (by rw [h]; rfl) (by decide) ?_
    refine gx_iconst hx dX9_sizeAt_82 ?_
    refine hret _ _ _ _ _ _ _ (by decide) (by decide) dX9_sizeAt_83 rfl rfl ?_
    first
    | (refine ⟨?_, hF1⟩; unfold sz; (repeat' split) <;> omega)
    | (refine ⟨?_, FR.refl⟩; unfold sz; (repeat' split) <;> omega)
  · refine gx_tableIn (off := 79) (tgt := 84) hx dX9_sizeAt_5 ⟨by omega, by omega⟩ (by omega) (by omega) (by rw [h]; rfl) (by decide) ?_
    refine gx_aload_n hx dX9_sizeAt_84 rfl ?_
    refine gx_iload_n hx dX9_sizeAt_85 rfl ?_
    refine gx_iload_n hx dX9_sizeAt_86 rfl ?_
    refine gx_callI hx (c_X9_poolSize (q := i) (a := a) _ _ hM (by omega) ha) lkX9_80 mwX9_poolSize dX9_sizeAt_87 (by decide) rfl rfl rfl rfl (Nat.le_of_ble_eq_true rfl) (by decide) ⟨by decide, by decide⟩ (fun z_87 σ_87 hz_87 => ?_)
    obtain ⟨rfl, hV1, hF1⟩ := hz_87
    refine hret _ _ _ _ _ _ _ (by decide) (by decide) dX9_sizeAt_90 rfl rfl ?_
    first
    | (refine ⟨?_, hF1⟩; unfold sz; (repeat' split) <;> omega)
    | (refine ⟨?_, FR.refl⟩; unfold sz; (repeat' split) <;> omega)
set_option maxRecDepth 20000 in
set_option maxHeartbeats 400000 in
theorem c_X9_lays (g : Gm) (l : Launch) {σ : Sg} {P : List It} (hM : MP σ P) : KV g l yX9_lays cX9_lays 3 (4) 0 0 [.inr 70] σ (fun σ' => YM σ' P ∧ FR σ σ' c2 f1) := by
  refine startV (own := RX9) (by decide +kernel) rfl (Nat.le_of_ble_eq_true rfl) ?_
  intro X hx _ _ hret
  obtain ⟨hok, hn, hit⟩ := id hM
  have hl40 := hok.1
  refine gx_iconst hx dX9_lays_0 ?_
  refine gx_istore_n hx dX9_lays_1 (Nat.le_of_ble_eq_true rfl) ?_
  refine gx_iconst hx dX9_lays_2 ?_
  refine gx_istore_n hx dX9_lays_3 (Nat.le_of_ble_eq_true rfl) ?_
  refine gx_loop (α := Nat × Sg) (fun x => x.1 ≤ P.length ∧ (∀ j : Nat, j < x.1 → x.2 75 (j : Int) = (aP P j : Int)) ∧ FR σ x.2 c2 f1) (fun x => P.length - x.1) (fun x => [some (.inr 70), some (.inl (aP P x.1 : Int)), some (.inl (x.1 : Int))]) (fun _ => []) (fun x => x.2) ?_ (0, σ) ⟨Nat.zero_le _, fun j hj => absurd hj (Nat.not_lt_zero _), FR.refl⟩
  rintro ⟨i, τ⟩ ⟨hin, hpl, hF1⟩ ih
  dsimp only at hin hpl hF1 ih ⊢
  have hM1 := hM.fr hF1 rfl
  have hab := aPb hok hin
  refine gx_iload_n hx dX9_lays_4 rfl ?_
  refine gx_aload_n hx dX9_lays_5 rfl ?_
  refine gx_getR hx flX9_7 dX9_lays_6 (by decide) rfl rfl ?_
  refine gx_iconst hx dX9_lays_9 ?_
  refine gx_iald hx dX9_lays_10 (by decide) rfl (by omega) (by omega) (by decide) ?_
  rw [hM1.2.1]
  refine gx_icmp_ge (tgt := 41) hx dX9_lays_11 (by decide) ⟨by omega, by omega⟩ ⟨by omega, by omega⟩ (fun h11 => ?_) (fun h11 => ?_)
  · first
    | (exfalso; omega)
    | (refine gx_aload_n hx dX9_lays_41 rfl ?_
       refine gx_getR hx flX9_27 dX9_lays_42 (by decide) rfl rfl ?_
       refine gx_aload_n hx dX9_lays_45 rfl ?_
       refine gx_getR hx flX9_7 dX9_lays_46 (by decide) rfl rfl ?_
       refine gx_iconst hx dX9_lays_49 ?_
       refine gx_iald hx dX9_lays_50 (by decide) rfl (by omega) (by omega) (by decide) ?_
       rw [hM1.2.1]
       refine gx_iload_n hx dX9_lays_51 rfl ?_
       refine gx_iast hx dX9_lays_52 (by decide) rfl (by omega) (by omega) (by decide) ?_
       refine hret _ _ _ _ _ (by decide) (by decide) dX9_lays_53 ?_
       have ei : i = P.length := by omega
       subst ei
       refine ⟨fun j hj => ?_, hF1.trans (FR.upd (by decide) rfl)⟩
       by_cases hji : j = P.length
       · subst hji
         rw [upd2_at]
       · rw [upd2_z (by omega)]
         exact hpl j (by omega))
  · first
    | (exfalso; omega)
    | (refine gx_aload_n hx dX9_lays_14 rfl ?_
       refine gx_getR hx flX9_27 dX9_lays_15 (by decide) rfl rfl ?_
       refine gx_iload_n hx dX9_lays_18 rfl ?_
       refine gx_iload_n hx dX9_lays_19 rfl ?_
       refine gx_iast hx dX9_lays_20 (by decide) rfl (by omega) (by omega) (by decide) ?_
       have hM2 : MP (upd2 τ 75 (i : Int) (aP P i : Int)) P := hM1.same (upd2_other 71 (by decide))
       have hri := hM.rg i
       refine gx_iload_n hx dX9_lays_21 rfl ?_
       refine gx_aload_n hx dX9_lays_22 rfl ?_
       refine gx_iload_n hx dX9_lays_23 rfl ?_
       refine gx_iload_n hx dX9_lays_24 rfl ?_
       refine gx_aload_n hx dX9_lays_25 rfl ?_
       refine gx_iload_n hx dX9_lays_26 rfl ?_
       refine gx_callI hx (c_X9_form (i := i) _ _ hM2 (by omega)) lkX9_83 mwX9_form dX9_lays_27 (by decide) rfl rfl rfl rfl (Nat.le_of_ble_eq_true rfl) (by decide) ⟨by decide, by decide⟩ (fun z_27 σ_27 hz_27 => ?_)
       obtain ⟨rfl, rfl⟩ := hz_27
       refine gx_callI hx (c_X9_sizeAt (i := i) (f := fm P i) (a := aP P i) _ _ hM2 (by omega) hri.2.2 (by omega)) lkX9_86 mwX9_sizeAt dX9_lays_30 (by decide) rfl rfl rfl rfl (Nat.le_of_ble_eq_true rfl) (by decide) ⟨by decide, by decide⟩ (fun z_30 σ_30 hz_30 => ?_)
       obtain ⟨rfl, hF3⟩ := hz_30
       refine gx_iadd hx dX9_lays_33 ?_
       refine gx_istore_n hx dX9_lays_34 (Nat.le_of_ble_eq_true rfl) ?_
       refine gx_iinc hx dX9_lays_35 (Nat.le_of_ble_eq_true rfl) rfl ?_
       refine gx_goto (tgt := 4) hx dX9_lays_38 (by decide) ?_
       refine GJ.cong ?_ rfl rfl (ih (i + 1, σ_30) ⟨by omega, fun j hj => ?_, hF1.trans (FR.trans (FR.upd (by decide) rfl) hF3.to2)⟩ (by dsimp only; omega))
       · dsimp only
         rw [show ((aP P (i + 1) : Nat) : Int) = (aP P i : Int) + (sz P i (fm P i) (aP P i) : Int) from Int.natCast_add _ _]
         rfl
       · dsimp only at hj ⊢
         rw [hF3.1 75 (by decide) rfl]
         by_cases hji : j = i
         · subst hji
           rw [upd2_at]
         · rw [upd2_z (by omega)]
           exact hpl j (by omega))
set_option maxRecDepth 20000 in
set_option maxHeartbeats 400000 in
theorem c_X9_total (g : Gm) (l : Launch) {σ : Sg} {P : List It} (hM : MP σ P) (hY : YM σ P) : KI g l yX9_total cX9_total 1 ((some .int)) (3) 0 0 [.inr 70] σ (fun r σ' => r = (tot P (fm P) : Int) ∧ FR σ σ' c1 f1) := by
  refine startI (own := RX9) (by decide +kernel) rfl (Nat.le_of_ble_eq_true rfl) ?_
  intro X hx _ _ hret
  obtain ⟨hok, hn, hit⟩ := id hM
  have hl40 := hok.1
  have hab := aPb hok (Nat.le_refl P.length)
  have hyl := hY P.length (Nat.le_refl _)
  refine gx_aload_n hx dX9_total_0 rfl ?_
  refine gx_getR hx flX9_27 dX9_total_1 (by decide) rfl rfl ?_
  refine gx_aload_n hx dX9_total_4 rfl ?_
  refine gx_getR hx flX9_7 dX9_total_5 (by decide) rfl rfl ?_
  refine gx_iconst hx dX9_total_8 ?_
  refine gx_iald hx dX9_total_9 (by decide) rfl (by omega) (by omega) (by decide) ?_
  rw [hn]
  refine gx_iald hx dX9_total_10 (by decide) rfl (by omega) (by omega) (by decide) ?_
  rw [hyl]
  refine gx_aload_n hx dX9_total_11 rfl ?_
  refine gx_aload_n hx dX9_total_12 rfl ?_
  refine gx_getR hx flX9_7 dX9_total_13 (by decide) rfl rfl ?_
  refine gx_iconst hx dX9_total_16 ?_
  refine gx_iald hx dX9_total_17 (by decide) rfl (by omega) (by omega) (by decide) ?_
  rw [hn]
  refine gx_aload_n hx dX9_total_18 rfl ?_
  refine gx_getR hx flX9_27 dX9_total_19 (by decide) rfl rfl ?_
  refine gx_aload_n hx dX9_total_22 rfl ?_
  refine gx_getR hx flX9_7 dX9_total_23 (by decide) rfl rfl ?_
  refine gx_iconst hx dX9_total_26 ?_
  refine gx_iald hx dX9_total_27 (by decide) rfl (by omega) (by omega) (by decide) ?_
  rw [hn]
  refine gx_iald hx dX9_total_28 (by decide) rfl (by omega) (by omega) (by decide) ?_
  rw [hyl]
  refine gx_callI hx (c_X9_poolSize (q := P.length) (a := aP P P.length) _ _ hM (Nat.le_refl _) (by omega)) lkX9_80 mwX9_poolSize dX9_total_29 (by decide) rfl rfl rfl rfl (Nat.le_of_ble_eq_true rfl) (by decide) ⟨by decide, by decide⟩ (fun z_29 σ_29 hz_29 => ?_)
  obtain ⟨rfl, hV1, hF1⟩ := hz_29
  refine gx_iadd hx dX9_total_32 ?_
  refine hret _ _ _ _ _ _ _ (by decide) (by decide) dX9_total_33 rfl rfl ?_
  exact ⟨(Int.natCast_add _ _).symm, hF1⟩
set_option maxRecDepth 20000 in
set_option maxHeartbeats 400000 in
theorem c_X9_defines (g : Gm) (l : Launch) {σ : Sg} {P : List It} {lb : Nat} (hM : MP σ P) (hb : lb < 100) : KI g l yX9_defines cX9_defines 3 ((some .int)) (1) 0 0 [.inr 70, .inl (lb : Int)] σ (fun r σ' => r = dfn P lb P.length ∧ σ = σ') := by
  refine startI (own := RX9) (by decide +kernel) rfl (Nat.le_of_ble_eq_true rfl) ?_
  intro X hx _ _ hret
  obtain ⟨hok, hn, hit⟩ := id hM
  have hl40 := hok.1
  refine gx_iconst hx dX9_defines_0 ?_
  refine gx_istore_n hx dX9_defines_1 (Nat.le_of_ble_eq_true rfl) ?_
  refine gx_loop (α := Nat) (fun i => i ≤ P.length ∧ ∀ j, j < i → ¬ (kd P j = 2 ∧ op P j = lb)) (fun i => P.length - i) (fun i => [some (.inr 70), some (.inl (lb : Int)), some (.inl (i : Int))]) (fun _ => []) (fun _ => σ) ?_ 0 ⟨Nat.zero_le _, fun j hj => absurd hj (Nat.not_lt_zero _)⟩
  rintro i ⟨hin, hno⟩ ih
  refine gx_iload_n hx dX9_defines_2 rfl ?_
  refine gx_aload_n hx dX9_defines_3 rfl ?_
  refine gx_getR hx flX9_7 dX9_defines_4 (by decide) rfl rfl ?_
  refine gx_iconst hx dX9_defines_7 ?_
  refine gx_iald hx dX9_defines_8 (by decide) rfl (by omega) (by omega) (by decide) ?_
  rw [hn]
  refine gx_icmp_ge (tgt := 38) hx dX9_defines_9 (by decide) ⟨by omega, by omega⟩ ⟨by omega, by omega⟩ (fun h9 => ?_) (fun h9 => ?_)
  · first
    | (exfalso; omega)
    | (refine gx_iconst hx dX9_defines_38 ?_
       refine hret _ _ _ _ _ _ _ (by decide) (by decide) dX9_defines_39 rfl rfl ?_
       exact ⟨(dfn_none (fun j hj => hno j (by omega))).symm, rfl⟩)
  · first
    | (exfalso; omega)
    | (refine gx_aload_n hx dX9_defines_12 rfl ?_
       refine gx_iload_n hx dX9_defines_13 rfl ?_
       refine gx_callI hx (c_X9_kind (i := i) _ _ hM (by omega)) lkX9_53 mwX9_kind dX9_defines_14 (by decide) rfl rfl rfl rfl (Nat.le_of_ble_eq_true rfl) (by decide) ⟨by decide, by decide⟩ (fun z_14 σ_14 hz_14 => ?_)
       obtain ⟨rfl, rfl⟩ := hz_14
       have hri := hM.rg i
       refine gx_iconst hx dX9_defines_17 ?_
       refine gx_icmp_ne (tgt := 32) hx dX9_defines_18 (by decide) ⟨by omega, by omega⟩ ⟨by omega, by omega⟩ (fun h18 => ?_) (fun h18 => ?_)
       · first
         | (exfalso; omega)
         | (refine gx_iinc hx dX9_defines_32 (Nat.le_of_ble_eq_true rfl) rfl ?_
            refine gx_goto (tgt := 2) hx dX9_defines_35 (by decide) ?_
            refine ih (i + 1) ⟨by omega, fun j hj => ?_⟩ (by omega)
            rcases Nat.lt_or_ge j i with h | h
            · exact hno j h
            · have e : j = i := by omega
              subst e
              omega)
       · first
         | (exfalso; omega)
         | (refine gx_aload_n hx dX9_defines_21 rfl ?_
            refine gx_iload_n hx dX9_defines_22 rfl ?_
            refine gx_callI hx (c_X9_operand (i := i) _ _ hM (by omega)) lkX9_63 mwX9_operand dX9_defines_23 (by decide) rfl rfl rfl rfl (Nat.le_of_ble_eq_true rfl) (by decide) ⟨by decide, by decide⟩ (fun z_23 σ_23 hz_23 => ?_)
            obtain ⟨rfl, rfl⟩ := hz_23
            refine gx_iload_n hx dX9_defines_26 rfl ?_
            refine gx_icmp_ne (tgt := 32) hx dX9_defines_27 (by decide) ⟨by omega, by omega⟩ ⟨by omega, by omega⟩ (fun h27 => ?_) (fun h27 => ?_)
            · first
              | (exfalso; omega)
              | (refine gx_iinc hx dX9_defines_32 (Nat.le_of_ble_eq_true rfl) rfl ?_
                 refine gx_goto (tgt := 2) hx dX9_defines_35 (by decide) ?_
                 refine ih (i + 1) ⟨by omega, fun j hj => ?_⟩ (by omega)
                 rcases Nat.lt_or_ge j i with h | h
                 · exact hno j h
                 · have e : j = i := by omega
                   subst e
                   omega)
            · first
              | (exfalso; omega)
              | (refine gx_iload_n hx dX9_defines_30 rfl ?_
                 refine hret _ _ _ _ _ _ _ (by decide) (by decide) dX9_defines_31 rfl rfl ?_
                 exact ⟨(dfn_first hok (by omega) (by omega) (by omega)).symm, rfl⟩)))
set_option maxRecDepth 20000 in
set_option maxHeartbeats 400000 in
theorem c_X9_off (g : Gm) (l : Launch) {σ : Sg} {P : List It} {i : Nat} (hM : MP σ P) (hY : YM σ P) (hi : i < P.length) (hd : 0 ≤ dfn P (op P i) P.length) : KI g l yX9_off cX9_off 2 ((some .int)) (2) 0 0 [.inr 70, .inl (i : Int)] σ (fun r σ' => r = dsp P (fm P) i ∧ σ = σ') := by
  refine startI (own := RX9) (by decide +kernel) rfl (Nat.le_of_ble_eq_true rfl) ?_
  intro X hx _ _ hret
  obtain ⟨hok, hn, hit⟩ := id hM
  have hl40 := hok.1
  have hri := hM.rg i
  have hdl := dfn_lt P (op P i) P.length
  obtain ⟨d, hd9⟩ : ∃ d : Nat, dfn P (op P i) P.length = (d : Int) := ⟨(dfn P (op P i) P.length).toNat, by omega⟩
  refine gx_aload_n hx dX9_off_0 rfl ?_
  refine gx_getR hx flX9_27 dX9_off_1 (by decide) rfl rfl ?_
  refine gx_aload_n hx dX9_off_4 rfl ?_
  refine gx_aload_n hx dX9_off_5 rfl ?_
  refine gx_iload_n hx dX9_off_6 rfl ?_
  refine gx_callI hx (c_X9_operand (i := i) _ _ hM hi) lkX9_63 mwX9_operand dX9_off_7 (by decide) rfl rfl rfl rfl (Nat.le_of_ble_eq_true rfl) (by decide) ⟨by decide, by decide⟩ (fun z_7 σ_7 hz_7 => ?_)
  obtain ⟨rfl, rfl⟩ := hz_7
  refine gx_callI hx (c_X9_defines (lb := op P i) _ _ hM (by omega)) lkX9_128 mwX9_defines dX9_off_10 (by decide) rfl rfl rfl rfl (Nat.le_of_ble_eq_true rfl) (by decide) ⟨by decide, by decide⟩ (fun z_10 σ_10 hz_10 => ?_)
  obtain ⟨e9, rfl⟩ := hz_10
  rw [hd9] at e9
  subst e9
  refine gx_iald hx dX9_off_13 (by decide) rfl (by omega) (by omega) (by decide) ?_
  rw [hY d (by omega)]
  refine gx_aload_n hx dX9_off_14 rfl ?_
  refine gx_getR hx flX9_27 dX9_off_15 (by decide) rfl rfl ?_
  refine gx_iload_n hx dX9_off_18 rfl ?_
  refine gx_iconst hx dX9_off_19 ?_
  refine gx_iadd hx dX9_off_20 ?_
  rw [show (i : Int) + 1 = ((i + 1 : Nat) : Int) by omega]
  refine gx_iald hx dX9_off_21 (by decide) rfl (by omega) (by omega) (by decide) ?_
  rw [hY (i + 1) (by omega)]
  refine gx_isub hx dX9_off_22 ?_
  refine hret _ _ _ _ _ _ _ (by decide) (by decide) dX9_off_23 rfl rfl ?_
  exact ⟨by unfold dsp; rw [hd9, Int.toNat_natCast], rfl⟩
set_option maxRecDepth 20000 in
set_option maxHeartbeats 400000 in
theorem c_X9_needed (g : Gm) (l : Launch) {σ : Sg} {z : Int} (hz : rg z) : KI g l yX9_needed cX9_needed 1 ((some .int)) (1) 0 0 [.inl z] σ (fun r σ' => r = (ndF z : Int) ∧ σ = σ') := by
  refine startI (own := RX9) (by decide +kernel) rfl (Nat.le_of_ble_eq_true rfl) ?_
  intro X hx _ _ hret
  refine gx_iload_n hx dX9_needed_0 rfl ?_
  refine gx_bipush hx dX9_needed_1 (by decide) ?_
  refine gx_bipush hx dX9_needed_3 (by decide) ?_
  refine gx_callS hx (c_X9_in (v := z) (lo := -16) (hi := 15) _ _ hz ⟨by decide, by decide⟩ ⟨by decide, by decide⟩) lkX9_49 mwX9_in dX9_needed_5 rfl rfl (Nat.le_of_ble_eq_true rfl) (by decide) ⟨by decide, by decide⟩ (fun z_5 σ_5 hz_5 => ?_)
  obtain ⟨e9, rfl⟩ := hz_5
  replace e9 := ite10 e9
  refine gx_if_eq (tgt := 15) hx dX9_needed_8 (by decide) ⟨by omega, by omega⟩ (fun h8 => ?_) (fun h8 => ?_)
  · first
    | (exfalso; omega)
    | (refine gx_iload_n hx dX9_needed_15 rfl ?_
       refine gx_bipush hx dX9_needed_16 (by decide) ?_
       refine gx_bipush hx dX9_needed_18 (by decide) ?_
       refine gx_callS hx (c_X9_in (v := z) (lo := -100) (hi := 99) _ _ hz ⟨by decide, by decide⟩ ⟨by decide, by decide⟩) lkX9_49 mwX9_in dX9_needed_20 rfl rfl (Nat.le_of_ble_eq_true rfl) (by decide) ⟨by decide, by decide⟩ (fun z_20 σ_20 hz_20 => ?_)
       obtain ⟨e8, rfl⟩ := hz_20
       replace e8 := ite10 e8
       refine gx_if_eq (tgt := 30) hx dX9_needed_23 (by decide) ⟨by omega, by omega⟩ (fun h23 => ?_) (fun h23 => ?_)
       · first
         | (exfalso; omega)
         | (refine gx_iconst hx dX9_needed_30 ?_
            refine hret _ _ _ _ _ _ _ (by decide) (by decide) dX9_needed_31 rfl rfl ?_
            exact ⟨by unfold ndF; (repeat' split) <;> omega, rfl⟩)
       · first
         | (exfalso; omega)
         | (refine gx_iconst hx dX9_needed_26 ?_
            refine gx_goto (tgt := 31) hx dX9_needed_27 (by decide) ?_
            refine hret _ _ _ _ _ _ _ (by decide) (by decide) dX9_needed_31 rfl rfl ?_
            exact ⟨by unfold ndF; (repeat' split) <;> omega, rfl⟩))
  · first
    | (exfalso; omega)
    | (refine gx_iconst hx dX9_needed_11 ?_
       refine gx_goto (tgt := 31) hx dX9_needed_12 (by decide) ?_
       refine hret _ _ _ _ _ _ _ (by decide) (by decide) dX9_needed_31 rfl rfl ?_
       exact ⟨by unfold ndF; (repeat' split) <;> omega, rfl⟩)
set_option maxRecDepth 20000 in
set_option maxHeartbeats 400000 in
theorem c_X9_isFit (g : Gm) (l : Launch) {σ : Sg} {P : List It} {i : Nat} (hM : MP σ P) (hY : YM σ P) (hi : i < P.length) (hd : 0 ≤ dfn P (op P i) P.length) : KI g l yX9_isFit cX9_isFit 2 ((some .boolean)) (3) 0 0 [.inr 70, .inl (i : Int)] σ (fun r σ' => ((r = 1 ∧ ndF (dsp P (fm P) i) ≤ fm P i) ∨ (r = 0 ∧ fm P i < ndF (dsp P (fm P) i))) ∧ σ = σ') := by
  refine startI (own := RX9) (by decide +kernel) rfl (Nat.le_of_ble_eq_true rfl) ?_
  intro X hx _ _ hret
  obtain ⟨hok, hn, hit⟩ := id hM
  have hl40 := hok.1
  have hri := hM.rg i
  have hnd := ndF_le (dsp P (fm P) i)
  have hdr := dsp_rg hok (fm P) hi
  refine gx_aload_n hx dX9_isFit_0 rfl ?_
  refine gx_iload_n hx dX9_isFit_1 rfl ?_
  refine gx_callI hx (c_X9_form (i := i) _ _ hM hi) lkX9_83 mwX9_form dX9_isFit_2 (by decide) rfl rfl rfl rfl (Nat.le_of_ble_eq_true rfl) (by decide) ⟨by decide, by decide⟩ (fun z_2 σ_2 hz_2 => ?_)
  obtain ⟨rfl, rfl⟩ := hz_2
  refine gx_iconst hx dX9_isFit_5 ?_
  refine gx_icmp_eq (tgt := 25) hx dX9_isFit_6 (by decide) ⟨by omega, by omega⟩ ⟨by omega, by omega⟩ (fun h6 => ?_) (fun h6 => ?_)
  · first
    | (exfalso; omega)
    | (refine gx_iconst hx dX9_isFit_25 ?_
       refine gx_goto (tgt := 30) hx dX9_isFit_26 (by decide) ?_
       refine hret _ _ _ _ _ _ _ (by decide) (by decide) dX9_isFit_30 rfl rfl ?_
       exact ⟨by omega, rfl⟩)
  · first
    | (exfalso; omega)
    | (refine gx_aload_n hx dX9_isFit_9 rfl ?_
       refine gx_iload_n hx dX9_isFit_10 rfl ?_
       refine gx_callI hx (c_X9_off _ _ hM hY hi hd) lkX9_162 mwX9_off dX9_isFit_11 (by decide) rfl rfl rfl rfl (Nat.le_of_ble_eq_true rfl) (by decide) ⟨by decide, by decide⟩ (fun z_11 σ_11 hz_11 => ?_)
       obtain ⟨rfl, rfl⟩ := hz_11
       refine gx_callS hx (c_X9_needed _ _ ⟨by omega, by omega⟩) lkX9_165 mwX9_needed dX9_isFit_14 rfl rfl (Nat.le_of_ble_eq_true rfl) (by decide) ⟨by decide, by decide⟩ (fun z_14 σ_14 hz_14 => ?_)
       obtain ⟨rfl, rfl⟩ := hz_14
       refine gx_aload_n hx dX9_isFit_17 rfl ?_
       refine gx_iload_n hx dX9_isFit_18 rfl ?_
       refine gx_callI hx (c_X9_form (i := i) _ _ hM hi) lkX9_83 mwX9_form dX9_isFit_19 (by decide) rfl rfl rfl rfl (Nat.le_of_ble_eq_true rfl) (by decide) ⟨by decide, by decide⟩ (fun z_19 σ_19 hz_19 => ?_)
       obtain ⟨rfl, rfl⟩ := hz_19
       refine gx_icmp_gt (tgt := 29) hx dX9_isFit_22 (by decide) ⟨by omega, by omega⟩ ⟨by omega, by omega⟩ (fun h22 => ?_) (fun h22 => ?_)
       · first
         | (exfalso; omega)
         | (refine gx_iconst hx dX9_isFit_29 ?_
            refine hret _ _ _ _ _ _ _ (by decide) (by decide) dX9_isFit_30 rfl rfl ?_
            exact ⟨by omega, rfl⟩)
       · first
         | (exfalso; omega)
         | (refine gx_iconst hx dX9_isFit_25 ?_
            refine gx_goto (tgt := 30) hx dX9_isFit_26 (by decide) ?_
            refine hret _ _ _ _ _ _ _ (by decide) (by decide) dX9_isFit_30 rfl rfl ?_
            exact ⟨by omega, rfl⟩))
set_option maxRecDepth 20000 in
set_option maxHeartbeats 400000 in
theorem c_X9_lacks (g : Gm) (l : Launch) {σ : Sg} {P : List It} {z : Int} (hM : MP σ P) (hz : rg z) : KI g l yX9_lacks cX9_lacks 2 ((some .int)) (5) 0 0 [.inr 70, .inl z] σ (fun r σ' => ((r = 1 ∧ ¬ inI P z) ∨ (∃ i : Nat, z = (i : Int) ∧ i < P.length ∧ YM σ' P ∧ ((r = 2 ∧ ¬ isT P i) ∨ (r = 3 ∧ isT P i ∧ dfn P (op P i) P.length = -1) ∨ (r = 0 ∧ isT P i ∧ 0 ≤ dfn P (op P i) P.length)))) ∧ FR σ σ' c2 f1) := by
  refine startI (own := RX9) (by decide +kernel) rfl (Nat.le_of_ble_eq_true rfl) ?_
  intro X hx _ _ hret
  obtain ⟨hok, hn, hit⟩ := id hM
  have hl40 := hok.1
  refine gx_aload_n hx dX9_lacks_0 rfl ?_
  refine gx_iload_n hx dX9_lacks_1 rfl ?_
  refine gx_callI hx (c_X9_isItem _ _ hM hz) lkX9_137 mwX9_isItem dX9_lacks_2 (by decide) rfl rfl rfl rfl (Nat.le_of_ble_eq_true rfl) (by decide) ⟨by decide, by decide⟩ (fun z_2 σ_2 hz_2 => ?_)
  obtain ⟨e8, rfl⟩ := hz_2
  replace e8 := ite10 e8
  refine gx_if_ne (tgt := 10) hx dX9_lacks_5 (by decide) ⟨by omega, by omega⟩ (fun h5 => ?_) (fun h5 => ?_)
  · first
    | (exfalso; omega)
    | (obtain ⟨i, rfl⟩ : ∃ i : Nat, z = (i : Int) := ⟨z.toNat, by omega⟩
       have hi : i < P.length := by omega
       have hri := hM.rg i
       have hdl := dfn_lt P (op P i) P.length
       refine gx_aload_n hx dX9_lacks_10 rfl ?_
       refine gx_callV hx (c_X9_lays _ _ hM) lkX9_143 mwX9_lays dX9_lacks_11 (by decide) rfl rfl rfl rfl (Nat.le_of_ble_eq_true rfl) (by decide) ⟨by decide, by decide⟩ (fun σ_11 hz_11 => ?_)
       obtain ⟨hY1, hF1⟩ := hz_11
       have hM1 := hM.fr hF1 rfl
       refine gx_aload_n hx dX9_lacks_14 rfl ?_
       refine gx_iload_n hx dX9_lacks_15 rfl ?_
       refine gx_callI hx (c_X9_isTransfer (i := i) _ _ hM1 hi) lkX9_146 mwX9_isTransfer dX9_lacks_16 (by decide) rfl rfl rfl rfl (Nat.le_of_ble_eq_true rfl) (by decide) ⟨by decide, by decide⟩ (fun z_16 σ_16 hz_16 => ?_)
       obtain ⟨e9, rfl⟩ := hz_16
       replace e9 := ite10 e9
       refine gx_if_ne (tgt := 26) hx dX9_lacks_19 (by decide) ⟨by omega, by omega⟩ (fun h19 => ?_) (fun h19 => ?_)
       · first
         | (exfalso; omega)
         | (refine gx_aload_n hx dX9_lacks_26 rfl ?_
            refine gx_aload_n hx dX9_lacks_27 rfl ?_
            refine gx_iload_n hx dX9_lacks_28 rfl ?_
            refine gx_callI hx (c_X9_operand (i := i) _ _ hM1 hi) lkX9_63 mwX9_operand dX9_lacks_29 (by decide) rfl rfl rfl rfl (Nat.le_of_ble_eq_true rfl) (by decide) ⟨by decide, by decide⟩ (fun z_29 σ_29 hz_29 => ?_)
            obtain ⟨rfl, rfl⟩ := hz_29
            refine gx_callI hx (c_X9_defines (lb := op P i) _ _ hM1 (by omega)) lkX9_128 mwX9_defines dX9_lacks_32 (by decide) rfl rfl rfl rfl (Nat.le_of_ble_eq_true rfl) (by decide) ⟨by decide, by decide⟩ (fun z_32 σ_32 hz_32 => ?_)
            obtain ⟨rfl, rfl⟩ := hz_32
            refine gx_iconst hx dX9_lacks_35 ?_
            refine gx_icmp_ne (tgt := 43) hx dX9_lacks_36 (by decide) ⟨by omega, by omega⟩ ⟨by omega, by omega⟩ (fun h36 => ?_) (fun h36 => ?_)
            · first
              | (exfalso; omega)
              | (refine gx_iconst hx dX9_lacks_43 ?_
                 refine hret _ _ _ _ _ _ _ (by decide) (by decide) dX9_lacks_44 rfl rfl ?_
                 exact ⟨Or.inr ⟨i, rfl, hi, hY1, by omega⟩, hF1⟩)
            · first
              | (exfalso; omega)
              | (refine gx_iconst hx dX9_lacks_39 ?_
                 refine gx_goto (tgt := 44) hx dX9_lacks_40 (by decide) ?_
                 refine hret _ _ _ _ _ _ _ (by decide) (by decide) dX9_lacks_44 rfl rfl ?_
                 exact ⟨Or.inr ⟨i, rfl, hi, hY1, by omega⟩, hF1⟩))
       · first
         | (exfalso; omega)
         | (refine gx_iconst hx dX9_lacks_22 ?_
            refine gx_goto (tgt := 44) hx dX9_lacks_23 (by decide) ?_
            refine hret _ _ _ _ _ _ _ (by decide) (by decide) dX9_lacks_44 rfl rfl ?_
            exact ⟨Or.inr ⟨i, rfl, hi, hY1, by omega⟩, hF1⟩))
  · first
    | (exfalso; omega)
    | (refine gx_iconst hx dX9_lacks_8 ?_
       refine hret _ _ _ _ _ _ _ (by decide) (by decide) dX9_lacks_9 rfl rfl ?_
       exact ⟨Or.inl ⟨rfl, by omega⟩, FR.refl⟩)
set_option maxRecDepth 20000 in
set_option maxHeartbeats 400000 in
theorem c_X9_transfers (g : Gm) (l : Launch) {σ : Sg} {P : List It} (hM : MP σ P) : KI g l yX9_transfers cX9_transfers 3 ((some .int)) (2) 0 0 [.inr 70] σ (fun r σ' => r = (nT P : Int) ∧ σ = σ') := by
  refine startI (own := RX9) (by decide +kernel) rfl (Nat.le_of_ble_eq_true rfl) ?_
  intro X hx _ _ hret
  obtain ⟨hok, hn, hit⟩ := id hM
  have hl40 := hok.1
  refine gx_iconst hx dX9_transfers_0 ?_
  refine gx_istore_n hx dX9_transfers_1 (Nat.le_of_ble_eq_true rfl) ?_
  refine gx_iconst hx dX9_transfers_2 ?_
  refine gx_istore_n hx dX9_transfers_3 (Nat.le_of_ble_eq_true rfl) ?_
  refine gx_loop (α := Nat) (fun i => i ≤ P.length) (fun i => P.length - i) (fun i => [some (.inr 70), some (.inl (cnt (fun i => decide (isT P i)) i : Int)), some (.inl (i : Int))]) (fun _ => []) (fun _ => σ) ?_ 0 (Nat.zero_le _)
  intro i hi ih
  have hcl := cnt_le (fun i => decide (isT P i)) i
  have hri := hM.rg i
  refine gx_iload_n hx dX9_transfers_4 rfl ?_
  refine gx_aload_n hx dX9_transfers_5 rfl ?_
  refine gx_getR hx flX9_7 dX9_transfers_6 (by decide) rfl rfl ?_
  refine gx_iconst hx dX9_transfers_9 ?_
  refine gx_iald hx dX9_transfers_10 (by decide) rfl (by omega) (by omega) (by decide) ?_
  rw [hn]
  refine gx_icmp_ge (tgt := 36) hx dX9_transfers_11 (by decide) ⟨by omega, by omega⟩ ⟨by omega, by omega⟩ (fun h11 => ?_) (fun h11 => ?_)
  · first
    | (exfalso; omega)
    | (refine gx_iload_n hx dX9_transfers_36 rfl ?_
       refine hret _ _ _ _ _ _ _ (by decide) (by decide) dX9_transfers_37 rfl rfl ?_
       have ei : i = P.length := by omega
       subst ei
       exact ⟨rfl, rfl⟩)
  · first
    | (exfalso; omega)
    | (refine gx_iload_n hx dX9_transfers_14 rfl ?_
       refine gx_aload_n hx dX9_transfers_15 rfl ?_
       refine gx_iload_n hx dX9_transfers_16 rfl ?_
       refine gx_callI hx (c_X9_isTransfer (i := i) _ _ hM (by omega)) lkX9_146 mwX9_isTransfer dX9_transfers_17 (by decide) rfl rfl rfl rfl (Nat.le_of_ble_eq_true rfl) (by decide) ⟨by decide, by decide⟩ (fun z_17 σ_17 hz_17 => ?_)
       obtain ⟨e9, rfl⟩ := hz_17
       replace e9 := ite10 e9
       refine gx_if_eq (tgt := 27) hx dX9_transfers_20 (by decide) ⟨by omega, by omega⟩ (fun h20 => ?_) (fun h20 => ?_)
       · first
         | (exfalso; omega)
         | (refine gx_iconst hx dX9_transfers_27 ?_
            refine gx_iadd hx dX9_transfers_28 ?_
            refine gx_istore_n hx dX9_transfers_29 (Nat.le_of_ble_eq_true rfl) ?_
            refine gx_iinc hx dX9_transfers_30 (Nat.le_of_ble_eq_true rfl) rfl ?_
            refine gx_goto (tgt := 4) hx dX9_transfers_33 (by decide) ?_
            refine GJ.cong ?_ rfl rfl (ih (i + 1) (by omega) (by omega))
            first
            | (rw [cnt_s1 (p := (fun i => decide (isT P i))) (i := i) (by simp only [decide_eq_true_eq, isT]; omega)]; rfl)
            | (rw [cnt_s0 (p := (fun i => decide (isT P i))) (i := i) (by simp only [decide_eq_false_iff_not, isT]; omega)]; rfl))
       · first
         | (exfalso; omega)
         | (refine gx_iconst hx dX9_transfers_23 ?_
            refine gx_goto (tgt := 28) hx dX9_transfers_24 (by decide) ?_
            refine gx_iadd hx dX9_transfers_28 ?_
            refine gx_istore_n hx dX9_transfers_29 (Nat.le_of_ble_eq_true rfl) ?_
            refine gx_iinc hx dX9_transfers_30 (Nat.le_of_ble_eq_true rfl) rfl ?_
            refine gx_goto (tgt := 4) hx dX9_transfers_33 (by decide) ?_
            refine GJ.cong ?_ rfl rfl (ih (i + 1) (by omega) (by omega))
            first
            | (rw [cnt_s1 (p := (fun i => decide (isT P i))) (i := i) (by simp only [decide_eq_true_eq, isT]; omega)]; rfl)
            | (rw [cnt_s0 (p := (fun i => decide (isT P i))) (i := i) (by simp only [decide_eq_false_iff_not, isT]; omega)]; rfl)))
set_option maxRecDepth 20000 in
set_option maxHeartbeats 400000 in
theorem c_X9_undefined (g : Gm) (l : Launch) {σ : Sg} {P : List It} (hM : MP σ P) : KI g l yX9_undefined cX9_undefined 3 ((some .int)) (2) 0 0 [.inr 70] σ (fun r σ' => r = (udf P : Int) ∧ σ = σ') := by
  refine startI (own := RX9) (by decide +kernel) rfl (Nat.le_of_ble_eq_true rfl) ?_
  intro X hx _ _ hret
  obtain ⟨hok, hn, hit⟩ := id hM
  have hl40 := hok.1
  refine gx_iconst hx dX9_undefined_0 ?_
  refine gx_istore_n hx dX9_undefined_1 (Nat.le_of_ble_eq_true rfl) ?_
  refine gx_iconst hx dX9_undefined_2 ?_
  refine gx_istore_n hx dX9_undefined_3 (Nat.le_of_ble_eq_true rfl) ?_
  refine gx_loop (α := Nat) (fun i => i ≤ P.length) (fun i => P.length - i) (fun i => [some (.inr 70), some (.inl (cnt (fun i => decide (isT P i ∧ dfn P (op P i) P.length = -1)) i : Int)), some (.inl (i : Int))]) (fun _ => []) (fun _ => σ) ?_ 0 (Nat.zero_le _)
  intro i hi ih
  have hcl := cnt_le (fun i => decide (isT P i ∧ dfn P (op P i) P.length = -1)) i
  have hri := hM.rg i
  have hdl := dfn_lt P (op P i) P.length
  refine gx_iload_n hx dX9_undefined_4 rfl ?_
  refine gx_aload_n hx dX9_undefined_5 rfl ?_
  refine gx_getR hx flX9_7 dX9_undefined_6 (by decide) rfl rfl ?_
  refine gx_iconst hx dX9_undefined_9 ?_
  refine gx_iald hx dX9_undefined_10 (by decide) rfl (by omega) (by omega) (by decide) ?_
  rw [hn]
  refine gx_icmp_ge (tgt := 49) hx dX9_undefined_11 (by decide) ⟨by omega, by omega⟩ ⟨by omega, by omega⟩ (fun h11 => ?_) (fun h11 => ?_)
  · first
    | (exfalso; omega)
    | (refine gx_iload_n hx dX9_undefined_49 rfl ?_
       refine hret _ _ _ _ _ _ _ (by decide) (by decide) dX9_undefined_50 rfl rfl ?_
       have ei : i = P.length := by omega
       subst ei
       exact ⟨rfl, rfl⟩)
  · first
    | (exfalso; omega)
    | (refine gx_iload_n hx dX9_undefined_14 rfl ?_
       refine gx_aload_n hx dX9_undefined_15 rfl ?_
       refine gx_iload_n hx dX9_undefined_16 rfl ?_
       refine gx_callI hx (c_X9_isTransfer (i := i) _ _ hM (by omega)) lkX9_146 mwX9_isTransfer dX9_undefined_17 (by decide) rfl rfl rfl rfl (Nat.le_of_ble_eq_true rfl) (by decide) ⟨by decide, by decide⟩ (fun z_17 σ_17 hz_17 => ?_)
       obtain ⟨e9, rfl⟩ := hz_17
       replace e9 := ite10 e9
       refine gx_if_eq (tgt := 40) hx dX9_undefined_20 (by decide) ⟨by omega, by omega⟩ (fun h20 => ?_) (fun h20 => ?_)
       · first
         | (exfalso; omega)
         | (refine gx_iconst hx dX9_undefined_40 ?_
            refine gx_iadd hx dX9_undefined_41 ?_
            refine gx_istore_n hx dX9_undefined_42 (Nat.le_of_ble_eq_true rfl) ?_
            refine gx_iinc hx dX9_undefined_43 (Nat.le_of_ble_eq_true rfl) rfl ?_
            refine gx_goto (tgt := 4) hx dX9_undefined_46 (by decide) ?_
            refine GJ.cong ?_ rfl rfl (ih (i + 1) (by omega) (by omega))
            first
            | (rw [cnt_s1 (p := (fun i => decide (isT P i ∧ dfn P (op P i) P.length = -1))) (i := i) (by simp only [decide_eq_true_eq, isT]; omega)]; rfl)
            | (rw [cnt_s0 (p := (fun i => decide (isT P i ∧ dfn P (op P i) P.length = -1))) (i := i) (by simp only [decide_eq_false_iff_not, isT]; omega)]; rfl))
       · first
         | (exfalso; omega)
         | (refine gx_aload_n hx dX9_undefined_23 rfl ?_
            refine gx_aload_n hx dX9_undefined_24 rfl ?_
            refine gx_iload_n hx dX9_undefined_25 rfl ?_
            refine gx_callI hx (c_X9_operand (i := i) _ _ hM (by omega)) lkX9_63 mwX9_operand dX9_undefined_26 (by decide) rfl rfl rfl rfl (Nat.le_of_ble_eq_true rfl) (by decide) ⟨by decide, by decide⟩ (fun z_26 σ_26 hz_26 => ?_)
            obtain ⟨rfl, rfl⟩ := hz_26
            refine gx_callI hx (c_X9_defines (lb := op P i) _ _ hM (by omega)) lkX9_128 mwX9_defines dX9_undefined_29 (by decide) rfl rfl rfl rfl (Nat.le_of_ble_eq_true rfl) (by decide) ⟨by decide, by decide⟩ (fun z_29 σ_29 hz_29 => ?_)
            obtain ⟨rfl, rfl⟩ := hz_29
            refine gx_iconst hx dX9_undefined_32 ?_
            refine gx_icmp_ne (tgt := 40) hx dX9_undefined_33 (by decide) ⟨by omega, by omega⟩ ⟨by omega, by omega⟩ (fun h33 => ?_) (fun h33 => ?_)
            · first
              | (exfalso; omega)
              | (refine gx_iconst hx dX9_undefined_40 ?_
                 refine gx_iadd hx dX9_undefined_41 ?_
                 refine gx_istore_n hx dX9_undefined_42 (Nat.le_of_ble_eq_true rfl) ?_
                 refine gx_iinc hx dX9_undefined_43 (Nat.le_of_ble_eq_true rfl) rfl ?_
                 refine gx_goto (tgt := 4) hx dX9_undefined_46 (by decide) ?_
                 refine GJ.cong ?_ rfl rfl (ih (i + 1) (by omega) (by omega))
                 first
                 | (rw [cnt_s1 (p := (fun i => decide (isT P i ∧ dfn P (op P i) P.length = -1))) (i := i) (by simp only [decide_eq_true_eq, isT]; omega)]; rfl)
                 | (rw [cnt_s0 (p := (fun i => decide (isT P i ∧ dfn P (op P i) P.length = -1))) (i := i) (by simp only [decide_eq_false_iff_not, isT]; omega)]; rfl))
            · first
              | (exfalso; omega)
              | (refine gx_iconst hx dX9_undefined_36 ?_
                 refine gx_goto (tgt := 41) hx dX9_undefined_37 (by decide) ?_
                 refine gx_iadd hx dX9_undefined_41 ?_
                 refine gx_istore_n hx dX9_undefined_42 (Nat.le_of_ble_eq_true rfl) ?_
                 refine gx_iinc hx dX9_undefined_43 (Nat.le_of_ble_eq_true rfl) rfl ?_
                 refine gx_goto (tgt := 4) hx dX9_undefined_46 (by decide) ?_
                 refine GJ.cong ?_ rfl rfl (ih (i + 1) (by omega) (by omega))
                 first
                 | (rw [cnt_s1 (p := (fun i => decide (isT P i ∧ dfn P (op P i) P.length = -1))) (i := i) (by simp only [decide_eq_true_eq, isT]; omega)]; rfl)
                 | (rw [cnt_s0 (p := (fun i => decide (isT P i ∧ dfn P (op P i) P.length = -1))) (i := i) (by simp only [decide_eq_false_iff_not, isT]; omega)]; rfl))))
set_option maxRecDepth 20000 in
set_option maxHeartbeats 400000 in
theorem c_X9_misfitMany (g : Gm) (l : Launch) {σ : Sg} {P : List It} (hM : MP σ P) (hu : udf P = 0) : KI g l yX9_misfitMany cX9_misfitMany 3 ((some .int)) (5) 0 0 [.inr 70] σ (fun r σ' => r = (msf P (fm P) : Int) ∧ YM σ' P ∧ FR σ σ' c2 f1) := by
  refine startI (own := RX9) (by decide +kernel) rfl (Nat.le_of_ble_eq_true rfl) ?_
  intro X hx _ _ hret
  obtain ⟨hok, hn, hit⟩ := id hM
  have hl40 := hok.1
  refine gx_aload_n hx dX9_misfitMany_0 rfl ?_
  refine gx_callV hx (c_X9_lays _ _ hM) lkX9_143 mwX9_lays dX9_misfitMany_1 (by decide) rfl rfl rfl rfl (Nat.le_of_ble_eq_true rfl) (by decide) ⟨by decide, by decide⟩ (fun σ_1 hz_1 => ?_)
  obtain ⟨hY1, hF1⟩ := hz_1
  have hM1 := hM.fr hF1 rfl
  refine gx_iconst hx dX9_misfitMany_4 ?_
  refine gx_istore_n hx dX9_misfitMany_5 (Nat.le_of_ble_eq_true rfl) ?_
  refine gx_iconst hx dX9_misfitMany_6 ?_
  refine gx_istore_n hx dX9_misfitMany_7 (Nat.le_of_ble_eq_true rfl) ?_
  refine gx_loop (α := Nat) (fun i => i ≤ P.length) (fun i => P.length - i) (fun i => [some (.inr 70), some (.inl (cnt (fun i => decide (isT P i ∧ mis P (fm P) i)) i : Int)), some (.inl (i : Int))]) (fun _ => []) (fun _ => σ_1) ?_ 0 (Nat.zero_le _)
  intro i hi ih
  have hcl := cnt_le (fun i => decide (isT P i ∧ mis P (fm P) i)) i
  have hri := hM.rg i
  refine gx_iload_n hx dX9_misfitMany_8 rfl ?_
  refine gx_aload_n hx dX9_misfitMany_9 rfl ?_
  refine gx_getR hx flX9_7 dX9_misfitMany_10 (by decide) rfl rfl ?_
  refine gx_iconst hx dX9_misfitMany_13 ?_
  refine gx_iald hx dX9_misfitMany_14 (by decide) rfl (by omega) (by omega) (by decide) ?_
  rw [hM1.2.1]
  refine gx_icmp_ge (tgt := 48) hx dX9_misfitMany_15 (by decide) ⟨by omega, by omega⟩ ⟨by omega, by omega⟩ (fun h15 => ?_) (fun h15 => ?_)
  · first
    | (exfalso; omega)
    | (refine gx_iload_n hx dX9_misfitMany_48 rfl ?_
       refine hret _ _ _ _ _ _ _ (by decide) (by decide) dX9_misfitMany_49 rfl rfl ?_
       have ei : i = P.length := by omega
       subst ei
       exact ⟨rfl, hY1, hF1⟩)
  · first
    | (exfalso; omega)
    | (refine gx_iload_n hx dX9_misfitMany_18 rfl ?_
       refine gx_aload_n hx dX9_misfitMany_19 rfl ?_
       refine gx_iload_n hx dX9_misfitMany_20 rfl ?_
       refine gx_callI hx (c_X9_isTransfer (i := i) _ _ hM1 (by omega)) lkX9_146 mwX9_isTransfer dX9_misfitMany_21 (by decide) rfl rfl rfl rfl (Nat.le_of_ble_eq_true rfl) (by decide) ⟨by decide, by decide⟩ (fun z_21 σ_21 hz_21 => ?_)
       obtain ⟨e9, rfl⟩ := hz_21
       replace e9 := ite10 e9
       refine gx_if_eq (tgt := 39) hx dX9_misfitMany_24 (by decide) ⟨by omega, by omega⟩ (fun h24 => ?_) (fun h24 => ?_)
       · first
         | (exfalso; omega)
         | (refine gx_iconst hx dX9_misfitMany_39 ?_
            refine gx_iadd hx dX9_misfitMany_40 ?_
            refine gx_istore_n hx dX9_misfitMany_41 (Nat.le_of_ble_eq_true rfl) ?_
            refine gx_iinc hx dX9_misfitMany_42 (Nat.le_of_ble_eq_true rfl) rfl ?_
            refine gx_goto (tgt := 8) hx dX9_misfitMany_45 (by decide) ?_
            refine GJ.cong ?_ rfl rfl (ih (i + 1) (by omega) (by omega))
            first
            | (rw [cnt_s1 (p := (fun i => decide (isT P i ∧ mis P (fm P) i))) (i := i) (by simp only [decide_eq_true_eq, isT, mis]; omega)]; rfl)
            | (rw [cnt_s0 (p := (fun i => decide (isT P i ∧ mis P (fm P) i))) (i := i) (by simp only [decide_eq_false_iff_not, isT, mis]; omega)]; rfl))
       · first
         | (exfalso; omega)
         | (refine gx_aload_n hx dX9_misfitMany_27 rfl ?_
            refine gx_iload_n hx dX9_misfitMany_28 rfl ?_
            refine gx_callI hx (c_X9_isFit (i := i) _ _ hM1 hY1 (by omega) (udf_zero hu (by omega) (by omega)).1) lkX9_171 mwX9_isFit dX9_misfitMany_29 (by decide) rfl rfl rfl rfl (Nat.le_of_ble_eq_true rfl) (by decide) ⟨by decide, by decide⟩ (fun z_29 σ_29 hz_29 => ?_)
            obtain ⟨e8, rfl⟩ := hz_29
            refine gx_if_ne (tgt := 39) hx dX9_misfitMany_32 (by decide) ⟨by omega, by omega⟩ (fun h32 => ?_) (fun h32 => ?_)
            · first
              | (exfalso; omega)
              | (refine gx_iconst hx dX9_misfitMany_39 ?_
                 refine gx_iadd hx dX9_misfitMany_40 ?_
                 refine gx_istore_n hx dX9_misfitMany_41 (Nat.le_of_ble_eq_true rfl) ?_
                 refine gx_iinc hx dX9_misfitMany_42 (Nat.le_of_ble_eq_true rfl) rfl ?_
                 refine gx_goto (tgt := 8) hx dX9_misfitMany_45 (by decide) ?_
                 refine GJ.cong ?_ rfl rfl (ih (i + 1) (by omega) (by omega))
                 first
                 | (rw [cnt_s1 (p := (fun i => decide (isT P i ∧ mis P (fm P) i))) (i := i) (by simp only [decide_eq_true_eq, isT, mis]; omega)]; rfl)
                 | (rw [cnt_s0 (p := (fun i => decide (isT P i ∧ mis P (fm P) i))) (i := i) (by simp only [decide_eq_false_iff_not, isT, mis]; omega)]; rfl))
            · first
              | (exfalso; omega)
              | (refine gx_iconst hx dX9_misfitMany_35 ?_
                 refine gx_goto (tgt := 40) hx dX9_misfitMany_36 (by decide) ?_
                 refine gx_iadd hx dX9_misfitMany_40 ?_
                 refine gx_istore_n hx dX9_misfitMany_41 (Nat.le_of_ble_eq_true rfl) ?_
                 refine gx_iinc hx dX9_misfitMany_42 (Nat.le_of_ble_eq_true rfl) rfl ?_
                 refine gx_goto (tgt := 8) hx dX9_misfitMany_45 (by decide) ?_
                 refine GJ.cong ?_ rfl rfl (ih (i + 1) (by omega) (by omega))
                 first
                 | (rw [cnt_s1 (p := (fun i => decide (isT P i ∧ mis P (fm P) i))) (i := i) (by simp only [decide_eq_true_eq, isT, mis]; omega)]; rfl)
                 | (rw [cnt_s0 (p := (fun i => decide (isT P i ∧ mis P (fm P) i))) (i := i) (by simp only [decide_eq_false_iff_not, isT, mis]; omega)]; rfl))))
set_option maxRecDepth 20000 in
set_option maxHeartbeats 400000 in
theorem c_X9_pools (g : Gm) (l : Launch) {σ : Sg} {P : List It} (hM : MP σ P) : KI g l yX9_pools cX9_pools 3 ((some .int)) (1) 0 0 [.inr 70] σ (fun r σ' => r = (pno P P.length : Int) ∧ σ = σ') := by
  refine startI (own := RX9) (by decide +kernel) rfl (Nat.le_of_ble_eq_true rfl) ?_
  intro X hx _ _ hret
  obtain ⟨hok, hn, hit⟩ := id hM
  have hl40 := hok.1
  refine gx_iconst hx dX9_pools_0 ?_
  refine gx_istore_n hx dX9_pools_1 (Nat.le_of_ble_eq_true rfl) ?_
  refine gx_iconst hx dX9_pools_2 ?_
  refine gx_istore_n hx dX9_pools_3 (Nat.le_of_ble_eq_true rfl) ?_
  refine gx_loop (α := Nat) (fun i => i ≤ P.length) (fun i => P.length - i) (fun i => [some (.inr 70), some (.inl (pno P i : Int)), some (.inl (i : Int))]) (fun _ => []) (fun _ => σ) ?_ 0 (Nat.zero_le _)
  intro i hi ih
  have hcl := pno_le P i
  have hri := hM.rg i
  refine gx_iload_n hx dX9_pools_4 rfl ?_
  refine gx_aload_n hx dX9_pools_5 rfl ?_
  refine gx_getR hx flX9_7 dX9_pools_6 (by decide) rfl rfl ?_
  refine gx_iconst hx dX9_pools_9 ?_
  refine gx_iald hx dX9_pools_10 (by decide) rfl (by omega) (by omega) (by decide) ?_
  rw [hn]
  refine gx_icmp_ge (tgt := 38) hx dX9_pools_11 (by decide) ⟨by omega, by omega⟩ ⟨by omega, by omega⟩ (fun h11 => ?_) (fun h11 => ?_)
  · first
    | (exfalso; omega)
    | (refine gx_iload_n hx dX9_pools_38 rfl ?_
       refine hret _ _ _ _ _ _ _ (by decide) (by decide) dX9_pools_39 rfl rfl ?_
       have ei : i = P.length := by omega
       subst ei
       exact ⟨rfl, rfl⟩)
  · first
    | (exfalso; omega)
    | (refine gx_iload_n hx dX9_pools_14 rfl ?_
       refine gx_aload_n hx dX9_pools_15 rfl ?_
       refine gx_iload_n hx dX9_pools_16 rfl ?_
       refine gx_callI hx (c_X9_kind (i := i) _ _ hM (by omega)) lkX9_53 mwX9_kind dX9_pools_17 (by decide) rfl rfl rfl rfl (Nat.le_of_ble_eq_true rfl) (by decide) ⟨by decide, by decide⟩ (fun z_17 σ_17 hz_17 => ?_)
       obtain ⟨rfl, rfl⟩ := hz_17
       refine gx_bipush hx dX9_pools_20 (by decide) ?_
       refine gx_icmp_ne (tgt := 29) hx dX9_pools_22 (by decide) ⟨by omega, by omega⟩ ⟨by omega, by omega⟩ (fun h22 => ?_) (fun h22 => ?_)
       · first
         | (exfalso; omega)
         | (refine gx_iconst hx dX9_pools_29 ?_
            refine gx_iadd hx dX9_pools_30 ?_
            refine gx_istore_n hx dX9_pools_31 (Nat.le_of_ble_eq_true rfl) ?_
            refine gx_iinc hx dX9_pools_32 (Nat.le_of_ble_eq_true rfl) rfl ?_
            refine gx_goto (tgt := 4) hx dX9_pools_35 (by decide) ?_
            refine GJ.cong ?_ rfl rfl (ih (i + 1) (by omega) (by omega))
            first
            | (rw [show ((pno P (i + 1) : Nat) : Int) = (pno P i : Int) + 1 by rw [pno, if_pos (by omega)]; omega]; rfl)
            | (rw [show ((pno P (i + 1) : Nat) : Int) = (pno P i : Int) + 0 by rw [pno, if_neg (by omega)]; omega]; rfl))
       · first
         | (exfalso; omega)
         | (refine gx_iconst hx dX9_pools_25 ?_
            refine gx_goto (tgt := 30) hx dX9_pools_26 (by decide) ?_
            refine gx_iadd hx dX9_pools_30 ?_
            refine gx_istore_n hx dX9_pools_31 (Nat.le_of_ble_eq_true rfl) ?_
            refine gx_iinc hx dX9_pools_32 (Nat.le_of_ble_eq_true rfl) rfl ?_
            refine gx_goto (tgt := 4) hx dX9_pools_35 (by decide) ?_
            refine GJ.cong ?_ rfl rfl (ih (i + 1) (by omega) (by omega))
            first
            | (rw [show ((pno P (i + 1) : Nat) : Int) = (pno P i : Int) + 1 by rw [pno, if_pos (by omega)]; omega]; rfl)
            | (rw [show ((pno P (i + 1) : Nat) : Int) = (pno P i : Int) + 0 by rw [pno, if_neg (by omega)]; omega]; rfl)))
set_option maxRecDepth 20000 in
set_option maxHeartbeats 400000 in
theorem c_X9_placeOf (g : Gm) (l : Launch) {σ : Sg} {P : List It} {p : Nat} (hM : MP σ P) (hp : p ≤ pno P P.length) : KI g l yX9_placeOf cX9_placeOf 4 ((some .int)) (1) 0 0 [.inr 70, .inl (p : Int)] σ (fun r σ' => r = (plc P p : Int) ∧ σ = σ') := by
  refine startI (own := RX9) (by decide +kernel) rfl (Nat.le_of_ble_eq_true rfl) ?_
  intro X hx _ _ hret
  obtain ⟨hok, hn, hit⟩ := id hM
  have hl40 := hok.1
  have hpl := pno_le P P.length
  refine gx_iload_n hx dX9_placeOf_0 rfl ?_
  refine gx_istore_n hx dX9_placeOf_1 (Nat.le_of_ble_eq_true rfl) ?_
  refine gx_iconst hx dX9_placeOf_2 ?_
  refine gx_istore_n hx dX9_placeOf_3 (Nat.le_of_ble_eq_true rfl) ?_
  refine gx_loop (α := Nat) (fun i => i ≤ P.length ∧ pno P i ≤ p) (fun i => P.length - i) (fun i => [some (.inr 70), some (.inl (p : Int)), some (.inl ((p : Int) - (pno P i : Int))), some (.inl (i : Int))]) (fun _ => []) (fun _ => σ) ?_ 0 ⟨Nat.zero_le _, Nat.zero_le _⟩
  rintro i ⟨hi, hpi⟩ ih
  have hri := hM.rg i
  refine gx_iload_n hx dX9_placeOf_4 rfl ?_
  refine gx_aload_n hx dX9_placeOf_5 rfl ?_
  refine gx_getR hx flX9_7 dX9_placeOf_6 (by decide) rfl rfl ?_
  refine gx_iconst hx dX9_placeOf_9 ?_
  refine gx_iald hx dX9_placeOf_10 (by decide) rfl (by omega) (by omega) (by decide) ?_
  rw [hn]
  refine gx_icmp_ge (tgt := 52) hx dX9_placeOf_11 (by decide) ⟨by omega, by omega⟩ ⟨by omega, by omega⟩ (fun h11 => ?_) (fun h11 => ?_)
  · first
    | (exfalso; omega)
    | (refine gx_iload_n hx dX9_placeOf_52 rfl ?_
       refine hret _ _ _ _ _ _ _ (by decide) (by decide) dX9_placeOf_53 rfl rfl ?_
       refine ⟨?_, rfl⟩
       congr 1
       symm
       first
       | exact plc_uniq (by omega) hi (by omega)
       | (have ei : i = P.length := by omega
          subst ei
          exact plc_uniq (ok_out (Nat.le_refl _)).1 hi (by omega)))
  · first
    | (exfalso; omega)
    | (refine gx_aload_n hx dX9_placeOf_14 rfl ?_
       refine gx_iload_n hx dX9_placeOf_15 rfl ?_
       refine gx_callI hx (c_X9_kind (i := i) _ _ hM (by omega)) lkX9_53 mwX9_kind dX9_placeOf_16 (by decide) rfl rfl rfl rfl (Nat.le_of_ble_eq_true rfl) (by decide) ⟨by decide, by decide⟩ (fun z_16 σ_16 hz_16 => ?_)
       obtain ⟨rfl, rfl⟩ := hz_16
       refine gx_bipush hx dX9_placeOf_19 (by decide) ?_
       refine gx_icmp_ne (tgt := 28) hx dX9_placeOf_21 (by decide) ⟨by omega, by omega⟩ ⟨by omega, by omega⟩ (fun h21 => ?_) (fun h21 => ?_)
       · first
         | (exfalso; omega)
         | (refine gx_iload_n hx dX9_placeOf_28 rfl ?_
            refine gx_aload_n hx dX9_placeOf_29 rfl ?_
            refine gx_iload_n hx dX9_placeOf_30 rfl ?_
            refine gx_callI hx (c_X9_kind (i := i) _ _ hM (by omega)) lkX9_53 mwX9_kind dX9_placeOf_31 (by decide) rfl rfl rfl rfl (Nat.le_of_ble_eq_true rfl) (by decide) ⟨by decide, by decide⟩ (fun z_31 σ_31 hz_31 => ?_)
            obtain ⟨rfl, rfl⟩ := hz_31
            refine gx_bipush hx dX9_placeOf_34 (by decide) ?_
            refine gx_icmp_ne (tgt := 43) hx dX9_placeOf_36 (by decide) ⟨by omega, by omega⟩ ⟨by omega, by omega⟩ (fun h36 => ?_) (fun h36 => ?_)
            · first
              | (exfalso; omega)
              | (refine gx_iconst hx dX9_placeOf_43 ?_
                 refine gx_isub hx dX9_placeOf_44 ?_
                 refine gx_istore_n hx dX9_placeOf_45 (Nat.le_of_ble_eq_true rfl) ?_
                 refine gx_iinc hx dX9_placeOf_46 (Nat.le_of_ble_eq_true rfl) rfl ?_
                 refine gx_goto (tgt := 4) hx dX9_placeOf_49 (by decide) ?_
                 first
                 | (have e1 : pno P (i + 1) = pno P i + 1 := by rw [pno, if_pos (by omega)]
                    refine GJ.cong ?_ rfl rfl (ih (i + 1) ⟨by omega, by omega⟩ (by omega))
                    rw [show (p : Int) - (pno P (i + 1) : Int) = (p : Int) - (pno P i : Int) - 1 by omega]; rfl)
                 | (have e1 : pno P (i + 1) = pno P i := by rw [pno, if_neg (by omega)]; rfl
                    refine GJ.cong ?_ rfl rfl (ih (i + 1) ⟨by omega, by omega⟩ (by omega))
                    rw [show (p : Int) - (pno P (i + 1) : Int) = (p : Int) - (pno P i : Int) - 0 by omega]; rfl))
            · first
              | (exfalso; omega)
              | (refine gx_iconst hx dX9_placeOf_39 ?_
                 refine gx_goto (tgt := 44) hx dX9_placeOf_40 (by decide) ?_
                 refine gx_isub hx dX9_placeOf_44 ?_
                 refine gx_istore_n hx dX9_placeOf_45 (Nat.le_of_ble_eq_true rfl) ?_
                 refine gx_iinc hx dX9_placeOf_46 (Nat.le_of_ble_eq_true rfl) rfl ?_
                 refine gx_goto (tgt := 4) hx dX9_placeOf_49 (by decide) ?_
                 first
                 | (have e1 : pno P (i + 1) = pno P i + 1 := by rw [pno, if_pos (by omega)]
                    refine GJ.cong ?_ rfl rfl (ih (i + 1) ⟨by omega, by omega⟩ (by omega))
                    rw [show (p : Int) - (pno P (i + 1) : Int) = (p : Int) - (pno P i : Int) - 1 by omega]; rfl)
                 | (have e1 : pno P (i + 1) = pno P i := by rw [pno, if_neg (by omega)]; rfl
                    refine GJ.cong ?_ rfl rfl (ih (i + 1) ⟨by omega, by omega⟩ (by omega))
                    rw [show (p : Int) - (pno P (i + 1) : Int) = (p : Int) - (pno P i : Int) - 0 by omega]; rfl)))
       · first
         | (exfalso; omega)
         | (refine gx_iload_n hx dX9_placeOf_24 rfl ?_
            refine gx_if_le (tgt := 52) hx dX9_placeOf_25 (by decide) ⟨by omega, by omega⟩ (fun h25 => ?_) (fun h25 => ?_)
            · first
              | (exfalso; omega)
              | (refine gx_iload_n hx dX9_placeOf_52 rfl ?_
                 refine hret _ _ _ _ _ _ _ (by decide) (by decide) dX9_placeOf_53 rfl rfl ?_
                 refine ⟨?_, rfl⟩
                 congr 1
                 symm
                 first
                 | exact plc_uniq (by omega) hi (by omega)
                 | (have ei : i = P.length := by omega
                    subst ei
                    exact plc_uniq (ok_out (Nat.le_refl _)).1 hi (by omega)))
            · first
              | (exfalso; omega)
              | (refine gx_iload_n hx dX9_placeOf_28 rfl ?_
                 refine gx_aload_n hx dX9_placeOf_29 rfl ?_
                 refine gx_iload_n hx dX9_placeOf_30 rfl ?_
                 refine gx_callI hx (c_X9_kind (i := i) _ _ hM (by omega)) lkX9_53 mwX9_kind dX9_placeOf_31 (by decide) rfl rfl rfl rfl (Nat.le_of_ble_eq_true rfl) (by decide) ⟨by decide, by decide⟩ (fun z_31 σ_31 hz_31 => ?_)
                 obtain ⟨rfl, rfl⟩ := hz_31
                 refine gx_bipush hx dX9_placeOf_34 (by decide) ?_
                 refine gx_icmp_ne (tgt := 43) hx dX9_placeOf_36 (by decide) ⟨by omega, by omega⟩ ⟨by omega, by omega⟩ (fun h36 => ?_) (fun h36 => ?_)
                 · first
                   | (exfalso; omega)
                   | (refine gx_iconst hx dX9_placeOf_43 ?_
                      refine gx_isub hx dX9_placeOf_44 ?_
                      refine gx_istore_n hx dX9_placeOf_45 (Nat.le_of_ble_eq_true rfl) ?_
                      refine gx_iinc hx dX9_placeOf_46 (Nat.le_of_ble_eq_true rfl) rfl ?_
                      refine gx_goto (tgt := 4) hx dX9_placeOf_49 (by decide) ?_
                      first
                      | (have e1 : pno P (i + 1) = pno P i + 1 := by rw [pno, if_pos (by omega)]
                         refine GJ.cong ?_ rfl rfl (ih (i + 1) ⟨by omega, by omega⟩ (by omega))
                         rw [show (p : Int) - (pno P (i + 1) : Int) = (p : Int) - (pno P i : Int) - 1 by omega]; rfl)
                      | (have e1 : pno P (i + 1) = pno P i := by rw [pno, if_neg (by omega)]; rfl
                         refine GJ.cong ?_ rfl rfl (ih (i + 1) ⟨by omega, by omega⟩ (by omega))
                         rw [show (p : Int) - (pno P (i + 1) : Int) = (p : Int) - (pno P i : Int) - 0 by omega]; rfl))
                 · first
                   | (exfalso; omega)
                   | (refine gx_iconst hx dX9_placeOf_39 ?_
                      refine gx_goto (tgt := 44) hx dX9_placeOf_40 (by decide) ?_
                      refine gx_isub hx dX9_placeOf_44 ?_
                      refine gx_istore_n hx dX9_placeOf_45 (Nat.le_of_ble_eq_true rfl) ?_
                      refine gx_iinc hx dX9_placeOf_46 (Nat.le_of_ble_eq_true rfl) rfl ?_
                      refine gx_goto (tgt := 4) hx dX9_placeOf_49 (by decide) ?_
                      first
                      | (have e1 : pno P (i + 1) = pno P i + 1 := by rw [pno, if_pos (by omega)]
                         refine GJ.cong ?_ rfl rfl (ih (i + 1) ⟨by omega, by omega⟩ (by omega))
                         rw [show (p : Int) - (pno P (i + 1) : Int) = (p : Int) - (pno P i : Int) - 1 by omega]; rfl)
                      | (have e1 : pno P (i + 1) = pno P i := by rw [pno, if_neg (by omega)]; rfl
                         refine GJ.cong ?_ rfl rfl (ih (i + 1) ⟨by omega, by omega⟩ (by omega))
                         rw [show (p : Int) - (pno P (i + 1) : Int) = (p : Int) - (pno P i : Int) - 0 by omega]; rfl)))))
set_option maxRecDepth 20000 in
set_option maxHeartbeats 400000 in
theorem c_X9_poolPlace (g : Gm) (l : Launch) {σ : Sg} {P : List It} {i : Nat} (hM : MP σ P) (hi : i < P.length) : KI g l yX9_poolPlace cX9_poolPlace 3 ((some .int)) (1) 0 0 [.inr 70, .inl (i : Int)] σ (fun r σ' => r = (npl P i : Int) ∧ σ = σ') := by
  refine startI (own := RX9) (by decide +kernel) rfl (Nat.le_of_ble_eq_true rfl) ?_
  intro X hx _ _ hret
  obtain ⟨hok, hn, hit⟩ := id hM
  have hl40 := hok.1
  refine gx_iload_n hx dX9_poolPlace_0 rfl ?_
  refine gx_istore_n hx dX9_poolPlace_1 (Nat.le_of_ble_eq_true rfl) ?_
  refine gx_loop (α := Nat) (fun j => i ≤ j ∧ j ≤ P.length ∧ ∀ q, i ≤ q → q < j → kd P q ≠ 7) (fun j => P.length - j) (fun j => [some (.inr 70), some (.inl (i : Int)), some (.inl (j : Int))]) (fun _ => []) (fun _ => σ) ?_ i ⟨Nat.le_refl _, by omega, fun q h1 h2 => by omega⟩
  rintro j ⟨hij, hjl, hno⟩ ih
  have hrj := hM.rg j
  refine gx_iload_n hx dX9_poolPlace_2 rfl ?_
  refine gx_aload_n hx dX9_poolPlace_3 rfl ?_
  refine gx_getR hx flX9_7 dX9_poolPlace_4 (by decide) rfl rfl ?_
  refine gx_iconst hx dX9_poolPlace_7 ?_
  refine gx_iald hx dX9_poolPlace_8 (by decide) rfl (by omega) (by omega) (by decide) ?_
  rw [hn]
  refine gx_icmp_ge (tgt := 28) hx dX9_poolPlace_9 (by decide) ⟨by omega, by omega⟩ ⟨by omega, by omega⟩ (fun h9 => ?_) (fun h9 => ?_)
  · first
    | (exfalso; omega)
    | (refine gx_iload_n hx dX9_poolPlace_28 rfl ?_
       refine hret _ _ _ _ _ _ _ (by decide) (by decide) dX9_poolPlace_29 rfl rfl ?_
       refine ⟨?_, rfl⟩
       congr 1
       symm
       first
       | exact npl_uniq (by omega) hij hjl hno
       | (have ej : j = P.length := by omega
          subst ej
          exact npl_uniq (ok_out (Nat.le_refl _)).1 hij hjl hno))
  · first
    | (exfalso; omega)
    | (refine gx_aload_n hx dX9_poolPlace_12 rfl ?_
       refine gx_iload_n hx dX9_poolPlace_13 rfl ?_
       refine gx_callI hx (c_X9_kind (i := j) _ _ hM (by omega)) lkX9_53 mwX9_kind dX9_poolPlace_14 (by decide) rfl rfl rfl rfl (Nat.le_of_ble_eq_true rfl) (by decide) ⟨by decide, by decide⟩ (fun z_14 σ_14 hz_14 => ?_)
       obtain ⟨rfl, rfl⟩ := hz_14
       refine gx_bipush hx dX9_poolPlace_17 (by decide) ?_
       refine gx_icmp_eq (tgt := 28) hx dX9_poolPlace_19 (by decide) ⟨by omega, by omega⟩ ⟨by omega, by omega⟩ (fun h19 => ?_) (fun h19 => ?_)
       · first
         | (exfalso; omega)
         | (refine gx_iload_n hx dX9_poolPlace_28 rfl ?_
            refine hret _ _ _ _ _ _ _ (by decide) (by decide) dX9_poolPlace_29 rfl rfl ?_
            refine ⟨?_, rfl⟩
            congr 1
            symm
            first
            | exact npl_uniq (by omega) hij hjl hno
            | (have ej : j = P.length := by omega
               subst ej
               exact npl_uniq (ok_out (Nat.le_refl _)).1 hij hjl hno))
       · first
         | (exfalso; omega)
         | (refine gx_iinc hx dX9_poolPlace_22 (Nat.le_of_ble_eq_true rfl) rfl ?_
            refine gx_goto (tgt := 2) hx dX9_poolPlace_25 (by decide) ?_
            refine ih (j + 1) ⟨by omega, by omega, fun q h1 h2 => ?_⟩ (by omega)
            rcases Nat.lt_or_ge q j with h | h
            · exact hno q h1 h
            · have e : q = j := by omega
              subst e
              omega))
set_option maxRecDepth 20000 in
set_option maxHeartbeats 400000 in
theorem c_X9_lacksLoad (g : Gm) (l : Launch) {σ : Sg} {P : List It} {z : Int} (hM : MP σ P) (hz : rg z) : KI g l yX9_lacksLoad cX9_lacksLoad 2 ((some .int)) (2) 0 0 [.inr 70, .inl z] σ (fun r σ' => ((r = 1 ∧ ¬ inI P z) ∨ (∃ i : Nat, z = (i : Int) ∧ i < P.length ∧ ((r = 2 ∧ kd P i ≠ 6) ∨ (r = 0 ∧ kd P i = 6)))) ∧ σ = σ') := by
  refine startI (own := RX9) (by decide +kernel) rfl (Nat.le_of_ble_eq_true rfl) ?_
  intro X hx _ _ hret
  obtain ⟨hok, hn, hit⟩ := id hM
  have hl40 := hok.1
  refine gx_aload_n hx dX9_lacksLoad_0 rfl ?_
  refine gx_iload_n hx dX9_lacksLoad_1 rfl ?_
  refine gx_callI hx (c_X9_isItem _ _ hM hz) lkX9_137 mwX9_isItem dX9_lacksLoad_2 (by decide) rfl rfl rfl rfl (Nat.le_of_ble_eq_true rfl) (by decide) ⟨by decide, by decide⟩ (fun z_2 σ_2 hz_2 => ?_)
  obtain ⟨e8, rfl⟩ := hz_2
  replace e8 := ite10 e8
  refine gx_if_ne (tgt := 12) hx dX9_lacksLoad_5 (by decide) ⟨by omega, by omega⟩ (fun h5 => ?_) (fun h5 => ?_)
  · first
    | (exfalso; omega)
    | (obtain ⟨i, hzi⟩ : ∃ i : Nat, z = (i : Int) := ⟨z.toNat, by omega⟩
       have hi : i < P.length := by omega
       have hri := hM.rg i
       subst hzi
       refine gx_aload_n hx dX9_lacksLoad_12 rfl ?_
       refine gx_iload_n hx dX9_lacksLoad_13 rfl ?_
       refine gx_callI hx (c_X9_kind (i := i) _ _ hM hi) lkX9_53 mwX9_kind dX9_lacksLoad_14 (by decide) rfl rfl rfl rfl (Nat.le_of_ble_eq_true rfl) (by decide) ⟨by decide, by decide⟩ (fun z_14 σ_14 hz_14 => ?_)
       obtain ⟨rfl, rfl⟩ := hz_14
       refine gx_bipush hx dX9_lacksLoad_17 (by decide) ?_
       refine gx_icmp_eq (tgt := 26) hx dX9_lacksLoad_19 (by decide) ⟨by omega, by omega⟩ ⟨by omega, by omega⟩ (fun h19 => ?_) (fun h19 => ?_)
       · first
         | (exfalso; omega)
         | (refine gx_iconst hx dX9_lacksLoad_26 ?_
            refine hret _ _ _ _ _ _ _ (by decide) (by decide) dX9_lacksLoad_27 rfl rfl ?_
            first
            | exact ⟨Or.inl ⟨rfl, by omega⟩, rfl⟩
            | exact ⟨Or.inr ⟨i, rfl, hi, by omega⟩, rfl⟩)
       · first
         | (exfalso; omega)
         | (refine gx_iconst hx dX9_lacksLoad_22 ?_
            refine gx_goto (tgt := 27) hx dX9_lacksLoad_23 (by decide) ?_
            refine hret _ _ _ _ _ _ _ (by decide) (by decide) dX9_lacksLoad_27 rfl rfl ?_
            first
            | exact ⟨Or.inl ⟨rfl, by omega⟩, rfl⟩
            | exact ⟨Or.inr ⟨i, rfl, hi, by omega⟩, rfl⟩))
  · first
    | (exfalso; omega)
    | (refine gx_iconst hx dX9_lacksLoad_8 ?_
       refine gx_goto (tgt := 27) hx dX9_lacksLoad_9 (by decide) ?_
       refine hret _ _ _ _ _ _ _ (by decide) (by decide) dX9_lacksLoad_27 rfl rfl ?_
       first
       | exact ⟨Or.inl ⟨rfl, by omega⟩, rfl⟩
       | exact ⟨Or.inr ⟨i, rfl, hi, by omega⟩, rfl⟩)
set_option maxRecDepth 20000 in
set_option maxHeartbeats 400000 in
theorem c_X9_far (g : Gm) (l : Launch) {σ : Sg} {P : List It} {i m : Nat} (hM : MP σ P) (hY : YM σ P) (hi : i < P.length) (h6 : kd P i = 6) (hm : m < 1000) : KI g l yX9_far cX9_far 4 ((some .int)) (2) 0 0 [.inr 70, .inl (i : Int), .inl (m : Int)] σ (fun r σ' => r = dst P i m ∧ FR σ σ' c1 f1) := by
  refine startI (own := RX9) (by decide +kernel) rfl (Nat.le_of_ble_eq_true rfl) ?_
  intro X hx _ _ hret
  obtain ⟨hok, hn, hit⟩ := id hM
  have hl40 := hok.1
  obtain ⟨np1, np2, np3, np4⟩ := npl_spec (P := P) (i := i) (by omega)
  have hab := aPb hok np3
  have hri := hM.rg i
  have hvl := vals_le hok np3
  refine gx_aload_n hx dX9_far_0 rfl ?_
  refine gx_iload_n hx dX9_far_1 rfl ?_
  refine gx_callI hx (c_X9_poolPlace (i := i) _ _ hM hi) lkX9_211 mwX9_poolPlace dX9_far_2 (by decide) rfl rfl rfl rfl (Nat.le_of_ble_eq_true rfl) (by decide) ⟨by decide, by decide⟩ (fun z_2 σ_2 hz_2 => ?_)
  obtain ⟨rfl, rfl⟩ := hz_2
  refine gx_istore_n hx dX9_far_5 (Nat.le_of_ble_eq_true rfl) ?_
  refine gx_aload_n hx dX9_far_6 rfl ?_
  refine gx_iload_n hx dX9_far_7 rfl ?_
  refine gx_callV hx (c_X9_tellValues (q := npl P i) _ _ hM np3) lkX9_69 mwX9_tellValues dX9_far_8 (by decide) rfl rfl rfl rfl (Nat.le_of_ble_eq_true rfl) (by decide) ⟨by decide, by decide⟩ (fun σ_8 hz_8 => ?_)
  obtain ⟨hV1, hF1⟩ := hz_8
  have hM1 := hM.fr hF1 rfl
  have hY1 := hY.fr hF1 rfl
  refine gx_aload_n hx dX9_far_11 rfl ?_
  refine gx_getR hx flX9_27 dX9_far_12 (by decide) rfl rfl ?_
  refine gx_iload_n hx dX9_far_15 rfl ?_
  refine gx_iald hx dX9_far_16 (by decide) rfl (by omega) (by omega) (by decide) ?_
  rw [hY1 (npl P i) np3]
  refine gx_iload_n hx dX9_far_17 rfl ?_
  refine gx_iadd hx dX9_far_18 ?_
  rw [show (aP P (npl P i) : Int) + (m : Int) = ((aP P (npl P i) + m : Nat) : Int) by omega]
  refine gx_iconst hx dX9_far_19 ?_
  refine gx_callS hx (c_X9_upTo (a := aP P (npl P i) + m) (u := 4) _ _ (by omega) (by decide) (by decide)) lkX9_73 mwX9_upTo dX9_far_20 rfl rfl (Nat.le_of_ble_eq_true rfl) (by decide) ⟨by decide, by decide⟩ (fun z_20 σ_20 hz_20 => ?_)
  obtain ⟨rfl, rfl⟩ := hz_20
  refine gx_iconst hx dX9_far_23 ?_
  refine gx_aload_n hx dX9_far_24 rfl ?_
  refine gx_aload_n hx dX9_far_25 rfl ?_
  refine gx_iload_n hx dX9_far_26 rfl ?_
  refine gx_callI hx (c_X9_operand (i := i) _ _ hM1 hi) lkX9_63 mwX9_operand dX9_far_27 (by decide) rfl rfl rfl rfl (Nat.le_of_ble_eq_true rfl) (by decide) ⟨by decide, by decide⟩ (fun z_27 σ_27 hz_27 => ?_)
  obtain ⟨rfl, rfl⟩ := hz_27
  refine gx_callI hx (c_X9_valueAt (vs := vals P (npl P i)) _ _ hV1 hvl (by omega)) lkX9_66 mwX9_valueAt dX9_far_30 (by decide) rfl rfl rfl rfl (Nat.le_of_ble_eq_true rfl) (by decide) ⟨by decide, by decide⟩ (fun z_30 σ_30 hz_30 => ?_)
  obtain ⟨e9, rfl⟩ := hz_30
  rw [vix_lix hi h6] at e9
  subst e9
  refine gx_imul hx dX9_far_33 ?_
  refine gx_iadd hx dX9_far_34 ?_
  refine gx_aload_n hx dX9_far_35 rfl ?_
  refine gx_getR hx flX9_27 dX9_far_36 (by decide) rfl rfl ?_
  refine gx_iload_n hx dX9_far_39 rfl ?_
  refine gx_iconst hx dX9_far_40 ?_
  refine gx_iadd hx dX9_far_41 ?_
  rw [show (i : Int) + 1 = ((i + 1 : Nat) : Int) by omega]
  refine gx_iald hx dX9_far_42 (by decide) rfl (by omega) (by omega) (by decide) ?_
  rw [hY1 (i + 1) (by omega)]
  refine gx_isub hx dX9_far_43 ?_
  refine hret _ _ _ _ _ _ _ (by decide) (by decide) dX9_far_44 rfl rfl ?_
  have e2 : aP P (i + 1) = aP P i + 2 := by
    show ad0 P (fm P) i + sz P i (fm P i) (ad0 P (fm P) i) = _
    unfold sz
    rw [if_neg (by omega), if_neg (by omega), if_neg (by omega), if_neg (by omega), if_pos h6]
  exact ⟨by unfold dst lad; omega, hF1⟩
