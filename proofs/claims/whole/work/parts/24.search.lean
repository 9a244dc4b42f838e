/-! FormSearch -/
set_option maxRecDepth 20000 in
set_option maxHeartbeats 400000 in
theorem c_X1_allFitForward (g : Gm) (l : Launch) {σ : Sg} {P : List It} {F : Nat → Nat} {d : Nat} (hP : PR σ 0 P) (hL : LR σ P) (hu : udf P = 0) (hd : d < P.length) (h2 : kd P d = 2) (ha : ∀ q : Nat, q ≤ d → σ 64 (q : Int) = (ad0 P F q : Int)) (hf : ∀ q : Nat, q < d → σ 65 (q : Int) = (F q : Int)) (hF : ∀ q, F q ≤ 2) : KI g l yX1_allFitForward cX1_allFitForward 4 ((some .boolean)) (2) 0 0 [.inr 63, .inl (d : Int)] σ (fun r σ' => ((r = 1 ∧ ∀ t, t < d → isT P t → op P t = op P d → ¬ mis P F t) ∨ (r = 0 ∧ ∃ t, t < d ∧ isT P t ∧ op P t = op P d ∧ mis P F t)) ∧ σ = σ') := by
  refine startI (own := RX1) (by decide +kernel) rfl (Nat.le_of_ble_eq_true rfl) ?_
  intro X hx _ _ hret
  obtain ⟨hok, hc, hg9⟩ := id hP
  have hn := hok.1
  have hud := dfn_uniq hok hd h2
  have hbd := hok.2.1 d
  unfold okI at hbd
  have had := ha d (Nat.le_refl d)
  have hbA := aP_le hok F (i := d) (by omega)
  refine gx_aload_n hx dX1_allFitForward_0 rfl ?_
  refine gx_getR hx flX1_28 dX1_allFitForward_1 (by decide) rfl rfl ?_
  refine gx_iload_n hx dX1_allFitForward_4 rfl ?_
  refine gx_callI hx (c_X6_operandAt (j := 0) (i := d) _ _ (by decide) hP hd) lkX1_92 mwX6_operandAt dX1_allFitForward_5 (by decide) rfl rfl rfl rfl (Nat.le_of_ble_eq_true rfl) (by decide) ⟨by decide, by decide⟩ (fun z_5 σ_5 hz_5 => ?_)
  obtain ⟨rfl, rfl⟩ := hz_5
  refine gx_istore_n hx dX1_allFitForward_8 (Nat.le_of_ble_eq_true rfl) ?_
  refine gx_iconst hx dX1_allFitForward_9 ?_
  refine gx_istore_n hx dX1_allFitForward_10 (Nat.le_of_ble_eq_true rfl) ?_
  refine gx_loop (α := Nat) (fun t => t ≤ d ∧ ∀ q, q < t → isT P q → op P q = op P d → ¬ mis P F q) (fun t => d - t) (fun t => [some (.inr 63), some (.inl (d : Int)), some (.inl (op P d : Int)), some (.inl (t : Int))]) (fun _ => []) (fun _ => σ) ?_ 0 ⟨Nat.zero_le _, fun q hq => absurd hq (Nat.not_lt_zero q)⟩
  rintro t ⟨ht, hno⟩ ih
  have hbt9 := hok.2.1 t
  unfold okI at hbt9
  refine gx_iload_n hx dX1_allFitForward_11 rfl ?_
  refine gx_iload_n hx dX1_allFitForward_12 rfl ?_
  refine gx_icmp_ge (tgt := 74) hx dX1_allFitForward_13 (by decide) ⟨by omega, by omega⟩ ⟨by omega, by omega⟩ (fun h13 => ?_) (fun h13 => ?_)
  · first
    | (exfalso; omega)
    | (refine gx_iconst hx dX1_allFitForward_74 ?_
       refine hret _ _ _ _ _ _ _ (by decide) (by decide) dX1_allFitForward_75 rfl rfl ?_
       exact ⟨Or.inl ⟨rfl, fun q hq hT ho => hno q (by omega) hT ho⟩, rfl⟩)
  · first
    | (exfalso; omega)
    | (refine gx_aload_n hx dX1_allFitForward_16 rfl ?_
       refine gx_getR hx flX1_28 dX1_allFitForward_17 (by decide) rfl rfl ?_
       refine gx_iload_n hx dX1_allFitForward_20 rfl ?_
       refine gx_callI hx (c_X6_isTransfer (j := 0) (i := t) _ _ (by decide) hP (by omega)) lkX1_81 mwX6_isTransfer dX1_allFitForward_21 (by decide) rfl rfl rfl rfl (Nat.le_of_ble_eq_true rfl) (by decide) ⟨by decide, by decide⟩ (fun z_21 σ_21 hz_21 => ?_)
       obtain ⟨e9, rfl⟩ := hz_21
       have t9 := ite10 e9
       refine gx_if_eq (tgt := 68) hx dX1_allFitForward_24 (by decide) ⟨by omega, by omega⟩ (fun h24 => ?_) (fun h24 => ?_)
       · first
         | (exfalso; omega)
         | (refine gx_iinc hx dX1_allFitForward_68 (Nat.le_of_ble_eq_true rfl) rfl ?_
            refine gx_goto (tgt := 11) hx dX1_allFitForward_71 (by decide) ?_
            exact ih (t + 1) ⟨by omega, fun q hq hT ho => by
              by_cases e : q = t
              · subst e
                unfold isT at hT
                unfold mis
                omega
              · exact hno q (by omega) hT ho⟩ (by omega))
       · first
         | (exfalso; omega)
         | (refine gx_aload_n hx dX1_allFitForward_27 rfl ?_
            refine gx_getR hx flX1_28 dX1_allFitForward_28 (by decide) rfl rfl ?_
            refine gx_iload_n hx dX1_allFitForward_31 rfl ?_
            refine gx_callI hx (c_X6_operandAt (j := 0) (i := t) _ _ (by decide) hP (by omega)) lkX1_92 mwX6_operandAt dX1_allFitForward_32 (by decide) rfl rfl rfl rfl (Nat.le_of_ble_eq_true rfl) (by decide) ⟨by decide, by decide⟩ (fun z_32 σ_32 hz_32 => ?_)
            obtain ⟨rfl, rfl⟩ := hz_32
            refine gx_iload_n hx dX1_allFitForward_35 rfl ?_
            refine gx_icmp_ne (tgt := 68) hx dX1_allFitForward_36 (by decide) ⟨by omega, by omega⟩ ⟨by omega, by omega⟩ (fun h36 => ?_) (fun h36 => ?_)
            · first
              | (exfalso; omega)
              | (refine gx_iinc hx dX1_allFitForward_68 (Nat.le_of_ble_eq_true rfl) rfl ?_
                 refine gx_goto (tgt := 11) hx dX1_allFitForward_71 (by decide) ?_
                 exact ih (t + 1) ⟨by omega, fun q hq hT ho => by
                   by_cases e : q = t
                   · subst e
                     unfold isT at hT
                     unfold mis
                     omega
                   · exact hno q (by omega) hT ho⟩ (by omega))
            · first
              | (exfalso; omega)
              | (refine gx_aload_n hx dX1_allFitForward_39 rfl ?_
                 refine gx_getR hx flX1_9 dX1_allFitForward_40 (by decide) rfl rfl ?_
                 refine gx_iload_n hx dX1_allFitForward_43 rfl ?_
                 refine gx_iald hx dX1_allFitForward_44 (by decide) rfl (by omega) (by omega) (by decide) ?_
                 refine gx_aload_n hx dX1_allFitForward_45 rfl ?_
                 refine gx_getR hx flX1_9 dX1_allFitForward_46 (by decide) rfl rfl ?_
                 refine gx_iload_n hx dX1_allFitForward_49 rfl ?_
                 refine gx_iconst hx dX1_allFitForward_50 ?_
                 refine gx_iadd hx dX1_allFitForward_51 ?_
                 refine gx_iald hx dX1_allFitForward_52 (by decide) rfl (by omega) (by omega) (by decide) ?_
                 refine gx_isub hx dX1_allFitForward_53 ?_
                 have ha1 := ha (t + 1) (by omega)
                 rw [show ((t + 1 : Nat) : Int) = (t : Int) + 1 by omega] at ha1
                 have hbt := aP_le hok F (i := t + 1) (by omega)
                 have hds : σ 64 (d : Int) - σ 64 ((t : Int) + 1) = dsp P F t := by
                   unfold dsp
                   rw [had, ha1, show dfn P (op P t) P.length = (d : Int) by rw [show op P t = op P d by omega]; exact hud, show ((d : Int)).toNat = d by omega]
                 have hft := hf t (by omega)
                 have hF2 := hF t
                 have hnd := ndF_le (dsp P F t)
                 refine gx_callN hx (c_X8_formFor _ _ ⟨by omega, by omega⟩) (List.mem_of_getElem? (i := 8) rfl) mwX8_formFor dX1_allFitForward_54 rfl rfl (Nat.le_of_ble_eq_true rfl) (by decide) ⟨by decide, by decide⟩ (fun z_54 σ_54 hz_54 => ?_)
                 obtain ⟨rfl, rfl⟩ := hz_54
                 rw [hds]
                 refine gx_aload_n hx dX1_allFitForward_57 rfl ?_
                 refine gx_getR hx flX1_15 dX1_allFitForward_58 (by decide) rfl rfl ?_
                 refine gx_iload_n hx dX1_allFitForward_61 rfl ?_
                 refine gx_iald hx dX1_allFitForward_62 (by decide) rfl (by omega) (by omega) (by decide) ?_
                 refine gx_icmp_le (tgt := 68) hx dX1_allFitForward_63 (by decide) ⟨by omega, by omega⟩ ⟨by omega, by omega⟩ (fun h63 => ?_) (fun h63 => ?_)
                 · first
                   | (exfalso; omega)
                   | (refine gx_iinc hx dX1_allFitForward_68 (Nat.le_of_ble_eq_true rfl) rfl ?_
                      refine gx_goto (tgt := 11) hx dX1_allFitForward_71 (by decide) ?_
                      exact ih (t + 1) ⟨by omega, fun q hq hT ho => by
                        by_cases e : q = t
                        · subst e
                          unfold isT at hT
                          unfold mis
                          omega
                        · exact hno q (by omega) hT ho⟩ (by omega))
                 · first
                   | (exfalso; omega)
                   | (refine gx_iconst hx dX1_allFitForward_66 ?_
                      refine hret _ _ _ _ _ _ _ (by decide) (by decide) dX1_allFitForward_67 rfl rfl ?_
                      exact ⟨Or.inr ⟨rfl, t, by omega, by unfold isT; omega, by omega, by unfold mis; omega⟩, rfl⟩))))
set_option maxRecDepth 20000 in
set_option maxHeartbeats 400000 in
theorem c_X1_fitsBackward (g : Gm) (l : Launch) {σ : Sg} {P : List It} {F : Nat → Nat} {j f : Nat} (hP : PR σ 0 P) (hL : LR σ P) (hu : udf P = 0) (hj : j < P.length) (hT : isT P j) (hf : f ≤ 2) (ha : ∀ q : Nat, q ≤ j → σ 64 (q : Int) = (ad0 P F q : Int)) : KI g l yX1_fitsBackward cX1_fitsBackward 5 ((some .boolean)) (1) 0 0 [.inr 63, .inl (j : Int), .inl (f : Int), .inl (ad0 P (upF F j f) (j + 1) : Int)] σ (fun r σ' => ((r = 1 ∧ (dfn P (op P j) P.length < (j : Int) → ¬ mis P (upF F j f) j)) ∨ (r = 0 ∧ dfn P (op P j) P.length < (j : Int) ∧ mis P (upF F j f) j)) ∧ σ = σ') := by
  refine startI (own := RX1) (by decide +kernel) rfl (Nat.le_of_ble_eq_true rfl) ?_
  intro X hx _ _ hret
  obtain ⟨hok, hc, hg9⟩ := id hP
  have hn := hok.1
  have hb := hok.2.1 j
  unfold okI at hb
  have hdd := udf_zero hu hj hT
  unfold isT at hT
  have hb1 := aP_le hok (upF F j f) (i := j + 1) (by omega)
  have hne : dfn P (op P j) P.length ≠ (j : Int) := fun e => by
    have h9 := dfn_kd (P := P) (lb := op P j) (by omega)
    rw [e, show ((j : Int)).toNat = j by omega] at h9
    omega
  have hmf : upF F j f j = f := upF_at F j f
  have hnd := ndF_le (dsp P (upF F j f) j)
  refine gx_aload_n hx dX1_fitsBackward_0 rfl ?_
  refine gx_getR hx flX1_32 dX1_fitsBackward_1 (by decide) rfl rfl ?_
  refine gx_aload_n hx dX1_fitsBackward_4 rfl ?_
  refine gx_getR hx flX1_28 dX1_fitsBackward_5 (by decide) rfl rfl ?_
  refine gx_iload_n hx dX1_fitsBackward_8 rfl ?_
  refine gx_callI hx (c_X6_operandAt (j := 0) (i := j) _ _ (by decide) hP hj) lkX1_92 mwX6_operandAt dX1_fitsBackward_9 (by decide) rfl rfl rfl rfl (Nat.le_of_ble_eq_true rfl) (by decide) ⟨by decide, by decide⟩ (fun z_9 σ_9 hz_9 => ?_)
  obtain ⟨rfl, rfl⟩ := hz_9
  refine gx_callI hx (c_X5_definerOf (lb := op P j) _ _ hP hL (by omega)) lkX1_95 mwX5_definerOf dX1_fitsBackward_12 (by decide) rfl rfl rfl rfl (Nat.le_of_ble_eq_true rfl) (by decide) ⟨by decide, by decide⟩ (fun z_12 σ_12 hz_12 => ?_)
  obtain ⟨rfl, rfl⟩ := hz_12
  refine gx_istore hx dX1_fitsBackward_15 (Nat.le_of_ble_eq_true rfl) ?_
  refine gx_iload hx dX1_fitsBackward_17 rfl ?_
  refine gx_if_lt (tgt := 28) hx dX1_fitsBackward_19 (by decide) ⟨by omega, by omega⟩ (fun h19 => ?_) (fun h19 => ?_)
  · first
    | (exfalso; omega)
    | (refine gx_iconst hx dX1_fitsBackward_28 ?_
       refine hret _ _ _ _ _ _ _ (by decide) (by decide) dX1_fitsBackward_29 rfl rfl ?_
       exact ⟨Or.inl ⟨rfl, fun h => by omega⟩, rfl⟩)
  · first
    | (exfalso; omega)
    | (refine gx_iload hx dX1_fitsBackward_22 rfl ?_
       refine gx_iload_n hx dX1_fitsBackward_24 rfl ?_
       refine gx_icmp_le (tgt := 30) hx dX1_fitsBackward_25 (by decide) ⟨by omega, by omega⟩ ⟨by omega, by omega⟩ (fun h25 => ?_) (fun h25 => ?_)
       · first
         | (exfalso; omega)
         | (refine gx_aload_n hx dX1_fitsBackward_30 rfl ?_
            refine gx_getR hx flX1_9 dX1_fitsBackward_31 (by decide) rfl rfl ?_
            refine gx_iload hx dX1_fitsBackward_34 rfl ?_
            refine gx_iald hx dX1_fitsBackward_36 (by decide) rfl (by omega) (by omega) (by decide) ?_
            refine gx_iload_n hx dX1_fitsBackward_37 rfl ?_
            refine gx_isub hx dX1_fitsBackward_38 ?_
            have hbd := aP_le hok F (i := (dfn P (op P j) P.length).toNat) (by omega)
            have hds : σ 64 (dfn P (op P j) P.length) - (ad0 P (upF F j f) (j + 1) : Int) = dsp P (upF F j f) j := by
              have h8 := ha (dfn P (op P j) P.length).toNat (by omega)
              rw [show (((dfn P (op P j) P.length).toNat : Nat) : Int) = dfn P (op P j) P.length by omega] at h8
              unfold dsp
              rw [h8, ad0_congr (F := upF F j f) (G := F) (dfn P (op P j) P.length).toNat (fun q hq => upF_lt (by omega))]
            have hdr := dsp_rg hok (upF F j f) hj
            refine gx_callN hx (c_X8_formFor _ _ ⟨by omega, by omega⟩) (List.mem_of_getElem? (i := 8) rfl) mwX8_formFor dX1_fitsBackward_39 rfl rfl (Nat.le_of_ble_eq_true rfl) (by decide) ⟨by decide, by decide⟩ (fun z_39 σ_39 hz_39 => ?_)
            obtain ⟨rfl, rfl⟩ := hz_39
            rw [hds]
            refine gx_iload_n hx dX1_fitsBackward_42 rfl ?_
            refine gx_icmp_gt (tgt := 50) hx dX1_fitsBackward_43 (by decide) ⟨by omega, by omega⟩ ⟨by omega, by omega⟩ (fun h43 => ?_) (fun h43 => ?_)
            · first
              | (exfalso; omega)
              | (refine gx_iconst hx dX1_fitsBackward_50 ?_
                 refine hret _ _ _ _ _ _ _ (by decide) (by decide) dX1_fitsBackward_51 rfl rfl ?_
                 first
                 | exact ⟨Or.inl ⟨rfl, fun _ => by unfold mis; omega⟩, rfl⟩
                 | exact ⟨Or.inr ⟨rfl, by omega, by unfold mis; omega⟩, rfl⟩)
            · first
              | (exfalso; omega)
              | (refine gx_iconst hx dX1_fitsBackward_46 ?_
                 refine gx_goto (tgt := 51) hx dX1_fitsBackward_47 (by decide) ?_
                 refine hret _ _ _ _ _ _ _ (by decide) (by decide) dX1_fitsBackward_51 rfl rfl ?_
                 first
                 | exact ⟨Or.inl ⟨rfl, fun _ => by unfold mis; omega⟩, rfl⟩
                 | exact ⟨Or.inr ⟨rfl, by omega, by unfold mis; omega⟩, rfl⟩))
       · first
         | (exfalso; omega)
         | (refine gx_iconst hx dX1_fitsBackward_28 ?_
            refine hret _ _ _ _ _ _ _ (by decide) (by decide) dX1_fitsBackward_29 rfl rfl ?_
            exact ⟨Or.inl ⟨rfl, fun h => by omega⟩, rfl⟩))
set_option maxRecDepth 20000 in
set_option maxHeartbeats 400000 in
theorem c_X1_placeUpToTransfer (g : Gm) (l : Launch) {σ : Sg} {P : List It} {F : Nat → Nat} {i : Nat} (hP : PR σ 0 P) (hL : LR σ P) (hu : udf P = 0) (hi : i ≤ P.length) (hCF : CF P F i) (hCK : CK P F i) (ha : ∀ q : Nat, q < i → σ 64 (q : Int) = (ad0 P F q : Int)) (hf : ∀ q : Nat, q < 40 → (q < i ∨ ¬ isT P q) → σ 65 (q : Int) = (F q : Int)) : KI g l yX1_placeUpToTransfer cX1_placeUpToTransfer 6 ((some .int)) (3) 0 0 [.inr 63, .inl (i : Int), .inl (ad0 P F i : Int)] σ (fun r σ' => ((∃ j : Nat, r = (j : Int) ∧ i ≤ j ∧ j ≤ P.length ∧ (j = P.length ∨ isT P j) ∧ (∀ q, i ≤ q → q < j → ¬ isT P q) ∧ CK P F j ∧ ∀ q : Nat, q ≤ j → σ' 64 (q : Int) = (ad0 P F q : Int)) ∨ (r = -1 ∧ ∃ j t : Nat, i ≤ j ∧ j ≤ P.length ∧ (∀ q, i ≤ q → q < j → ¬ isT P q) ∧ t < j ∧ isT P t ∧ dfn P (op P t) P.length ≤ (j : Int) ∧ mis P F t ∧ ∀ q : Nat, q < i → σ' 64 (q : Int) = (ad0 P F q : Int))) ∧ SO σ σ' 64 64) := by
  refine startI (own := RX1) (by decide +kernel) rfl (Nat.le_of_ble_eq_true rfl) ?_
  intro X hx _ _ hret
  obtain ⟨hok, hc, hg9⟩ := id hP
  have hn := hok.1
  obtain ⟨cf1, cf2, cf3⟩ := id hCF
  refine gx_iload_n hx dX1_placeUpToTransfer_0 rfl ?_
  refine gx_istore_n hx dX1_placeUpToTransfer_1 (Nat.le_of_ble_eq_true rfl) ?_
  refine gx_aload_n hx dX1_placeUpToTransfer_2 rfl ?_
  refine gx_getR hx flX1_28 dX1_placeUpToTransfer_3 (by decide) rfl rfl ?_
  refine gx_callI hx (c_X6_count (j := 0) _ _ (by decide) hP) lkX1_40 mwX6_count dX1_placeUpToTransfer_6 (by decide) rfl rfl rfl rfl (Nat.le_of_ble_eq_true rfl) (by decide) ⟨by decide, by decide⟩ (fun z_6 σ_6 hz_6 => ?_)
  obtain ⟨rfl, rfl⟩ := hz_6
  refine gx_istore hx dX1_placeUpToTransfer_9 (Nat.le_of_ble_eq_true rfl) ?_
  refine gx_iload_n hx dX1_placeUpToTransfer_11 rfl ?_
  refine gx_istore hx dX1_placeUpToTransfer_12 (Nat.le_of_ble_eq_true rfl) ?_
  refine gx_loop (α := Nat × Sg) (fun x => i ≤ x.1 ∧ x.1 ≤ P.length ∧ (∀ q : Nat, q < x.1 → x.2 64 (q : Int) = (ad0 P F q : Int)) ∧ (∀ q, i ≤ q → q < x.1 → ¬ isT P q) ∧ CK P F x.1 ∧ SO σ x.2 64 64) (fun x => P.length - x.1) (fun x => [some (.inr 63), some (.inl (i : Int)), some (.inl (ad0 P F i : Int)), some (.inl (ad0 P F x.1 : Int)), some (.inl (P.length : Int)), some (.inl (x.1 : Int))]) (fun _ => []) (fun x => x.2) ?_ (i, σ) ⟨Nat.le_refl _, hi, ha, fun q h1 h2 => by omega, hCK, SO.refl⟩
  rintro ⟨j, τ⟩ ⟨hij, hj, ha1, hnT, hCKj, hso⟩ ih
  dsimp only at hij hj ha1 hnT hCKj hso ih ⊢
  have hbd := aP_le hok F hj
  have hbj := hok.2.1 j
  unfold okI at hbj
  refine gx_iload hx dX1_placeUpToTransfer_14 rfl ?_
  refine gx_iload hx dX1_placeUpToTransfer_16 rfl ?_
  refine gx_icmp_ge (tgt := 88) hx dX1_placeUpToTransfer_18 (by decide) ⟨by omega, by omega⟩ ⟨by omega, by omega⟩ (fun h18 => ?_) (fun h18 => ?_)
  · first
    | (exfalso; omega)
    | (refine gx_aload_n hx dX1_placeUpToTransfer_88 rfl ?_
       refine gx_getR hx flX1_9 dX1_placeUpToTransfer_89 (by decide) rfl rfl ?_
       refine gx_iload hx dX1_placeUpToTransfer_92 rfl ?_
       refine gx_iload_n hx dX1_placeUpToTransfer_94 rfl ?_
       refine gx_iast hx dX1_placeUpToTransfer_95 (by decide) rfl (by omega) (by omega) (by decide) ?_
       refine gx_iload hx dX1_placeUpToTransfer_96 rfl ?_
       refine hret _ _ _ _ _ _ _ (by decide) (by decide) dX1_placeUpToTransfer_98 rfl rfl ?_
       have ej : j = P.length := by omega
       subst ej
       refine ⟨Or.inl ⟨P.length, rfl, hij, hj, Or.inl rfl, hnT, hCKj, fun q hq => ?_⟩, hso.trans (SO.upd (by decide) (by decide))⟩
       by_cases e : q = P.length
       · subst e; rw [upd2_at]
       · rw [upd2_ne (by omega)]; exact ha1 q (by omega))
  · first
    | (exfalso; omega)
    | (refine gx_aload_n hx dX1_placeUpToTransfer_21 rfl ?_
       refine gx_getR hx flX1_9 dX1_placeUpToTransfer_22 (by decide) rfl rfl ?_
       refine gx_iload hx dX1_placeUpToTransfer_25 rfl ?_
       refine gx_iload_n hx dX1_placeUpToTransfer_27 rfl ?_
       refine gx_iast hx dX1_placeUpToTransfer_28 (by decide) rfl (by omega) (by omega) (by decide) ?_
       have hso2 : SO σ (upd2 τ 64 (j : Int) (ad0 P F j : Int)) 64 64 := hso.trans (SO.upd (by decide) (by decide))
       have hPt := hP.so hso2 (by decide)
       have hLt : LR (upd2 τ 64 (j : Int) (ad0 P F j : Int)) P := hL.so (fun k a1 a2 => hso2 k (by omega))
       have ha2 : ∀ q : Nat, q ≤ j → (upd2 τ 64 (j : Int) (ad0 P F j : Int)) 64 (q : Int) = (ad0 P F q : Int) := fun q hq => by
         by_cases e : q = j
         · subst e; rw [upd2_at]
         · rw [upd2_ne (by omega)]; exact ha1 q (by omega)
       have hf2 : ∀ q : Nat, q < j → (upd2 τ 64 (j : Int) (ad0 P F j : Int)) 65 (q : Int) = (F q : Int) := fun q hq => by
         rw [hso2 65 (by omega)]
         refine hf q (by omega) ?_
         by_cases h : q < i
         · exact Or.inl h
         · exact Or.inr (hnT q (by omega) hq)
       refine gx_aload_n hx dX1_placeUpToTransfer_29 rfl ?_
       refine gx_getR hx flX1_28 dX1_placeUpToTransfer_30 (by decide) rfl rfl ?_
       refine gx_iload hx dX1_placeUpToTransfer_33 rfl ?_
       refine gx_callI hx (c_X6_isTransfer (j := 0) (i := j) _ _ (by decide) hPt (by omega)) lkX1_81 mwX6_isTransfer dX1_placeUpToTransfer_35 (by decide) rfl rfl rfl rfl (Nat.le_of_ble_eq_true rfl) (by decide) ⟨by decide, by decide⟩ (fun z_35 σ_35 hz_35 => ?_)
       obtain ⟨e9, rfl⟩ := hz_35
       have t9 := ite10 e9
       refine gx_if_eq (tgt := 44) hx dX1_placeUpToTransfer_38 (by decide) ⟨by omega, by omega⟩ (fun h38 => ?_) (fun h38 => ?_)
       · first
         | (exfalso; omega)
         | (refine gx_aload_n hx dX1_placeUpToTransfer_44 rfl ?_
            refine gx_getR hx flX1_28 dX1_placeUpToTransfer_45 (by decide) rfl rfl ?_
            refine gx_iload hx dX1_placeUpToTransfer_48 rfl ?_
            refine gx_callI hx (c_X6_kindAt (j := 0) (i := j) _ _ (by decide) hPt (by omega)) lkX1_85 mwX6_kindAt dX1_placeUpToTransfer_50 (by decide) rfl rfl rfl rfl (Nat.le_of_ble_eq_true rfl) (by decide) ⟨by decide, by decide⟩ (fun z_50 σ_50 hz_50 => ?_)
            obtain ⟨rfl, rfl⟩ := hz_50
            refine gx_iconst hx dX1_placeUpToTransfer_53 ?_
            refine gx_icmp_ne (tgt := 68) hx dX1_placeUpToTransfer_54 (by decide) ⟨by omega, by omega⟩ ⟨by omega, by omega⟩ (fun h54 => ?_) (fun h54 => ?_)
            · first
              | (exfalso; omega)
              | (refine gx_iload_n hx dX1_placeUpToTransfer_68 rfl ?_
                 refine gx_aload_n hx dX1_placeUpToTransfer_69 rfl ?_
                 refine gx_getR hx flX1_36 dX1_placeUpToTransfer_70 (by decide) rfl rfl ?_
                 refine gx_iload hx dX1_placeUpToTransfer_73 rfl ?_
                 refine gx_iconst hx dX1_placeUpToTransfer_75 ?_
                 refine gx_iload_n hx dX1_placeUpToTransfer_76 rfl ?_
                 refine gx_callI hx (c_X4_sizeWith (i := j) (f := 0) (a := ad0 P F j) _ _ hPt hLt (by omega) (by decide) (by omega)) lkX1_71 mwX4_sizeWith dX1_placeUpToTransfer_77 (by decide) rfl rfl rfl rfl (Nat.le_of_ble_eq_true rfl) (by decide) ⟨by decide, by decide⟩ (fun z_77 σ_77 hz_77 => ?_)
                 obtain ⟨rfl, rfl⟩ := hz_77
                 refine gx_iadd hx dX1_placeUpToTransfer_80 ?_
                 refine gx_istore_n hx dX1_placeUpToTransfer_81 (Nat.le_of_ble_eq_true rfl) ?_
                 refine gx_iinc hx dX1_placeUpToTransfer_82 (Nat.le_of_ble_eq_true rfl) rfl ?_
                 refine gx_goto (tgt := 14) hx dX1_placeUpToTransfer_85 (by decide) ?_
                 have hnj : ¬ isT P j := by unfold isT; omega
                 refine GJ.cong ?_ rfl rfl (ih (j + 1, upd2 τ 64 (j : Int) (ad0 P F j : Int)) ⟨by omega, by omega, fun q hq => ha2 q (by omega), fun q h1 h2 => ?_, CK_skip hCKj hnj (fun t ht hTt hdt => ?_), hso2⟩ (by dsimp only; omega))
                 · dsimp only
                   rw [show (ad0 P F (j + 1) : Int) = (ad0 P F j : Int) + (sz P j 0 (ad0 P F j) : Int) by
                     rw [ad0, cf2 j hnj]; omega]
                   rfl
                 · by_cases e : q = j
                   · subst e; exact hnj
                   · exact hnT q h1 (by omega)
                 · have h9 := dfn_kd (P := P) (lb := op P t) (by omega)
                   rw [hdt, show ((j : Int)).toNat = j by omega] at h9
                   first
                   | omega
                   | (rcases d9 with ⟨-, w⟩ | ⟨w, -⟩
                      · exact w t ht hTt h9.2.symm
                      · omega))
            · first
              | (exfalso; omega)
              | (refine gx_aload_n hx dX1_placeUpToTransfer_57 rfl ?_
                 refine gx_iload hx dX1_placeUpToTransfer_58 rfl ?_
                 refine gx_callI hx (c_X1_allFitForward (d := j) (F := F) _ _ hPt hLt hu (by omega) (by omega) ha2 hf2 cf3) lkX1_89 mwX1_allFitForward dX1_placeUpToTransfer_60 (by decide) rfl rfl rfl rfl (Nat.le_of_ble_eq_true rfl) (by decide) ⟨by decide, by decide⟩ (fun z_60 σ_60 hz_60 => ?_)
                 obtain ⟨d9, rfl⟩ := hz_60
                 refine gx_if_ne (tgt := 68) hx dX1_placeUpToTransfer_63 (by decide) ⟨by omega, by omega⟩ (fun h63 => ?_) (fun h63 => ?_)
                 · first
                   | (exfalso; omega)
                   | (refine gx_iload_n hx dX1_placeUpToTransfer_68 rfl ?_
                      refine gx_aload_n hx dX1_placeUpToTransfer_69 rfl ?_
                      refine gx_getR hx flX1_36 dX1_placeUpToTransfer_70 (by decide) rfl rfl ?_
                      refine gx_iload hx dX1_placeUpToTransfer_73 rfl ?_
                      refine gx_iconst hx dX1_placeUpToTransfer_75 ?_
                      refine gx_iload_n hx dX1_placeUpToTransfer_76 rfl ?_
                      refine gx_callI hx (c_X4_sizeWith (i := j) (f := 0) (a := ad0 P F j) _ _ hPt hLt (by omega) (by decide) (by omega)) lkX1_71 mwX4_sizeWith dX1_placeUpToTransfer_77 (by decide) rfl rfl rfl rfl (Nat.le_of_ble_eq_true rfl) (by decide) ⟨by decide, by decide⟩ (fun z_77 σ_77 hz_77 => ?_)
                      obtain ⟨rfl, rfl⟩ := hz_77
                      refine gx_iadd hx dX1_placeUpToTransfer_80 ?_
                      refine gx_istore_n hx dX1_placeUpToTransfer_81 (Nat.le_of_ble_eq_true rfl) ?_
                      refine gx_iinc hx dX1_placeUpToTransfer_82 (Nat.le_of_ble_eq_true rfl) rfl ?_
                      refine gx_goto (tgt := 14) hx dX1_placeUpToTransfer_85 (by decide) ?_
                      have hnj : ¬ isT P j := by unfold isT; omega
                      refine GJ.cong ?_ rfl rfl (ih (j + 1, upd2 τ 64 (j : Int) (ad0 P F j : Int)) ⟨by omega, by omega, fun q hq => ha2 q (by omega), fun q h1 h2 => ?_, CK_skip hCKj hnj (fun t ht hTt hdt => ?_), hso2⟩ (by dsimp only; omega))
                      · dsimp only
                        rw [show (ad0 P F (j + 1) : Int) = (ad0 P F j : Int) + (sz P j 0 (ad0 P F j) : Int) by
                          rw [ad0, cf2 j hnj]; omega]
                        rfl
                      · by_cases e : q = j
                        · subst e; exact hnj
                        · exact hnT q h1 (by omega)
                      · have h9 := dfn_kd (P := P) (lb := op P t) (by omega)
                        rw [hdt, show ((j : Int)).toNat = j by omega] at h9
                        first
                        | omega
                        | (rcases d9 with ⟨-, w⟩ | ⟨w, -⟩
                           · exact w t ht hTt h9.2.symm
                           · omega))
                 · first
                   | (exfalso; omega)
                   | (refine gx_iconst hx dX1_placeUpToTransfer_66 ?_
                      refine hret _ _ _ _ _ _ _ (by decide) (by decide) dX1_placeUpToTransfer_67 rfl rfl ?_
                      rcases d9 with ⟨w, -⟩ | ⟨-, t, w1, w2, w3, w4⟩
                      · omega
                      · exact ⟨Or.inr ⟨rfl, j, t, hij, hj, hnT, w1, w2, by rw [w3, dfn_uniq hok (by omega) (by omega)]; omega, w4, fun q hq => ha2 q (by omega)⟩, hso2⟩)))
       · first
         | (exfalso; omega)
         | (refine gx_iload hx dX1_placeUpToTransfer_41 rfl ?_
            refine hret _ _ _ _ _ _ _ (by decide) (by decide) dX1_placeUpToTransfer_43 rfl rfl ?_
            exact ⟨Or.inl ⟨j, rfl, hij, hj, Or.inr (by unfold isT; omega), hnT, hCKj, ha2⟩, hso2⟩))
set_option maxRecDepth 20000 in
set_option maxHeartbeats 400000 in
theorem c_X1_keep (g : Gm) (l : Launch) {σ : Sg} {P : List It} {F : Nat → Nat} {A : Ac} (hP : PR σ 0 P) (hL : LR σ P) (hu : udf P = 0) (hCF : CF P F P.length) (hm : msf P F = 0) (hB : FB σ P F P.length A) (hA : okA P A) (hA1 : A.1 < 100000) : KV g l yX1_keep cX1_keep 3 (2) 0 0 [.inr 63, .inl (ad0 P F P.length : Int)] σ (fun σ' => FB σ' P F P.length (kpA P F A) ∧ SO σ σ' 63 66 ∧ σ' 64 = σ 64 ∧ σ' 65 = σ 65) := by
  refine startV (own := RX1) (by decide +kernel) rfl (Nat.le_of_ble_eq_true rfl) ?_
  intro X hx _ _ hret
  obtain ⟨hok, hc, hg9⟩ := id hP
  have hn := hok.1
  obtain ⟨b1, b2, b3, b4, b5⟩ := id hB
  have hbd := aP_le hok F (Nat.le_refl P.length)
  have htl := tot_le hok F
  have hA2 := hA.1
  have htt : (ad0 P F P.length : Int) + (plSz (vals P P.length).length (ad0 P F P.length) : Int) = (tot P F : Int) := by unfold tot; omega
  have hbF : ∀ q : Nat, q < 40 → σ 65 (q : Int) = (F q : Int) := fun q hq => by
    refine b2 q hq ?_
    by_cases h : q < P.length
    · exact Or.inl h
    · refine Or.inr ?_
      unfold isT
      have := (ok_out (P := P) (i := q) (by omega)).1
      omega
  refine gx_iload_n hx dX1_keep_0 rfl ?_
  refine gx_aload_n hx dX1_keep_1 rfl ?_
  refine gx_getR hx flX1_36 dX1_keep_2 (by decide) rfl rfl ?_
  refine gx_aload_n hx dX1_keep_5 rfl ?_
  refine gx_getR hx flX1_32 dX1_keep_6 (by decide) rfl rfl ?_
  refine gx_callI hx (c_X5_endPoolNumber _ _ hP hL) lkX1_103 mwX5_endPoolNumber dX1_keep_9 (by decide) rfl rfl rfl rfl (Nat.le_of_ble_eq_true rfl) (by decide) ⟨by decide, by decide⟩ (fun z_9 σ_9 hz_9 => ?_)
  obtain ⟨rfl, rfl⟩ := hz_9
  refine gx_iload_n hx dX1_keep_12 rfl ?_
  refine gx_callI hx (c_X4_poolSize (q := P.length) _ _ hP hL (Nat.le_refl _) (ok_out (Nat.le_refl _)).1 (by omega)) lkX1_106 mwX4_poolSize dX1_keep_13 (by decide) rfl rfl rfl rfl (Nat.le_of_ble_eq_true rfl) (by decide) ⟨by decide, by decide⟩ (fun z_13 σ_13 hz_13 => ?_)
  obtain ⟨rfl, rfl⟩ := hz_13
  refine gx_iadd hx dX1_keep_16 ?_
  rw [htt]
  refine gx_istore_n hx dX1_keep_17 (Nat.le_of_ble_eq_true rfl) ?_
  refine gx_aload_n hx dX1_keep_18 rfl ?_
  refine gx_getI hx flX1_21 dX1_keep_19 (by decide) rfl rfl 6 rfl ?_
  refine gx_if_eq (tgt := 33) hx dX1_keep_22 (by decide) ⟨by omega, by omega⟩ (fun h22 => ?_) (fun h22 => ?_)
  · first
    | (exfalso; omega)
    | (refine gx_aload_n hx dX1_keep_33 rfl ?_
       refine gx_iload_n hx dX1_keep_34 rfl ?_
       refine gx_put hx fpX1_25 dX1_keep_35 (by decide) rfl rfl rfl rfl 7 rfl ?_
       refine gx_aload_n hx dX1_keep_38 rfl ?_
       refine gx_getR hx flX1_15 dX1_keep_39 (by decide) rfl rfl ?_
       refine gx_iconst hx dX1_keep_42 ?_
       refine gx_aload_n hx dX1_keep_43 rfl ?_
       refine gx_getR hx flX1_18 dX1_keep_44 (by decide) rfl rfl ?_
       refine gx_iconst hx dX1_keep_47 ?_
       refine gx_bipush hx dX1_keep_48 (by decide) ?_
       refine gx_copy (n := 40) hx wCpyX1 wCpy1 wCpy2 wCpy3 dX1_keep_50 (by decide) rfl (by decide) rfl (by decide) (by decide) (by decide) (Nat.le_of_ble_eq_true rfl) ?_
       refine gx_aload_n hx dX1_keep_53 rfl ?_
       refine gx_dup hx dX1_keep_54 ?_
       refine gx_getI hx flX1_21 dX1_keep_55 (by decide) rfl rfl 6 rfl ?_
       refine gx_iconst hx dX1_keep_58 ?_
       refine gx_iadd hx dX1_keep_59 ?_
       refine gx_put hx fpX1_21 dX1_keep_60 (by decide) rfl rfl rfl rfl 6 rfl ?_
       refine hret _ _ _ _ _ (by decide) (by decide) dX1_keep_63 ?_
       first
       | (have hk : kpA P F A = (A.1 + 1, A.2) := by
            unfold kpA
            rw [if_pos hm, if_neg (by omega)]
          rw [hk]
          refine ⟨⟨fun q hq => ?_, fun q hq hh => ?_, ?_, ?_, fun q hq => ?_⟩, SO.upd (by decide) (by decide), upd2_other 64 (by decide), upd2_other 65 (by decide)⟩
          · rw [upd2_ne (by omega)]; exact b1 q hq
          · rw [upd2_ne (by omega)]; exact b2 q hq hh
          · rw [upd2_at, b3]; rfl
          · rw [upd2_ne (by decide)]; exact b4
          · rw [upd2_ne (by omega)]; exact b5 q hq)
       | (have hk : kpA P F A = (A.1 + 1, tot P F, F) := by
            unfold kpA
            rw [if_pos hm, if_pos (by omega)]
          rw [hk]
          refine ⟨⟨fun q hq => ?_, fun q hq hh => ?_, ?_, ?_, fun q hq => ?_⟩, fun k hk => ?_, ?_, ?_⟩
          · rw [upd2_ne (by omega)]
            try dsimp only
            rw [if_neg (by omega), upd2_ne (by omega)]; exact b1 q hq
          · rw [upd2_ne (by omega)]
            try dsimp only
            rw [if_neg (by omega), upd2_ne (by omega)]; exact b2 q hq hh
          · rw [upd2_at]
            try dsimp only
            rw [if_neg (by omega), upd2_ne (by omega), b3]; rfl
          · rw [upd2_ne (by omega)]
            try dsimp only
            rw [if_neg (by omega), upd2_at]
          · rw [upd2_ne (by omega)]
            try dsimp only
            rw [if_pos (by omega), upd2_ne (by omega)]; exact hbF q hq
          · funext q
            rw [upd2_ne (by omega)]
            try dsimp only
            rw [if_neg (by omega), upd2_ne (by omega)]
          · funext q
            rw [upd2_ne (by omega)]
            try dsimp only
            rw [if_neg (by omega), upd2_ne (by omega)]
          · funext q
            rw [upd2_ne (by omega)]
            try dsimp only
            rw [if_neg (by omega), upd2_ne (by omega)]))
  · first
    | (exfalso; omega)
    | (refine gx_iload_n hx dX1_keep_25 rfl ?_
       refine gx_aload_n hx dX1_keep_26 rfl ?_
       refine gx_getI hx flX1_25 dX1_keep_27 (by decide) rfl rfl 7 rfl ?_
       refine gx_icmp_ge (tgt := 53) hx dX1_keep_30 (by decide) ⟨by omega, by omega⟩ ⟨by omega, by omega⟩ (fun h30 => ?_) (fun h30 => ?_)
       · first
         | (exfalso; omega)
         | (refine gx_aload_n hx dX1_keep_53 rfl ?_
            refine gx_dup hx dX1_keep_54 ?_
            refine gx_getI hx flX1_21 dX1_keep_55 (by decide) rfl rfl 6 rfl ?_
            refine gx_iconst hx dX1_keep_58 ?_
            refine gx_iadd hx dX1_keep_59 ?_
            refine gx_put hx fpX1_21 dX1_keep_60 (by decide) rfl rfl rfl rfl 6 rfl ?_
            refine hret _ _ _ _ _ (by decide) (by decide) dX1_keep_63 ?_
            first
            | (have hk : kpA P F A = (A.1 + 1, A.2) := by
                 unfold kpA
                 rw [if_pos hm, if_neg (by omega)]
               rw [hk]
               refine ⟨⟨fun q hq => ?_, fun q hq hh => ?_, ?_, ?_, fun q hq => ?_⟩, SO.upd (by decide) (by decide), upd2_other 64 (by decide), upd2_other 65 (by decide)⟩
               · rw [upd2_ne (by omega)]; exact b1 q hq
               · rw [upd2_ne (by omega)]; exact b2 q hq hh
               · rw [upd2_at, b3]; rfl
               · rw [upd2_ne (by decide)]; exact b4
               · rw [upd2_ne (by omega)]; exact b5 q hq)
            | (have hk : kpA P F A = (A.1 + 1, tot P F, F) := by
                 unfold kpA
                 rw [if_pos hm, if_pos (by omega)]
               rw [hk]
               refine ⟨⟨fun q hq => ?_, fun q hq hh => ?_, ?_, ?_, fun q hq => ?_⟩, fun k hk => ?_, ?_, ?_⟩
               · rw [upd2_ne (by omega)]
                 try dsimp only
                 rw [if_neg (by omega), upd2_ne (by omega)]; exact b1 q hq
               · rw [upd2_ne (by omega)]
                 try dsimp only
                 rw [if_neg (by omega), upd2_ne (by omega)]; exact b2 q hq hh
               · rw [upd2_at]
                 try dsimp only
                 rw [if_neg (by omega), upd2_ne (by omega), b3]; rfl
               · rw [upd2_ne (by omega)]
                 try dsimp only
                 rw [if_neg (by omega), upd2_at]
               · rw [upd2_ne (by omega)]
                 try dsimp only
                 rw [if_pos (by omega), upd2_ne (by omega)]; exact hbF q hq
               · funext q
                 rw [upd2_ne (by omega)]
                 try dsimp only
                 rw [if_neg (by omega), upd2_ne (by omega)]
               · funext q
                 rw [upd2_ne (by omega)]
                 try dsimp only
                 rw [if_neg (by omega), upd2_ne (by omega)]
               · funext q
                 rw [upd2_ne (by omega)]
                 try dsimp only
                 rw [if_neg (by omega), upd2_ne (by omega)]))
       · first
         | (exfalso; omega)
         | (refine gx_aload_n hx dX1_keep_33 rfl ?_
            refine gx_iload_n hx dX1_keep_34 rfl ?_
            refine gx_put hx fpX1_25 dX1_keep_35 (by decide) rfl rfl rfl rfl 7 rfl ?_
            refine gx_aload_n hx dX1_keep_38 rfl ?_
            refine gx_getR hx flX1_15 dX1_keep_39 (by decide) rfl rfl ?_
            refine gx_iconst hx dX1_keep_42 ?_
            refine gx_aload_n hx dX1_keep_43 rfl ?_
            refine gx_getR hx flX1_18 dX1_keep_44 (by decide) rfl rfl ?_
            refine gx_iconst hx dX1_keep_47 ?_
            refine gx_bipush hx dX1_keep_48 (by decide) ?_
            refine gx_copy (n := 40) hx wCpyX1 wCpy1 wCpy2 wCpy3 dX1_keep_50 (by decide) rfl (by decide) rfl (by decide) (by decide) (by decide) (Nat.le_of_ble_eq_true rfl) ?_
            refine gx_aload_n hx dX1_keep_53 rfl ?_
            refine gx_dup hx dX1_keep_54 ?_
            refine gx_getI hx flX1_21 dX1_keep_55 (by decide) rfl rfl 6 rfl ?_
            refine gx_iconst hx dX1_keep_58 ?_
            refine gx_iadd hx dX1_keep_59 ?_
            refine gx_put hx fpX1_21 dX1_keep_60 (by decide) rfl rfl rfl rfl 6 rfl ?_
            refine hret _ _ _ _ _ (by decide) (by decide) dX1_keep_63 ?_
            first
            | (have hk : kpA P F A = (A.1 + 1, A.2) := by
                 unfold kpA
                 rw [if_pos hm, if_neg (by omega)]
               rw [hk]
               refine ⟨⟨fun q hq => ?_, fun q hq hh => ?_, ?_, ?_, fun q hq => ?_⟩, SO.upd (by decide) (by decide), upd2_other 64 (by decide), upd2_other 65 (by decide)⟩
               · rw [upd2_ne (by omega)]; exact b1 q hq
               · rw [upd2_ne (by omega)]; exact b2 q hq hh
               · rw [upd2_at, b3]; rfl
               · rw [upd2_ne (by decide)]; exact b4
               · rw [upd2_ne (by omega)]; exact b5 q hq)
            | (have hk : kpA P F A = (A.1 + 1, tot P F, F) := by
                 unfold kpA
                 rw [if_pos hm, if_pos (by omega)]
               rw [hk]
               refine ⟨⟨fun q hq => ?_, fun q hq hh => ?_, ?_, ?_, fun q hq => ?_⟩, fun k hk => ?_, ?_, ?_⟩
               · rw [upd2_ne (by omega)]
                 try dsimp only
                 rw [if_neg (by omega), upd2_ne (by omega)]; exact b1 q hq
               · rw [upd2_ne (by omega)]
                 try dsimp only
                 rw [if_neg (by omega), upd2_ne (by omega)]; exact b2 q hq hh
               · rw [upd2_at]
                 try dsimp only
                 rw [if_neg (by omega), upd2_ne (by omega), b3]; rfl
               · rw [upd2_ne (by omega)]
                 try dsimp only
                 rw [if_neg (by omega), upd2_at]
               · rw [upd2_ne (by omega)]
                 try dsimp only
                 rw [if_pos (by omega), upd2_ne (by omega)]; exact hbF q hq
               · funext q
                 rw [upd2_ne (by omega)]
                 try dsimp only
                 rw [if_neg (by omega), upd2_ne (by omega)]
               · funext q
                 rw [upd2_ne (by omega)]
                 try dsimp only
                 rw [if_neg (by omega), upd2_ne (by omega)]
               · funext q
                 rw [upd2_ne (by omega)]
                 try dsimp only
                 rw [if_neg (by omega), upd2_ne (by omega)])))
