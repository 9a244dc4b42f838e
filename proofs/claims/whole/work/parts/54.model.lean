/-! The reference: passes, choices -/
set_option maxRecDepth 20000 in
set_option maxHeartbeats 400000 in
theorem c_X9_pass (g : Gm) (l : Launch) {σ : Sg} {P : List It} (hM : MP σ P) (hu : udf P = 0) : KI g l yX9_pass cX9_pass 3 ((some .int)) (6) 0 0 [.inr 70] σ (fun r τ => r = ((psF P P.length).2 : Int) ∧ MP τ (psF P P.length).1 ∧ FR σ τ cR f1) := by
  refine startI (own := RX9) (by decide +kernel) rfl (Nat.le_of_ble_eq_true rfl) ?_
  intro X hx _ _ hret
  obtain ⟨hok, hn, hit⟩ := id hM
  have hl40 := hok.1
  refine gx_iconst hx dX9_pass_0 ?_
  refine gx_istore_n hx dX9_pass_1 (Nat.le_of_ble_eq_true rfl) ?_
  refine gx_iconst hx dX9_pass_2 ?_
  refine gx_istore_n hx dX9_pass_3 (Nat.le_of_ble_eq_true rfl) ?_
  refine gx_loop (α := Nat × Sg) (fun x => x.1 ≤ P.length ∧ MP x.2 (psF P x.1).1 ∧ FR σ x.2 cR f1) (fun x => P.length - x.1) (fun x => [some (.inr 70), some (.inl ((psF P x.1).2 : Int)), some (.inl (x.1 : Int))]) (fun _ => []) (fun x => x.2) ?_ (0, σ) ⟨Nat.zero_le _, hM, FR.refl⟩
  rintro ⟨i, τ⟩ ⟨hi1, hMq, hF1⟩ ih
  dsimp only at hi1 hMq hF1 ih ⊢
  have hkq := KO_psF P i
  have hps : psF P (i + 1) = psS (psF P i) i := rfl
  obtain ⟨⟨Q, s9⟩, hQ⟩ : ∃ Q, psF P i = Q := ⟨_, rfl⟩
  rw [hQ] at hMq hkq hps ⊢
  dsimp only at hMq hkq ⊢
  have hql : Q.length = P.length := hkq.1.symm
  have huq : udf Q = 0 := by rw [← udf_ko hkq]; exact hu
  have hri := hMq.rg i
  have hft := fm_T hMq.1 i
  refine gx_iload_n hx dX9_pass_4 rfl ?_
  refine gx_aload_n hx dX9_pass_5 rfl ?_
  refine gx_getR hx flX9_7 dX9_pass_6 (by decide) rfl rfl ?_
  refine gx_iconst hx dX9_pass_9 ?_
  refine gx_iald hx dX9_pass_10 (by decide) rfl (by omega) (by omega) (by decide) ?_
  rw [hMq.2.1, hql]
  refine gx_icmp_ge (tgt := 73) hx dX9_pass_11 (by decide) ⟨by omega, by omega⟩ ⟨by omega, by omega⟩ (fun h11 => ?_) (fun h11 => ?_)
  · first
    | (exfalso; omega)
    | (refine gx_iload_n hx dX9_pass_73 rfl ?_
       refine hret _ _ _ _ _ _ _ (by decide) (by decide) dX9_pass_74 rfl rfl ?_
       have ei : i = P.length := by omega
       subst ei
       rw [hQ]
       exact ⟨rfl, hMq, hF1⟩)
  · first
    | (exfalso; omega)
    | (refine gx_aload_n hx dX9_pass_14 rfl ?_
       refine gx_iload_n hx dX9_pass_15 rfl ?_
       refine gx_callI hx (c_X9_isTransfer (P := Q) (i := i) _ _ hMq (by omega)) lkX9_146 mwX9_isTransfer dX9_pass_16 (by decide) rfl rfl rfl rfl (Nat.le_of_ble_eq_true rfl) (by decide) ⟨by decide, by decide⟩ (fun z_16 σ_16 hz_16 => ?_)
       obtain ⟨e9, rfl⟩ := hz_16
       replace e9 := ite10 e9
       refine gx_if_eq (tgt := 67) hx dX9_pass_19 (by decide) ⟨by omega, by omega⟩ (fun h19 => ?_) (fun h19 => ?_)
       · first
         | (exfalso; omega)
         | (refine gx_iinc hx dX9_pass_67 (Nat.le_of_ble_eq_true rfl) rfl ?_
            refine gx_goto (tgt := 4) hx dX9_pass_70 (by decide) ?_
            first
            | (have e1 : psF P (i + 1) = (stF Q i (fm Q i - 1), s9 + 1) := by
                 rw [hps, psS, if_pos ⟨by dsimp only; omega, by dsimp only; omega⟩]
               refine GJ.cong ?_ rfl rfl (ih (i + 1, σ_43) ⟨by omega, by rw [e1]; exact hM3, hF1.trans (FR.trans (FR.upd (by decide) rfl) hF3.R2)⟩ (by dsimp only; omega))
               dsimp only
               rw [e1, show ((s9 + 1 : Nat) : Int) = (s9 : Int) + 1 by omega]
               rfl)
            | (have e1 : psF P (i + 1) = (Q, s9) := by
                 rw [hps, psS, if_neg (fun h => by have h1 := h.1; have h2 := h.2; dsimp only at h1 h2; omega)]
               have hM4 := MP_stF (f := fm Q i) hM3 (show i < (stF Q i (fm Q i - 1)).length by rw [stF_len]; omega) (by rw [stF_back (by omega)]; exact hMq.1)
               rw [stF_back (by omega)] at hM4
               refine GJ.cong ?_ rfl rfl (ih (i + 1, upd2 σ_43 71 (81 + (i : Int)) (fm Q i : Int)) ⟨by omega, by rw [e1]; exact hM4, hF1.trans (FR.trans (FR.upd (by decide) rfl) (FR.trans hF3.R2 (FR.upd (by decide) rfl)))⟩ (by dsimp only; omega))
               dsimp only
               rw [e1]
               rfl)
            | (have h0 : fm Q i = 0 := by
                 first
                 | omega
                 | exact hft.2 (by omega)
               have e1 : psF P (i + 1) = (Q, s9) := by
                 rw [hps, psS, if_neg (fun h => by have h1 := h.1; dsimp only at h1; omega)]
               refine GJ.cong ?_ rfl rfl (ih (i + 1, τ) ⟨by omega, by rw [e1]; exact hMq, hF1⟩ (by dsimp only; omega))
               dsimp only
               rw [e1]
               rfl))
       · first
         | (exfalso; omega)
         | (refine gx_aload_n hx dX9_pass_22 rfl ?_
            refine gx_iload_n hx dX9_pass_23 rfl ?_
            refine gx_callI hx (c_X9_form (P := Q) (i := i) _ _ hMq (by omega)) lkX9_83 mwX9_form dX9_pass_24 (by decide) rfl rfl rfl rfl (Nat.le_of_ble_eq_true rfl) (by decide) ⟨by decide, by decide⟩ (fun z_24 σ_24 hz_24 => ?_)
            obtain ⟨rfl, rfl⟩ := hz_24
            refine gx_if_le (tgt := 67) hx dX9_pass_27 (by decide) ⟨by omega, by omega⟩ (fun h27 => ?_) (fun h27 => ?_)
            · first
              | (exfalso; omega)
              | (refine gx_iinc hx dX9_pass_67 (Nat.le_of_ble_eq_true rfl) rfl ?_
                 refine gx_goto (tgt := 4) hx dX9_pass_70 (by decide) ?_
                 first
                 | (have e1 : psF P (i + 1) = (stF Q i (fm Q i - 1), s9 + 1) := by
                      rw [hps, psS, if_pos ⟨by dsimp only; omega, by dsimp only; omega⟩]
                    refine GJ.cong ?_ rfl rfl (ih (i + 1, σ_43) ⟨by omega, by rw [e1]; exact hM3, hF1.trans (FR.trans (FR.upd (by decide) rfl) hF3.R2)⟩ (by dsimp only; omega))
                    dsimp only
                    rw [e1, show ((s9 + 1 : Nat) : Int) = (s9 : Int) + 1 by omega]
                    rfl)
                 | (have e1 : psF P (i + 1) = (Q, s9) := by
                      rw [hps, psS, if_neg (fun h => by have h1 := h.1; have h2 := h.2; dsimp only at h1 h2; omega)]
                    have hM4 := MP_stF (f := fm Q i) hM3 (show i < (stF Q i (fm Q i - 1)).length by rw [stF_len]; omega) (by rw [stF_back (by omega)]; exact hMq.1)
                    rw [stF_back (by omega)] at hM4
                    refine GJ.cong ?_ rfl rfl (ih (i + 1, upd2 σ_43 71 (81 + (i : Int)) (fm Q i : Int)) ⟨by omega, by rw [e1]; exact hM4, hF1.trans (FR.trans (FR.upd (by decide) rfl) (FR.trans hF3.R2 (FR.upd (by decide) rfl)))⟩ (by dsimp only; omega))
                    dsimp only
                    rw [e1]
                    rfl)
                 | (have h0 : fm Q i = 0 := by
                      first
                      | omega
                      | exact hft.2 (by omega)
                    have e1 : psF P (i + 1) = (Q, s9) := by
                      rw [hps, psS, if_neg (fun h => by have h1 := h.1; dsimp only at h1; omega)]
                    refine GJ.cong ?_ rfl rfl (ih (i + 1, τ) ⟨by omega, by rw [e1]; exact hMq, hF1⟩ (by dsimp only; omega))
                    dsimp only
                    rw [e1]
                    rfl))
            · first
              | (exfalso; omega)
              | (refine gx_aload_n hx dX9_pass_30 rfl ?_
                 refine gx_iload_n hx dX9_pass_31 rfl ?_
                 refine gx_aload_n hx dX9_pass_32 rfl ?_
                 refine gx_iload_n hx dX9_pass_33 rfl ?_
                 refine gx_callI hx (c_X9_form (P := Q) (i := i) _ _ hMq (by omega)) lkX9_83 mwX9_form dX9_pass_34 (by decide) rfl rfl rfl rfl (Nat.le_of_ble_eq_true rfl) (by decide) ⟨by decide, by decide⟩ (fun z_34 σ_34 hz_34 => ?_)
                 obtain ⟨rfl, rfl⟩ := hz_34
                 refine gx_iconst hx dX9_pass_37 ?_
                 refine gx_isub hx dX9_pass_38 ?_
                 rw [show (fm Q i : Int) - 1 = ((fm Q i - 1 : Nat) : Int) by omega]
                 refine gx_callV hx (c_X9_forms (z := (i : Int)) (v := ((fm Q i - 1 : Nat) : Int)) _ _ (by omega) (by omega)) lkX9_113 mwX9_forms dX9_pass_39 (by decide) rfl rfl rfl rfl (Nat.le_of_ble_eq_true rfl) (by decide) ⟨by decide, by decide⟩ (fun σ_39 hz_39 => ?_)
                 subst hz_39
                 have hok2 : okP (stF Q i (fm Q i - 1)) := stF_ok hMq.1 (by omega) (by omega)
                 have hM2 := MP_stF (f := fm Q i - 1) hMq (show i < Q.length by omega) hok2
                 have hu2 : udf (stF Q i (fm Q i - 1)) = 0 := by rw [← udf_ko (KO_stF Q i _)]; exact huq
                 refine gx_aload_n hx dX9_pass_42 rfl ?_
                 refine gx_callI hx (c_X9_misfitMany _ _ hM2 hu2) lkX9_174 mwX9_misfitMany dX9_pass_43 (by decide) rfl rfl rfl rfl (Nat.le_of_ble_eq_true rfl) (by decide) ⟨by decide, by decide⟩ (fun z_43 σ_43 hz_43 => ?_)
                 obtain ⟨rfl, hY3, hF3⟩ := hz_43
                 have hml : msf (stF Q i (fm Q i - 1)) (fm (stF Q i (fm Q i - 1))) ≤ (stF Q i (fm Q i - 1)).length := cnt_le _ _
                 rw [stF_len] at hml
                 have hM3 := hM2.fr hF3 rfl
                 refine gx_if_ne (tgt := 55) hx dX9_pass_46 (by decide) ⟨by omega, by omega⟩ (fun h46 => ?_) (fun h46 => ?_)
                 · first
                   | (exfalso; omega)
                   | (refine gx_aload_n hx dX9_pass_55 rfl ?_
                      refine gx_iload_n hx dX9_pass_56 rfl ?_
                      refine gx_aload_n hx dX9_pass_57 rfl ?_
                      refine gx_iload_n hx dX9_pass_58 rfl ?_
                      refine gx_callI hx (c_X9_form (i := i) _ _ hM3 (by rw [stF_len]; omega)) lkX9_83 mwX9_form dX9_pass_59 (by decide) rfl rfl rfl rfl (Nat.le_of_ble_eq_true rfl) (by decide) ⟨by decide, by decide⟩ (fun z_59 σ_59 hz_59 => ?_)
                      obtain ⟨rfl, rfl⟩ := hz_59
                      refine gx_iconst hx dX9_pass_62 ?_
                      refine gx_iadd hx dX9_pass_63 ?_
                      rw [(stF_at Q i (fm Q i - 1) i).2.2, if_pos ⟨rfl, by omega⟩, show ((fm Q i - 1 : Nat) : Int) + 1 = (fm Q i : Int) by omega]
                      refine gx_callV hx (c_X9_forms (z := (i : Int)) (v := (fm Q i : Int)) _ _ (by omega) (by omega)) lkX9_113 mwX9_forms dX9_pass_64 (by decide) rfl rfl rfl rfl (Nat.le_of_ble_eq_true rfl) (by decide) ⟨by decide, by decide⟩ (fun σ_64 hz_64 => ?_)
                      subst hz_64
                      refine gx_iinc hx dX9_pass_67 (Nat.le_of_ble_eq_true rfl) rfl ?_
                      refine gx_goto (tgt := 4) hx dX9_pass_70 (by decide) ?_
                      first
                      | (have e1 : psF P (i + 1) = (stF Q i (fm Q i - 1), s9 + 1) := by
                           rw [hps, psS, if_pos ⟨by dsimp only; omega, by dsimp only; omega⟩]
                         refine GJ.cong ?_ rfl rfl (ih (i + 1, σ_43) ⟨by omega, by rw [e1]; exact hM3, hF1.trans (FR.trans (FR.upd (by decide) rfl) hF3.R2)⟩ (by dsimp only; omega))
                         dsimp only
                         rw [e1, show ((s9 + 1 : Nat) : Int) = (s9 : Int) + 1 by omega]
                         rfl)
                      | (have e1 : psF P (i + 1) = (Q, s9) := by
                           rw [hps, psS, if_neg (fun h => by have h1 := h.1; have h2 := h.2; dsimp only at h1 h2; omega)]
                         have hM4 := MP_stF (f := fm Q i) hM3 (show i < (stF Q i (fm Q i - 1)).length by rw [stF_len]; omega) (by rw [stF_back (by omega)]; exact hMq.1)
                         rw [stF_back (by omega)] at hM4
                         refine GJ.cong ?_ rfl rfl (ih (i + 1, upd2 σ_43 71 (81 + (i : Int)) (fm Q i : Int)) ⟨by omega, by rw [e1]; exact hM4, hF1.trans (FR.trans (FR.upd (by decide) rfl) (FR.trans hF3.R2 (FR.upd (by decide) rfl)))⟩ (by dsimp only; omega))
                         dsimp only
                         rw [e1]
                         rfl)
                      | (have h0 : fm Q i = 0 := by
                           first
                           | omega
                           | exact hft.2 (by omega)
                         have e1 : psF P (i + 1) = (Q, s9) := by
                           rw [hps, psS, if_neg (fun h => by have h1 := h.1; dsimp only at h1; omega)]
                         refine GJ.cong ?_ rfl rfl (ih (i + 1, τ) ⟨by omega, by rw [e1]; exact hMq, hF1⟩ (by dsimp only; omega))
                         dsimp only
                         rw [e1]
                         rfl))
                 · first
                   | (exfalso; omega)
                   | (refine gx_iinc hx dX9_pass_49 (Nat.le_of_ble_eq_true rfl) rfl ?_
                      refine gx_goto (tgt := 67) hx dX9_pass_52 (by decide) ?_
                      refine gx_iinc hx dX9_pass_67 (Nat.le_of_ble_eq_true rfl) rfl ?_
                      refine gx_goto (tgt := 4) hx dX9_pass_70 (by decide) ?_
                      first
                      | (have e1 : psF P (i + 1) = (stF Q i (fm Q i - 1), s9 + 1) := by
                           rw [hps, psS, if_pos ⟨by dsimp only; omega, by dsimp only; omega⟩]
                         refine GJ.cong ?_ rfl rfl (ih (i + 1, σ_43) ⟨by omega, by rw [e1]; exact hM3, hF1.trans (FR.trans (FR.upd (by decide) rfl) hF3.R2)⟩ (by dsimp only; omega))
                         dsimp only
                         rw [e1, show ((s9 + 1 : Nat) : Int) = (s9 : Int) + 1 by omega]
                         rfl)
                      | (have e1 : psF P (i + 1) = (Q, s9) := by
                           rw [hps, psS, if_neg (fun h => by have h1 := h.1; have h2 := h.2; dsimp only at h1 h2; omega)]
                         have hM4 := MP_stF (f := fm Q i) hM3 (show i < (stF Q i (fm Q i - 1)).length by rw [stF_len]; omega) (by rw [stF_back (by omega)]; exact hMq.1)
                         rw [stF_back (by omega)] at hM4
                         refine GJ.cong ?_ rfl rfl (ih (i + 1, upd2 σ_43 71 (81 + (i : Int)) (fm Q i : Int)) ⟨by omega, by rw [e1]; exact hM4, hF1.trans (FR.trans (FR.upd (by decide) rfl) (FR.trans hF3.R2 (FR.upd (by decide) rfl)))⟩ (by dsimp only; omega))
                         dsimp only
                         rw [e1]
                         rfl)
                      | (have h0 : fm Q i = 0 := by
                           first
                           | omega
                           | exact hft.2 (by omega)
                         have e1 : psF P (i + 1) = (Q, s9) := by
                           rw [hps, psS, if_neg (fun h => by have h1 := h.1; dsimp only at h1; omega)]
                         refine GJ.cong ?_ rfl rfl (ih (i + 1, τ) ⟨by omega, by rw [e1]; exact hMq, hF1⟩ (by dsimp only; omega))
                         dsimp only
                         rw [e1]
                         rfl)))))
set_option maxRecDepth 20000 in
set_option maxHeartbeats 400000 in
theorem c_X9_shrink (g : Gm) (l : Launch) {σ : Sg} {A : AS} (hR : MR σ A) : KI g l yX9_shrink cX9_shrink 3 ((some .int)) (7) 0 0 [.inr 70] σ (MPI (sp_shrink A) σ) := by
  refine startI (own := RX9) (by decide +kernel) rfl (Nat.le_of_ble_eq_true rfl) ?_
  intro X hx _ _ hret
  obtain ⟨P, hs, sv, T, er⟩ := A
  obtain ⟨hM, hH, hS, hT, he1, he2, he3, hN⟩ := id hR
  obtain ⟨hok, hn, hit⟩ := id hM
  have hl40 := hok.1
  refine gx_aload_n hx dX9_shrink_0 rfl ?_
  refine gx_callI hx (c_X9_undefined _ _ hM) lkX9_159 mwX9_undefined dX9_shrink_1 (by decide) rfl rfl rfl rfl (Nat.le_of_ble_eq_true rfl) (by decide) ⟨by decide, by decide⟩ (fun z_1 σ_1 hz_1 => ?_)
  obtain ⟨rfl, rfl⟩ := hz_1
  have hul : udf P ≤ P.length := cnt_le _ _
  refine gx_if_gt (tgt := 14) hx dX9_shrink_4 (by decide) ⟨by omega, by omega⟩ (fun h4 => ?_) (fun h4 => ?_)
  · first
    | (exfalso; omega)
    | (refine gx_aload_n hx dX9_shrink_14 rfl ?_
       refine gx_iconst hx dX9_shrink_15 ?_
       refine gx_callI hx (c_X9_fails _ _) lkX9_93 mwX9_fails dX9_shrink_16 (by decide) rfl rfl rfl rfl (Nat.le_of_ble_eq_true rfl) (by decide) ⟨by decide, by decide⟩ (fun z_16 σ_16 hz_16 => ?_)
       obtain ⟨rfl, rfl⟩ := hz_16
       refine hret _ _ _ _ _ _ _ (by decide) (by decide) dX9_shrink_19 rfl rfl ?_
       first
       | exact ⟨1, (P, hs, sv, T, er), Or.inl ⟨Or.inr (by omega), rfl, rfl, rfl⟩, MZ.q hR hF0.S2 1 1 rfl⟩
       | exact ⟨1, (P, hs, sv, T, er), Or.inl ⟨Or.inl (by omega), rfl, rfl, rfl⟩, MZ.q hR FR.refl 1 1 rfl⟩)
  · first
    | (exfalso; omega)
    | (refine gx_aload_n hx dX9_shrink_7 rfl ?_
       refine gx_callI hx (c_X9_misfitMany _ _ hM (by omega)) lkX9_174 mwX9_misfitMany dX9_shrink_8 (by decide) rfl rfl rfl rfl (Nat.le_of_ble_eq_true rfl) (by decide) ⟨by decide, by decide⟩ (fun z_8 σ_8 hz_8 => ?_)
       obtain ⟨rfl, hY0, hF0⟩ := hz_8
       have hml : msf P (fm P) ≤ P.length := cnt_le _ _
       have hM0 := hM.fr hF0 rfl
       have hH0 := hH.same (hF0.2 3 rfl) (hF0.1 72 (by decide) rfl)
       refine gx_if_le (tgt := 20) hx dX9_shrink_11 (by decide) ⟨by omega, by omega⟩ (fun h11 => ?_) (fun h11 => ?_)
       · first
         | (exfalso; omega)
         | (have hu : udf P = 0 := by omega
            refine gx_aload_n hx dX9_shrink_20 rfl ?_
            refine gx_callV hx (c_X9_remembers _ _ hM0 hH0) lkX9_131 mwX9_remembers dX9_shrink_21 (by decide) rfl rfl rfl rfl (Nat.le_of_ble_eq_true rfl) (by decide) ⟨by decide, by decide⟩ (fun σ_21 hz_21 => ?_)
            obtain ⟨hH1, hF1⟩ := hz_21
            have hM1 := hM0.fr hF1 rfl
            refine gx_iconst hx dX9_shrink_24 ?_
            refine gx_istore_n hx dX9_shrink_25 (Nat.le_of_ble_eq_true rfl) ?_
            refine gx_aload_n hx dX9_shrink_26 rfl ?_
            refine gx_callI hx (c_X9_pass _ _ hM1 hu) lkX9_181 mwX9_pass dX9_shrink_27 (by decide) rfl rfl rfl rfl (Nat.le_of_ble_eq_true rfl) (by decide) ⟨by decide, by decide⟩ (fun z_27 σ_27 hz_27 => ?_)
            obtain ⟨rfl, hM2, hF2⟩ := hz_27
            refine gx_istore_n hx dX9_shrink_30 (Nat.le_of_ble_eq_true rfl) ?_
            refine gx_loop (α := Nat × Sg) (fun x => MP x.2 (psF (psN x.1 P).1 P.length).1 ∧ (∀ j, j < x.1 → (psF (psN j P).1 P.length).2 ≠ 0) ∧ FR σ_21 x.2 cR f1) (fun x => 81 - x.1) (fun x => [some (.inr 70), some (.inl ((psN x.1 P).2 : Int)), some (.inl ((psF (psN x.1 P).1 P.length).2 : Int))]) (fun _ => []) (fun x => x.2) ?_ (0, σ_27) ⟨hM2, fun j hj => absurd hj (Nat.not_lt_zero _), hF2⟩
            rintro ⟨k, τ⟩ ⟨hMk, hnk, hFk⟩ ih
            dsimp only at hMk hnk hFk ih ⊢
            have hk80 : k ≤ 80 := by
              have h1 := psN_ge k hnk
              have h2 := psN_top hok k
              omega
            have hkt := psN_top hok k
            have hkt1 := psN_top hok (k + 1)
            have hks : (psN (k + 1) P).2 = (psN k P).2 + (psF (psN k P).1 P.length).2 := rfl
            have hkp : (psN (k + 1) P).1 = (psF (psN k P).1 P.length).1 := rfl
            have hkl : (psF (psN k P).1 P.length).1.length = P.length := ((KO_psN (k + 1) P).1).symm
            have huk : udf (psF (psN k P).1 P.length).1 = 0 := by rw [← hkp, ← udf_ko (KO_psN (k + 1) P)]; exact hu
            refine gx_iload_n hx dX9_shrink_31 rfl ?_
            
            refine gx_if_le (tgt := 47) hx dX9_shrink_32 (by decide) ⟨by omega, by omega⟩ (fun h32 => ?_) (fun h32 => ?_)
            · first
              | (exfalso; omega)
              | (refine gx_aload_n hx dX9_shrink_47 rfl ?_
                 refine gx_iload_n hx dX9_shrink_48 rfl ?_
                 refine gx_callI hx (c_X9_done _ _) lkX9_90 mwX9_done dX9_shrink_49 (by decide) rfl rfl rfl rfl (Nat.le_of_ble_eq_true rfl) (by decide) ⟨by decide, by decide⟩ (fun z_49 σ_49 hz_49 => ?_)
                 obtain ⟨rfl, rfl⟩ := hz_49
                 refine hret _ _ _ _ _ _ _ (by decide) (by decide) dX9_shrink_52 rfl rfl ?_
                 have h0 : (psF (psN k P).1 P.length).2 = 0 := by omega
                 rw [show (psF (psN k P).1 P.length).1 = (psN k P).1 from psF_same P.length h0] at hMk
                 have hF : FR σ τ cP fP := hF0.S2.SP.trans (hF1.P72.trans hFk.PR)
                 have hH2 := hH1.same (hFk.2 3 rfl) (hFk.1 72 (by decide) rfl)
                 exact ⟨0, ((psN k P).1, psh P hs, sv, T, er), Or.inr ⟨hu, by omega, k, rfl, rfl, rfl, h0, hnk⟩, MZ.t (hR.change hMk hH2 hF) hF.PA 0 0 rfl⟩)
            · first
              | (exfalso; omega)
              | (refine gx_iload_n hx dX9_shrink_35 rfl ?_
                 refine gx_iload_n hx dX9_shrink_36 rfl ?_
                 refine gx_iadd hx dX9_shrink_37 ?_
                 refine gx_istore_n hx dX9_shrink_38 (Nat.le_of_ble_eq_true rfl) ?_
                 refine gx_aload_n hx dX9_shrink_39 rfl ?_
                 refine gx_callI hx (c_X9_pass (P := (psF (psN k P).1 P.length).1) _ _ hMk huk) lkX9_181 mwX9_pass dX9_shrink_40 (by decide) rfl rfl rfl rfl (Nat.le_of_ble_eq_true rfl) (by decide) ⟨by decide, by decide⟩ (fun z_40 σ_40 hz_40 => ?_)
                 obtain ⟨rfl, hM3, hF3⟩ := hz_40
                 refine gx_istore_n hx dX9_shrink_43 (Nat.le_of_ble_eq_true rfl) ?_
                 refine gx_goto (tgt := 31) hx dX9_shrink_44 (by decide) ?_
                 refine GJ.cong ?_ rfl rfl (ih (k + 1, σ_40) ⟨?_, fun j hj => ?_, hFk.trans hF3⟩ (by dsimp only; omega))
                 · dsimp only
                   rw [hks, show (((psN k P).2 + (psF (psN k P).1 P.length).2 : Nat) : Int) = ((psN k P).2 : Int) + ((psF (psN k P).1 P.length).2 : Int) by omega, hkp, hkl]
                   rfl
                 · dsimp only
                   rw [hkl] at hM3
                   exact hM3
                 · dsimp only at hj
                   rcases Nat.lt_or_ge j k with h | h
                   · exact hnk j h
                   · have e : j = k := by omega
                     subst e
                     omega))
       · first
         | (exfalso; omega)
         | (refine gx_aload_n hx dX9_shrink_14 rfl ?_
            refine gx_iconst hx dX9_shrink_15 ?_
            refine gx_callI hx (c_X9_fails _ _) lkX9_93 mwX9_fails dX9_shrink_16 (by decide) rfl rfl rfl rfl (Nat.le_of_ble_eq_true rfl) (by decide) ⟨by decide, by decide⟩ (fun z_16 σ_16 hz_16 => ?_)
            obtain ⟨rfl, rfl⟩ := hz_16
            refine hret _ _ _ _ _ _ _ (by decide) (by decide) dX9_shrink_19 rfl rfl ?_
            first
            | exact ⟨1, (P, hs, sv, T, er), Or.inl ⟨Or.inr (by omega), rfl, rfl, rfl⟩, MZ.q hR hF0.S2 1 1 rfl⟩
            | exact ⟨1, (P, hs, sv, T, er), Or.inl ⟨Or.inl (by omega), rfl, rfl, rfl⟩, MZ.q hR FR.refl 1 1 rfl⟩))
set_option maxRecDepth 20000 in
set_option maxHeartbeats 400000 in
theorem c_X9_chooses (g : Gm) (l : Launch) {σ : Sg} {P : List It} {c : Nat} {w : Int} (hM : MP σ P) (hc : c < 100000) : KV g l yX9_chooses cX9_chooses 5 (2) 0 0 [.inr 70, .inl (c : Int), .inl w] σ (fun τ => MP τ (setF P (chF P c)) ∧ FR σ τ c71 fN) := by
  refine startV (own := RX9) (by decide +kernel) rfl (Nat.le_of_ble_eq_true rfl) ?_
  intro X hx _ _ hret
  obtain ⟨hok, hn, hit⟩ := id hM
  have hl40 := hok.1
  refine gx_iload_n hx dX9_chooses_0 rfl ?_
  refine gx_istore_n hx dX9_chooses_1 (Nat.le_of_ble_eq_true rfl) ?_
  refine gx_aload_n hx dX9_chooses_2 rfl ?_
  refine gx_getR hx flX9_7 dX9_chooses_3 (by decide) rfl rfl ?_
  refine gx_iconst hx dX9_chooses_6 ?_
  refine gx_iald hx dX9_chooses_7 (by decide) rfl (by omega) (by omega) (by decide) ?_
  rw [hn]
  refine gx_iconst hx dX9_chooses_8 ?_
  refine gx_isub hx dX9_chooses_9 ?_
  refine gx_istore hx dX9_chooses_10 (Nat.le_of_ble_eq_true rfl) ?_
  refine GJ.cong (L' := [some (.inr 70), some (.inl (c : Int)), some (.inl w), some (.inl ((c / 3 ^ rT P 0 : Nat) : Int)), some (.inl ((P.length : Int) - 1 - ((0 : Nat) : Int)))]) (st' := []) (by rw [rT, Nat.pow_zero, Nat.div_one, show (P.length : Int) - 1 - ((0 : Nat) : Int) = (P.length : Int) - 1 by omega]; rfl) rfl rfl ?_
  refine gx_loop (α := Nat × Sg) (fun x => x.1 ≤ P.length ∧ MP x.2 (setF P (dnF P c x.1)) ∧ FR σ x.2 c71 fN) (fun x => P.length - x.1) (fun x => [some (.inr 70), some (.inl (c : Int)), some (.inl w), some (.inl ((c / 3 ^ rT P x.1 : Nat) : Int)), some (.inl ((P.length : Int) - 1 - (x.1 : Int)))]) (fun _ => []) (fun x => x.2) ?_ (0, σ) ⟨Nat.zero_le _, by dsimp only; rw [dn_0]; exact hM, FR.refl⟩
  rintro ⟨m, τ⟩ ⟨hm1, hMm, hF1⟩ ih
  dsimp only at hm1 hMm hF1 ih ⊢
  refine gx_iload hx dX9_chooses_12 rfl ?_
  have hcd : c / 3 ^ rT P m ≤ c := Nat.div_le_self _ _
  have hcd0 : 0 ≤ ((c / 3 ^ rT P m : Nat) : Int) := Int.natCast_nonneg _
  refine gx_if_lt (tgt := 45) hx dX9_chooses_14 (by decide) ⟨by omega, by omega⟩ (fun h14 => ?_) (fun h14 => ?_)
  · first
    | (exfalso; omega)
    | (refine hret _ _ _ _ _ (by decide) (by decide) dX9_chooses_45 ?_
       have em : m = P.length := by omega
       subst em
       rw [dn_all] at hMm
       exact ⟨hMm, hF1⟩)
  · first
    | (exfalso; omega)
    | (obtain ⟨i, hi⟩ : ∃ i : Nat, i + 1 + m = P.length := ⟨P.length - 1 - m, by omega⟩
       rw [show (P.length : Int) - 1 - (m : Int) = (i : Int) by omega]
       refine gx_aload_n hx dX9_chooses_17 rfl ?_
       refine gx_iload hx dX9_chooses_18 rfl ?_
       refine gx_callI hx (c_X9_isTransfer (P := setF P (dnF P c m)) (i := i) _ _ hMm (by rw [setF_len]; omega)) lkX9_146 mwX9_isTransfer dX9_chooses_20 (by decide) rfl rfl rfl rfl (Nat.le_of_ble_eq_true rfl) (by decide) ⟨by decide, by decide⟩ (fun z_20 σ_20 hz_20 => ?_)
       obtain ⟨e9, rfl⟩ := hz_20
       replace e9 := ite10 e9
       rw [show isT (setF P (dnF P c m)) i ↔ isT P i from (ko_isT (KO_setF P _) i).symm] at e9
       refine gx_if_eq (tgt := 39) hx dX9_chooses_23 (by decide) ⟨by omega, by omega⟩ (fun h23 => ?_) (fun h23 => ?_)
       · first
         | (exfalso; omega)
         | (refine gx_iinc hx dX9_chooses_39 (Nat.le_of_ble_eq_true rfl) rfl ?_
            refine gx_goto (tgt := 12) hx dX9_chooses_42 (by decide) ?_
            first
            | (have ht9 := ht
               refine GJ.cong ?_ rfl rfl (ih (m + 1, upd2 τ 71 (81 + (i : Int)) (chF P c i : Int)) ⟨by omega, ?_, hF1.trans (FR.upd (by decide) rfl)⟩ (by dsimp only; omega))
               · dsimp only
                 rw [ch_s1 hi ht, show (P.length : Int) - 1 - ((m + 1 : Nat) : Int) = (i : Int) + -1 by omega]
                 rfl
               · dsimp only
                 rw [← dn_yes hi]
                 refine MP_stF hMm (by rw [setF_len]; omega) ?_
                 rw [dn_yes hi]
                 exact dn_ok hok c (m + 1))
            | (have hnt : ¬ isT P i := by omega
               refine GJ.cong ?_ rfl rfl (ih (m + 1, τ) ⟨by omega, ?_, hF1⟩ (by dsimp only; omega))
               · dsimp only
                 rw [ch_s0 (c := c) hi hnt, show (P.length : Int) - 1 - ((m + 1 : Nat) : Int) = (i : Int) + -1 by omega]
                 rfl
               · dsimp only
                 rw [← dn_no hok hi hnt]
                 exact hMm))
       · first
         | (exfalso; omega)
         | (have ht : isT P i := by omega
            refine gx_aload_n hx dX9_chooses_26 rfl ?_
            refine gx_iload hx dX9_chooses_27 rfl ?_
            refine gx_iload_n hx dX9_chooses_29 rfl ?_
            refine gx_iconst hx dX9_chooses_30 ?_
            refine gx_irem hx dX9_chooses_31 ⟨by omega, by omega⟩ ⟨by omega, by omega⟩ (by omega) (by omega) ?_
            rw [show ((c / 3 ^ rT P m : Nat) : Int) % 3 = (chF P c i : Int) by rw [← ch_at hi ht]; rfl]
            refine gx_callV hx (c_X9_forms (z := (i : Int)) (v := (chF P c i : Int)) _ _ (by omega) (by omega)) lkX9_113 mwX9_forms dX9_chooses_32 (by decide) rfl rfl rfl rfl (Nat.le_of_ble_eq_true rfl) (by decide) ⟨by decide, by decide⟩ (fun σ_32 hz_32 => ?_)
            subst hz_32
            refine gx_iload_n hx dX9_chooses_35 rfl ?_
            refine gx_iconst hx dX9_chooses_36 ?_
            refine gx_idiv hx dX9_chooses_37 ⟨by omega, by omega⟩ ⟨by omega, by omega⟩ (by omega) (by omega) ?_
            refine gx_istore_n hx dX9_chooses_38 (Nat.le_of_ble_eq_true rfl) ?_
            refine gx_iinc hx dX9_chooses_39 (Nat.le_of_ble_eq_true rfl) rfl ?_
            refine gx_goto (tgt := 12) hx dX9_chooses_42 (by decide) ?_
            first
            | (have ht9 := ht
               refine GJ.cong ?_ rfl rfl (ih (m + 1, upd2 τ 71 (81 + (i : Int)) (chF P c i : Int)) ⟨by omega, ?_, hF1.trans (FR.upd (by decide) rfl)⟩ (by dsimp only; omega))
               · dsimp only
                 rw [ch_s1 hi ht, show (P.length : Int) - 1 - ((m + 1 : Nat) : Int) = (i : Int) + -1 by omega]
                 rfl
               · dsimp only
                 rw [← dn_yes hi]
                 refine MP_stF hMm (by rw [setF_len]; omega) ?_
                 rw [dn_yes hi]
                 exact dn_ok hok c (m + 1))
            | (have hnt : ¬ isT P i := by omega
               refine GJ.cong ?_ rfl rfl (ih (m + 1, τ) ⟨by omega, ?_, hF1⟩ (by dsimp only; omega))
               · dsimp only
                 rw [ch_s0 (c := c) hi hnt, show (P.length : Int) - 1 - ((m + 1 : Nat) : Int) = (i : Int) + -1 by omega]
                 rfl
               · dsimp only
                 rw [← dn_no hok hi hnt]
                 exact hMm)))
set_option maxRecDepth 20000 in
set_option maxHeartbeats 400000 in
theorem c_X9_lacksChoices (g : Gm) (l : Launch) {σ : Sg} {P : List It} (hM : MP σ P) : KI g l yX9_lacksChoices cX9_lacksChoices 1 ((some .int)) (3) 0 0 [.inr 70] σ (fun r τ => ((r = 1 ∧ udf P ≠ 0) ∨ (r = 2 ∧ udf P = 0 ∧ 8 < nT P) ∨ (r = 0 ∧ udf P = 0 ∧ nT P ≤ 8)) ∧ σ = τ) := by
  refine startI (own := RX9) (by decide +kernel) rfl (Nat.le_of_ble_eq_true rfl) ?_
  intro X hx _ _ hret
  obtain ⟨hok, hn, hit⟩ := id hM
  have hl40 := hok.1
  refine gx_aload_n hx dX9_lacksChoices_0 rfl ?_
  refine gx_callI hx (c_X9_undefined _ _ hM) lkX9_159 mwX9_undefined dX9_lacksChoices_1 (by decide) rfl rfl rfl rfl (Nat.le_of_ble_eq_true rfl) (by decide) ⟨by decide, by decide⟩ (fun z_1 σ_1 hz_1 => ?_)
  obtain ⟨rfl, rfl⟩ := hz_1
  have hul : udf P ≤ P.length := cnt_le _ _
  refine gx_if_le (tgt := 11) hx dX9_lacksChoices_4 (by decide) ⟨by omega, by omega⟩ (fun h4 => ?_) (fun h4 => ?_)
  · first
    | (exfalso; omega)
    | (refine gx_aload_n hx dX9_lacksChoices_11 rfl ?_
       refine gx_callI hx (c_X9_transfers _ _ hM) lkX9_156 mwX9_transfers dX9_lacksChoices_12 (by decide) rfl rfl rfl rfl (Nat.le_of_ble_eq_true rfl) (by decide) ⟨by decide, by decide⟩ (fun z_12 σ_12 hz_12 => ?_)
       obtain ⟨rfl, rfl⟩ := hz_12
       have htl : nT P ≤ P.length := cnt_le _ _
       refine gx_bipush hx dX9_lacksChoices_15 (by decide) ?_
       refine gx_icmp_le (tgt := 24) hx dX9_lacksChoices_17 (by decide) ⟨by omega, by omega⟩ ⟨by omega, by omega⟩ (fun h17 => ?_) (fun h17 => ?_)
       · first
         | (exfalso; omega)
         | (refine gx_iconst hx dX9_lacksChoices_24 ?_
            refine hret _ _ _ _ _ _ _ (by decide) (by decide) dX9_lacksChoices_25 rfl rfl ?_
            exact ⟨by omega, rfl⟩)
       · first
         | (exfalso; omega)
         | (refine gx_iconst hx dX9_lacksChoices_20 ?_
            refine gx_goto (tgt := 25) hx dX9_lacksChoices_21 (by decide) ?_
            refine hret _ _ _ _ _ _ _ (by decide) (by decide) dX9_lacksChoices_25 rfl rfl ?_
            exact ⟨by omega, rfl⟩))
  · first
    | (exfalso; omega)
    | (refine gx_iconst hx dX9_lacksChoices_7 ?_
       refine gx_goto (tgt := 25) hx dX9_lacksChoices_8 (by decide) ?_
       refine hret _ _ _ _ _ _ _ (by decide) (by decide) dX9_lacksChoices_25 rfl rfl ?_
       exact ⟨by omega, rfl⟩)
set_option maxRecDepth 20000 in
set_option maxHeartbeats 400000 in
theorem c_X9_tellChoices (g : Gm) (l : Launch) {σ : Sg} {P : List It} (hM : MP σ P) (hu : udf P = 0) (h8 : nT P ≤ 8) : KV g l yX9_tellChoices cX9_tellChoices 5 (6) 0 0 [.inr 70] σ (fun τ => MP τ P ∧ keptC P τ (3 ^ nT P) ∧ FR σ τ cR fC) := by
  refine startV (own := RX9) (by decide +kernel) rfl (Nat.le_of_ble_eq_true rfl) ?_
  intro X hx _ _ hret
  obtain ⟨hok, hn, hit⟩ := id hM
  have hl40 := hok.1
  have hp3 := pow3 h8
  have hfT := fun i (_ : i < P.length) => fm_T hok i
  refine gx_iconst hx dX9_tellChoices_0 ?_
  refine gx_istore_n hx dX9_tellChoices_1 (Nat.le_of_ble_eq_true rfl) ?_
  refine gx_loop (α := Nat × Sg) (fun x => x.1 ≤ P.length ∧ (∀ q : Nat, q < x.1 → x.2 80 (q : Int) = (fm P q : Int)) ∧ FR σ x.2 c80 fN) (fun x => P.length - x.1) (fun x => [some (.inr 70), some (.inl (x.1 : Int)), none, none, none]) (fun _ => []) (fun x => x.2) ?_ (0, σ) ⟨Nat.zero_le _, fun q hq => absurd hq (Nat.not_lt_zero _), FR.refl⟩
  rintro ⟨i, τ⟩ ⟨hi1, h80, hF1⟩ ih1
  dsimp only at hi1 h80 hF1 ih1 ⊢
  have hri := hM.rg i
  refine gx_iload_n hx dX9_tellChoices_2 rfl ?_
  refine gx_aload_n hx dX9_tellChoices_3 rfl ?_
  refine gx_getR hx flX9_7 dX9_tellChoices_4 (by decide) rfl rfl ?_
  refine gx_iconst hx dX9_tellChoices_7 ?_
  refine gx_iald hx dX9_tellChoices_8 (by decide) rfl (by omega) (by omega) (by decide) ?_
  rw [(hM.fr hF1 rfl).2.1]
  refine gx_icmp_ge (tgt := 29) hx dX9_tellChoices_9 (by decide) ⟨by omega, by omega⟩ ⟨by omega, by omega⟩ (fun h9 => ?_) (fun h9 => ?_)
  · first
    | (exfalso; omega)
    | (refine gx_aload_n hx dX9_tellChoices_29 rfl ?_
       refine gx_callI hx (c_X9_transfers _ _ (hM.fr hF1 rfl)) lkX9_156 mwX9_transfers dX9_tellChoices_30 (by decide) rfl rfl rfl rfl (Nat.le_of_ble_eq_true rfl) (by decide) ⟨by decide, by decide⟩ (fun z_30 σ_30 hz_30 => ?_)
       obtain ⟨rfl, rfl⟩ := hz_30
       refine gx_istore_n hx dX9_tellChoices_33 (Nat.le_of_ble_eq_true rfl) ?_
       refine gx_iconst hx dX9_tellChoices_34 ?_
       refine gx_istore_n hx dX9_tellChoices_35 (Nat.le_of_ble_eq_true rfl) ?_
       refine gx_iconst hx dX9_tellChoices_36 ?_
       refine gx_istore_n hx dX9_tellChoices_37 (Nat.le_of_ble_eq_true rfl) ?_
       have ei : i = P.length := by omega
       subst ei
       refine gx_loop (α := Nat) (fun k => k ≤ nT P) (fun k => nT P - k) (fun k => [some (.inr 70), some (.inl (nT P : Int)), some (.inl ((3 ^ k : Nat) : Int)), some (.inl (k : Int)), none]) (fun _ => []) (fun _ => τ) ?_ 0 (Nat.zero_le _)
       intro k hk1 ih2
       have hpk := pow3 (show k ≤ 8 by omega)
       refine gx_iload_n hx dX9_tellChoices_38 rfl ?_
       refine gx_iload_n hx dX9_tellChoices_39 rfl ?_
       refine gx_icmp_ge (tgt := 53) hx dX9_tellChoices_40 (by decide) ⟨by omega, by omega⟩ ⟨by omega, by omega⟩ (fun h40 => ?_) (fun h40 => ?_)
       · first
         | (exfalso; omega)
         | (refine gx_aload_n hx dX9_tellChoices_53 rfl ?_
            refine gx_iconst hx dX9_tellChoices_54 ?_
            refine gx_put hx fpX9_184 dX9_tellChoices_55 (by decide) rfl rfl rfl rfl 18 rfl ?_
            refine gx_aload_n hx dX9_tellChoices_58 rfl ?_
            refine gx_iconst hx dX9_tellChoices_59 ?_
            refine gx_put hx fpX9_187 dX9_tellChoices_60 (by decide) rfl rfl rfl rfl 20 rfl ?_
            refine gx_iconst hx dX9_tellChoices_63 ?_
            refine gx_istore_n hx dX9_tellChoices_64 (Nat.le_of_ble_eq_true rfl) ?_
            have ek : k = nT P := by omega
            subst ek
            have hF0 : FR σ (upd2 (upd2 τ 70 18 (-1)) 70 20 0) cR fC := hF1.R80.RC.trans (FR.trans (FR.updF rfl) (FR.updF rfl))
            have hk0 : keptC P (upd2 (upd2 τ 70 18 (-1)) 70 20 0) 0 := ⟨by rw [upd2_at]; rfl, Nat.zero_le _, Or.inl ⟨rfl, by rw [upd2_z (by decide), upd2_at]⟩⟩
            refine gx_loop (α := Nat × Sg) (fun x => x.1 ≤ 3 ^ nT P ∧ (∃ Q, KO P Q ∧ MP x.2 Q) ∧ keptC P x.2 x.1 ∧ (∀ q : Nat, q < P.length → x.2 80 (q : Int) = (fm P q : Int)) ∧ FR σ x.2 cR fC) (fun x => 3 ^ nT P - x.1) (fun x => [some (.inr 70), some (.inl (nT P : Int)), some (.inl ((3 ^ nT P : Nat) : Int)), some (.inl (x.1 : Int)), none]) (fun _ => []) (fun x => x.2) ?_ (0, upd2 (upd2 τ 70 18 (-1)) 70 20 0) ⟨Nat.zero_le _, ⟨P, KO.refl P, ((hM.fr hF1 rfl).same (upd2_other (k := 70) (z := 18) (v := -1) 71 (by decide))).same (upd2_other (k := 70) (z := 20) (v := 0) 71 (by decide))⟩, hk0, fun q hq => by dsimp only; rw [upd2_other 80 (by decide), upd2_other 80 (by decide)]; exact h80 q hq, hF0⟩
            rintro ⟨c, τ3⟩ ⟨hc1, ⟨Q, hKQ, hMQ⟩, hkp, h80, hF3⟩ ih3
            dsimp only at hc1 hkp h80 hF3 ih3 ⊢
            refine gx_iload_n hx dX9_tellChoices_65 rfl ?_
            refine gx_iload_n hx dX9_tellChoices_66 rfl ?_
            refine gx_icmp_ge (tgt := 133) hx dX9_tellChoices_67 (by decide) ⟨by omega, by omega⟩ ⟨by omega, by omega⟩ (fun h67 => ?_) (fun h67 => ?_)
            · first
              | (exfalso; omega)
              | (refine gx_iconst hx dX9_tellChoices_133 ?_
                 refine gx_istore_n hx dX9_tellChoices_134 (Nat.le_of_ble_eq_true rfl) ?_
                 have ec : c = 3 ^ nT P := by omega
                 refine gx_loop (α := Nat × Sg) (fun x => x.1 ≤ P.length ∧ MP x.2 (setF Q (mixF Q (fm P) x.1)) ∧ FR τ3 x.2 c71 fN) (fun x => P.length - x.1) (fun x => [some (.inr 70), some (.inl (nT P : Int)), some (.inl ((3 ^ nT P : Nat) : Int)), some (.inl (x.1 : Int)), none]) (fun _ => []) (fun x => x.2) ?_ (0, τ3) ⟨Nat.zero_le _, by dsimp only; rw [mix_0]; exact hMQ, FR.refl⟩
                 rintro ⟨k, υ⟩ ⟨hk1, hMk, hFk⟩ ih4
                 dsimp only at hk1 hMk hFk ih4 ⊢
                 have hk80 : ∀ q : Nat, q < P.length → υ 80 (q : Int) = (fm P q : Int) := fun q hq => by rw [hFk.1 80 (by decide) rfl]; exact h80 q hq
                 refine gx_iload_n hx dX9_tellChoices_135 rfl ?_
                 refine gx_aload_n hx dX9_tellChoices_136 rfl ?_
                 refine gx_getR hx flX9_7 dX9_tellChoices_137 (by decide) rfl rfl ?_
                 refine gx_iconst hx dX9_tellChoices_140 ?_
                 refine gx_iald hx dX9_tellChoices_141 (by decide) rfl (by omega) (by omega) (by decide) ?_
                 rw [hMk.2.1, setF_len, ← hKQ.1]
                 refine gx_icmp_ge (tgt := 162) hx dX9_tellChoices_142 (by decide) ⟨by omega, by omega⟩ ⟨by omega, by omega⟩ (fun h142 => ?_) (fun h142 => ?_)
                 · first
                   | (exfalso; omega)
                   | (refine hret _ _ _ _ _ (by decide) (by decide) dX9_tellChoices_162 ?_
                      have ek : k = Q.length := by rw [← hKQ.1]; omega
                      subst ek
                      rw [mix_all, ko_setF hKQ, setF_self] at hMk
                      refine ⟨hMk, ?_, hF3.trans hFk.R71.RC⟩
                      rw [← ec]
                      unfold keptC
                      rw [hFk.2 20 rfl, hFk.2 18 rfl, hFk.2 19 rfl]
                      exact hkp)
                 · first
                   | (exfalso; omega)
                   | (refine gx_aload_n hx dX9_tellChoices_145 rfl ?_
                      refine gx_iload_n hx dX9_tellChoices_146 rfl ?_
                      refine gx_aload_n hx dX9_tellChoices_147 rfl ?_
                      refine gx_getR hx flX9_43 dX9_tellChoices_148 (by decide) rfl rfl ?_
                      refine gx_iload_n hx dX9_tellChoices_151 rfl ?_
                      refine gx_iald hx dX9_tellChoices_152 (by decide) rfl (by omega) (by omega) (by decide) ?_
                      rw [hk80 k (by omega)]
                      refine gx_callV hx (c_X9_forms (z := (k : Int)) _ _ (by omega) (by omega)) lkX9_113 mwX9_forms dX9_tellChoices_153 (by decide) rfl rfl rfl rfl (Nat.le_of_ble_eq_true rfl) (by decide) ⟨by decide, by decide⟩ (fun σ_153 hz_153 => ?_)
                      subst hz_153
                      refine gx_iinc hx dX9_tellChoices_156 (Nat.le_of_ble_eq_true rfl) rfl ?_
                      refine gx_goto (tgt := 135) hx dX9_tellChoices_159 (by decide) ?_
                      refine ih4 (k + 1, upd2 υ 71 (81 + (k : Int)) (fm P k : Int)) ⟨by omega, MP_mix (G := fm P) hMQ.1 (fun i _ => ⟨(fm_T hok i).1, fun h9 => (fm_T hok i).2 (fun h7 => h9 ((ko_isT hKQ i).mp h7))⟩) (by rw [← hKQ.1]; omega) hMk, hFk.trans (FR.upd (by decide) rfl)⟩ (by dsimp only; omega)))
            · first
              | (exfalso; omega)
              | (refine gx_aload_n hx dX9_tellChoices_70 rfl ?_
                 refine gx_iload_n hx dX9_tellChoices_71 rfl ?_
                 refine gx_iload_n hx dX9_tellChoices_72 rfl ?_
                 refine gx_callV hx (c_X9_chooses (P := Q) (c := c) _ _ hMQ (by omega)) lkX9_190 mwX9_chooses dX9_tellChoices_73 (by decide) rfl rfl rfl rfl (Nat.le_of_ble_eq_true rfl) (by decide) ⟨by decide, by decide⟩ (fun σ_73 hz_73 => ?_)
                 obtain ⟨hM5, hF5⟩ := hz_73
                 rw [← ko_chF hKQ, ko_setF hKQ] at hM5
                 have hu5 : udf (setF P (chF P c)) = 0 := by rw [← udf_ko (KO_setF P _)]; exact hu
                 refine gx_aload_n hx dX9_tellChoices_76 rfl ?_
                 refine gx_callI hx (c_X9_misfitMany _ _ hM5 hu5) lkX9_174 mwX9_misfitMany dX9_tellChoices_77 (by decide) rfl rfl rfl rfl (Nat.le_of_ble_eq_true rfl) (by decide) ⟨by decide, by decide⟩ (fun z_77 σ_77 hz_77 => ?_)
                 obtain ⟨e6, hY6, hF6⟩ := hz_77
                 rw [msf_setF] at e6
                 have hml : msf P (chF P c) ≤ P.length := cnt_le _ _
                 have hM6 := hM5.fr hF6 rfl
                 have hF56 : FR τ3 σ_77 cR f1 := hF5.R71.trans hF6.R2
                 have k20 : σ_77 70 20 = τ3 70 20 := hF56.2 20 rfl
                 have k18 : σ_77 70 18 = τ3 70 18 := hF56.2 18 rfl
                 have k19 : σ_77 70 19 = τ3 70 19 := hF56.2 19 rfl
                 have e80 : ∀ q : Nat, q < P.length → σ_77 80 (q : Int) = (fm P q : Int) := fun q hq => by rw [hF6.1 80 (by decide) rfl, hF5.1 80 (by decide) rfl]; exact h80 q hq
                 obtain ⟨kp1, kp2, kp3⟩ := hkp
                 have hat := acc_tot hok c
                 have htt := tot_le hok (chF P c)
                 refine gx_if_ne (tgt := 127) hx dX9_tellChoices_80 (by decide) ⟨by omega, by omega⟩ (fun h80 => ?_) (fun h80 => ?_)
                 · first
                   | (exfalso; omega)
                   | (refine gx_iinc hx dX9_tellChoices_127 (Nat.le_of_ble_eq_true rfl) rfl ?_
                      refine gx_goto (tgt := 65) hx dX9_tellChoices_130 (by decide) ?_
                      refine GJ.drop 4 ?_
                      first
                      | (refine ih3 (c + 1, upd2 (upd2 σ_94 70 18 (c : Int)) 70 19 z_94) ⟨by omega, ⟨_, KO_setF P (chF P c), (hM7.same (upd2_other (k := 70) (z := 18) (v := (c : Int)) 71 (by decide))).same (upd2_other (k := 70) (z := 19) (v := z_94) 71 (by decide))⟩, ?_, fun q hq => by dsimp only; rw [upd2_other 80 (by decide), upd2_other 80 (by decide)]; exact e80b q hq, hF3.trans (hF17.trans (FR.trans (FR.updF rfl) (FR.updF rfl)))⟩ (by dsimp only; omega)
                         have hbest : (acc P c).1 = 0 ∨ tot P (chF P c) < (acc P c).2.1 := by
                           rcases kp3 with ⟨a1, a2⟩ | ⟨a1, a2, b, a3, a4, a5⟩
                           · exact Or.inl a1
                           · right; omega
                         unfold keptC
                         dsimp only
                         rw [hacs, if_pos hbest]
                         exact ⟨by rw [upd2_z (by decide), upd2_z (by decide), g20]; dsimp only; omega, by dsimp only; omega, Or.inr ⟨Nat.succ_pos _, by rw [upd2_at]; exact e7, c, by omega, by rw [upd2_z (by decide), upd2_at], rfl⟩⟩)
                      | (refine ih3 (c + 1, σ_94) ⟨by omega, ⟨_, KO_setF P (chF P c), hM7⟩, ?_, e80b, hF3.trans hF17⟩ (by dsimp only; omega)
                         unfold keptC
                         dsimp only
                         rcases kp3 with ⟨a1, a2⟩ | ⟨a1, a2, b, a3, a4, a5⟩
                         · omega
                         · rw [hacs, if_neg (by omega)]
                           exact ⟨by rw [g20]; dsimp only; omega, by dsimp only; omega, Or.inr ⟨Nat.succ_pos _, by rw [g19]; exact a2, b, by omega, by rw [g18]; exact a4, a5⟩⟩)
                      | (refine ih3 (c + 1, σ_77) ⟨by omega, ⟨_, KO_setF P (chF P c), hM6⟩, ?_, e80, hF3.trans hF56.RC⟩ (by dsimp only; omega)
                         have hacs : acc P (c + 1) = acc P c := by rw [acc_s, kpA, if_neg (by omega)]
                         unfold keptC
                         dsimp only
                         rw [hacs, k20, k18, k19]
                         refine ⟨kp1, by omega, ?_⟩
                         rcases kp3 with ⟨a1, a2⟩ | ⟨a1, a2, b, a3, a4, a5⟩
                         · exact Or.inl ⟨a1, a2⟩
                         · exact Or.inr ⟨a1, a2, b, by omega, a4, a5⟩))
                 · first
                   | (exfalso; omega)
                   | (refine gx_aload_n hx dX9_tellChoices_83 rfl ?_
                      refine gx_dup hx dX9_tellChoices_84 ?_
                      refine gx_getI hx flX9_187 dX9_tellChoices_85 (by decide) rfl rfl 20 rfl ?_
                      rw [k20, kp1]
                      refine gx_iconst hx dX9_tellChoices_88 ?_
                      refine gx_iadd hx dX9_tellChoices_89 ?_
                      rw [show ((acc P c).1 : Int) + 1 = σ_77 70 20 + 1 by rw [k20, kp1]]
                      refine gx_put hx fpX9_187 dX9_tellChoices_90 (by decide) rfl rfl rfl rfl 20 rfl ?_
                      refine gx_aload_n hx dX9_tellChoices_93 rfl ?_
                      refine gx_callI hx (c_X9_total (P := setF P (chF P c)) _ _ (hM6.same (upd2_other 71 (by decide))) (hY6.same (upd2_other 75 (by decide)))) lkX9_149 mwX9_total dX9_tellChoices_94 (by decide) rfl rfl rfl rfl (Nat.le_of_ble_eq_true rfl) (by decide) ⟨by decide, by decide⟩ (fun z_94 σ_94 hz_94 => ?_)
                      obtain ⟨e7, hF7⟩ := hz_94
                      rw [tot_setF] at e7
                      have g20 : σ_94 70 20 = ((acc P c).1 : Int) + 1 := by rw [hF7.2 20 rfl, upd2_at, k20, kp1]
                      have g18 : σ_94 70 18 = τ3 70 18 := by rw [hF7.2 18 rfl, upd2_z (by decide), k18]
                      have g19 : σ_94 70 19 = τ3 70 19 := by rw [hF7.2 19 rfl, upd2_z (by decide), k19]
                      have hM7 : MP σ_94 (setF P (chF P c)) := (hM6.same (upd2_other 71 (by decide))).fr hF7 rfl
                      have hF17 : FR τ3 σ_94 cR fC := hF56.RC.trans (FR.trans (FR.updF rfl) hF7.R1.RC)
                      have e80b : ∀ q : Nat, q < P.length → σ_94 80 (q : Int) = (fm P q : Int) := fun q hq => by rw [hF7.1 80 (by decide) rfl, upd2_other 80 (by decide)]; exact e80 q hq
                      have hacs : acc P (c + 1) = ((acc P c).1 + 1, if (acc P c).1 = 0 ∨ tot P (chF P c) < (acc P c).2.1 then (tot P (chF P c), chF P c) else (acc P c).2) := by rw [acc_s, kpA, if_pos (by omega)]
                      refine gx_istore hx dX9_tellChoices_97 (Nat.le_of_ble_eq_true rfl) ?_
                      refine gx_aload_n hx dX9_tellChoices_99 rfl ?_
                      refine gx_getI hx flX9_184 dX9_tellChoices_100 (by decide) rfl rfl 18 rfl ?_
                      rw [g18]
                      refine gx_iconst hx dX9_tellChoices_103 ?_
                      refine gx_icmp_eq (tgt := 116) hx dX9_tellChoices_104 (by decide) ⟨by omega, by omega⟩ ⟨by omega, by omega⟩ (fun h104 => ?_) (fun h104 => ?_)
                      · first
                        | (exfalso; omega)
                        | (refine gx_aload_n hx dX9_tellChoices_116 rfl ?_
                           refine gx_iload_n hx dX9_tellChoices_117 rfl ?_
                           refine gx_put hx fpX9_184 dX9_tellChoices_118 (by decide) rfl rfl rfl rfl 18 rfl ?_
                           refine gx_aload_n hx dX9_tellChoices_121 rfl ?_
                           refine gx_iload hx dX9_tellChoices_122 rfl ?_
                           refine gx_put hx fpX9_193 dX9_tellChoices_124 (by decide) rfl rfl rfl rfl 19 rfl ?_
                           refine gx_iinc hx dX9_tellChoices_127 (Nat.le_of_ble_eq_true rfl) rfl ?_
                           refine gx_goto (tgt := 65) hx dX9_tellChoices_130 (by decide) ?_
                           refine GJ.drop 4 ?_
                           first
                           | (refine ih3 (c + 1, upd2 (upd2 σ_94 70 18 (c : Int)) 70 19 z_94) ⟨by omega, ⟨_, KO_setF P (chF P c), (hM7.same (upd2_other (k := 70) (z := 18) (v := (c : Int)) 71 (by decide))).same (upd2_other (k := 70) (z := 19) (v := z_94) 71 (by decide))⟩, ?_, fun q hq => by dsimp only; rw [upd2_other 80 (by decide), upd2_other 80 (by decide)]; exact e80b q hq, hF3.trans (hF17.trans (FR.trans (FR.updF rfl) (FR.updF rfl)))⟩ (by dsimp only; omega)
                              have hbest : (acc P c).1 = 0 ∨ tot P (chF P c) < (acc P c).2.1 := by
                                rcases kp3 with ⟨a1, a2⟩ | ⟨a1, a2, b, a3, a4, a5⟩
                                · exact Or.inl a1
                                · right; omega
                              unfold keptC
                              dsimp only
                              rw [hacs, if_pos hbest]
                              exact ⟨by rw [upd2_z (by decide), upd2_z (by decide), g20]; dsimp only; omega, by dsimp only; omega, Or.inr ⟨Nat.succ_pos _, by rw [upd2_at]; exact e7, c, by omega, by rw [upd2_z (by decide), upd2_at], rfl⟩⟩)
                           | (refine ih3 (c + 1, σ_94) ⟨by omega, ⟨_, KO_setF P (chF P c), hM7⟩, ?_, e80b, hF3.trans hF17⟩ (by dsimp only; omega)
                              unfold keptC
                              dsimp only
                              rcases kp3 with ⟨a1, a2⟩ | ⟨a1, a2, b, a3, a4, a5⟩
                              · omega
                              · rw [hacs, if_neg (by omega)]
                                exact ⟨by rw [g20]; dsimp only; omega, by dsimp only; omega, Or.inr ⟨Nat.succ_pos _, by rw [g19]; exact a2, b, by omega, by rw [g18]; exact a4, a5⟩⟩)
                           | (refine ih3 (c + 1, σ_77) ⟨by omega, ⟨_, KO_setF P (chF P c), hM6⟩, ?_, e80, hF3.trans hF56.RC⟩ (by dsimp only; omega)
                              have hacs : acc P (c + 1) = acc P c := by rw [acc_s, kpA, if_neg (by omega)]
                              unfold keptC
                              dsimp only
                              rw [hacs, k20, k18, k19]
                              refine ⟨kp1, by omega, ?_⟩
                              rcases kp3 with ⟨a1, a2⟩ | ⟨a1, a2, b, a3, a4, a5⟩
                              · exact Or.inl ⟨a1, a2⟩
                              · exact Or.inr ⟨a1, a2, b, by omega, a4, a5⟩))
                      · first
                        | (exfalso; omega)
                        | (refine gx_iload hx dX9_tellChoices_107 rfl ?_
                           refine gx_aload_n hx dX9_tellChoices_109 rfl ?_
                           refine gx_getI hx flX9_193 dX9_tellChoices_110 (by decide) rfl rfl 19 rfl ?_
                           rw [g19]
                           refine gx_icmp_ge (tgt := 127) hx dX9_tellChoices_113 (by decide) ⟨by omega, by omega⟩ ⟨by omega, by omega⟩ (fun h113 => ?_) (fun h113 => ?_)
                           · first
                             | (exfalso; omega)
                             | (refine gx_iinc hx dX9_tellChoices_127 (Nat.le_of_ble_eq_true rfl) rfl ?_
                                refine gx_goto (tgt := 65) hx dX9_tellChoices_130 (by decide) ?_
                                refine GJ.drop 4 ?_
                                first
                                | (refine ih3 (c + 1, upd2 (upd2 σ_94 70 18 (c : Int)) 70 19 z_94) ⟨by omega, ⟨_, KO_setF P (chF P c), (hM7.same (upd2_other (k := 70) (z := 18) (v := (c : Int)) 71 (by decide))).same (upd2_other (k := 70) (z := 19) (v := z_94) 71 (by decide))⟩, ?_, fun q hq => by dsimp only; rw [upd2_other 80 (by decide), upd2_other 80 (by decide)]; exact e80b q hq, hF3.trans (hF17.trans (FR.trans (FR.updF rfl) (FR.updF rfl)))⟩ (by dsimp only; omega)
                                   have hbest : (acc P c).1 = 0 ∨ tot P (chF P c) < (acc P c).2.1 := by
                                     rcases kp3 with ⟨a1, a2⟩ | ⟨a1, a2, b, a3, a4, a5⟩
                                     · exact Or.inl a1
                                     · right; omega
                                   unfold keptC
                                   dsimp only
                                   rw [hacs, if_pos hbest]
                                   exact ⟨by rw [upd2_z (by decide), upd2_z (by decide), g20]; dsimp only; omega, by dsimp only; omega, Or.inr ⟨Nat.succ_pos _, by rw [upd2_at]; exact e7, c, by omega, by rw [upd2_z (by decide), upd2_at], rfl⟩⟩)
                                | (refine ih3 (c + 1, σ_94) ⟨by omega, ⟨_, KO_setF P (chF P c), hM7⟩, ?_, e80b, hF3.trans hF17⟩ (by dsimp only; omega)
                                   unfold keptC
                                   dsimp only
                                   rcases kp3 with ⟨a1, a2⟩ | ⟨a1, a2, b, a3, a4, a5⟩
                                   · omega
                                   · rw [hacs, if_neg (by omega)]
                                     exact ⟨by rw [g20]; dsimp only; omega, by dsimp only; omega, Or.inr ⟨Nat.succ_pos _, by rw [g19]; exact a2, b, by omega, by rw [g18]; exact a4, a5⟩⟩)
                                | (refine ih3 (c + 1, σ_77) ⟨by omega, ⟨_, KO_setF P (chF P c), hM6⟩, ?_, e80, hF3.trans hF56.RC⟩ (by dsimp only; omega)
                                   have hacs : acc P (c + 1) = acc P c := by rw [acc_s, kpA, if_neg (by omega)]
                                   unfold keptC
                                   dsimp only
                                   rw [hacs, k20, k18, k19]
                                   refine ⟨kp1, by omega, ?_⟩
                                   rcases kp3 with ⟨a1, a2⟩ | ⟨a1, a2, b, a3, a4, a5⟩
                                   · exact Or.inl ⟨a1, a2⟩
                                   · exact Or.inr ⟨a1, a2, b, by omega, a4, a5⟩))
                           · first
                             | (exfalso; omega)
                             | (refine gx_aload_n hx dX9_tellChoices_116 rfl ?_
                                refine gx_iload_n hx dX9_tellChoices_117 rfl ?_
                                refine gx_put hx fpX9_184 dX9_tellChoices_118 (by decide) rfl rfl rfl rfl 18 rfl ?_
                                refine gx_aload_n hx dX9_tellChoices_121 rfl ?_
                                refine gx_iload hx dX9_tellChoices_122 rfl ?_
                                refine gx_put hx fpX9_193 dX9_tellChoices_124 (by decide) rfl rfl rfl rfl 19 rfl ?_
                                refine gx_iinc hx dX9_tellChoices_127 (Nat.le_of_ble_eq_true rfl) rfl ?_
                                refine gx_goto (tgt := 65) hx dX9_tellChoices_130 (by decide) ?_
                                refine GJ.drop 4 ?_
                                first
                                | (refine ih3 (c + 1, upd2 (upd2 σ_94 70 18 (c : Int)) 70 19 z_94) ⟨by omega, ⟨_, KO_setF P (chF P c), (hM7.same (upd2_other (k := 70) (z := 18) (v := (c : Int)) 71 (by decide))).same (upd2_other (k := 70) (z := 19) (v := z_94) 71 (by decide))⟩, ?_, fun q hq => by dsimp only; rw [upd2_other 80 (by decide), upd2_other 80 (by decide)]; exact e80b q hq, hF3.trans (hF17.trans (FR.trans (FR.updF rfl) (FR.updF rfl)))⟩ (by dsimp only; omega)
                                   have hbest : (acc P c).1 = 0 ∨ tot P (chF P c) < (acc P c).2.1 := by
                                     rcases kp3 with ⟨a1, a2⟩ | ⟨a1, a2, b, a3, a4, a5⟩
                                     · exact Or.inl a1
                                     · right; omega
                                   unfold keptC
                                   dsimp only
                                   rw [hacs, if_pos hbest]
                                   exact ⟨by rw [upd2_z (by decide), upd2_z (by decide), g20]; dsimp only; omega, by dsimp only; omega, Or.inr ⟨Nat.succ_pos _, by rw [upd2_at]; exact e7, c, by omega, by rw [upd2_z (by decide), upd2_at], rfl⟩⟩)
                                | (refine ih3 (c + 1, σ_94) ⟨by omega, ⟨_, KO_setF P (chF P c), hM7⟩, ?_, e80b, hF3.trans hF17⟩ (by dsimp only; omega)
                                   unfold keptC
                                   dsimp only
                                   rcases kp3 with ⟨a1, a2⟩ | ⟨a1, a2, b, a3, a4, a5⟩
                                   · omega
                                   · rw [hacs, if_neg (by omega)]
                                     exact ⟨by rw [g20]; dsimp only; omega, by dsimp only; omega, Or.inr ⟨Nat.succ_pos _, by rw [g19]; exact a2, b, by omega, by rw [g18]; exact a4, a5⟩⟩)
                                | (refine ih3 (c + 1, σ_77) ⟨by omega, ⟨_, KO_setF P (chF P c), hM6⟩, ?_, e80, hF3.trans hF56.RC⟩ (by dsimp only; omega)
                                   have hacs : acc P (c + 1) = acc P c := by rw [acc_s, kpA, if_neg (by omega)]
                                   unfold keptC
                                   dsimp only
                                   rw [hacs, k20, k18, k19]
                                   refine ⟨kp1, by omega, ?_⟩
                                   rcases kp3 with ⟨a1, a2⟩ | ⟨a1, a2, b, a3, a4, a5⟩
                                   · exact Or.inl ⟨a1, a2⟩
                                   · exact Or.inr ⟨a1, a2, b, by omega, a4, a5⟩))))))
       · first
         | (exfalso; omega)
         | (refine gx_iload_n hx dX9_tellChoices_43 rfl ?_
            refine gx_iconst hx dX9_tellChoices_44 ?_
            refine gx_imul hx dX9_tellChoices_45 ?_
            refine gx_istore_n hx dX9_tellChoices_46 (Nat.le_of_ble_eq_true rfl) ?_
            refine gx_iinc hx dX9_tellChoices_47 (Nat.le_of_ble_eq_true rfl) rfl ?_
            refine gx_goto (tgt := 38) hx dX9_tellChoices_50 (by decide) ?_
            refine GJ.cong ?_ rfl rfl (ih2 (k + 1) (by omega) (by omega))
            rw [show ((3 ^ (k + 1) : Nat) : Int) = ((3 ^ k : Nat) : Int) * 3 by rw [Nat.pow_succ]; omega]
            rfl))
  · first
    | (exfalso; omega)
    | (refine gx_aload_n hx dX9_tellChoices_12 rfl ?_
       refine gx_getR hx flX9_43 dX9_tellChoices_13 (by decide) rfl rfl ?_
       refine gx_iload_n hx dX9_tellChoices_16 rfl ?_
       refine gx_aload_n hx dX9_tellChoices_17 rfl ?_
       refine gx_iload_n hx dX9_tellChoices_18 rfl ?_
       refine gx_callI hx (c_X9_form (i := i) _ _ (hM.fr hF1 rfl) (by omega)) lkX9_83 mwX9_form dX9_tellChoices_19 (by decide) rfl rfl rfl rfl (Nat.le_of_ble_eq_true rfl) (by decide) ⟨by decide, by decide⟩ (fun z_19 σ_19 hz_19 => ?_)
       obtain ⟨rfl, rfl⟩ := hz_19
       refine gx_iast hx dX9_tellChoices_22 (by decide) rfl (by omega) (by omega) (by decide) ?_
       refine gx_iinc hx dX9_tellChoices_23 (Nat.le_of_ble_eq_true rfl) rfl ?_
       refine gx_goto (tgt := 2) hx dX9_tellChoices_26 (by decide) ?_
       refine ih1 (i + 1, upd2 τ 80 (i : Int) (fm P i : Int)) ⟨by omega, fun q hq => ?_, hF1.trans (FR.upd (by decide) rfl)⟩ (by dsimp only; omega)
       dsimp only at hq ⊢
       by_cases e : q = i
       · subst e
         rw [upd2_at]
       · rw [upd2_z (by omega)]
         exact h80 q (by omega))
set_option maxRecDepth 20000 in
set_option maxHeartbeats 400000 in
theorem c_X9_leastSize (g : Gm) (l : Launch) {σ : Sg} {A : AS} (hR : MR σ A) : KI g l yX9_leastSize cX9_leastSize 2 ((some .int)) (7) 0 0 [.inr 70] σ (MPI (fn (sp_se (fun P => ((resA P).2.1 : Int)) A)) σ) := by
  refine startI (own := RX9) (by decide +kernel) rfl (Nat.le_of_ble_eq_true rfl) ?_
  intro X hx _ _ hret
  obtain ⟨P, hs, sv, T, er⟩ := A
  obtain ⟨hM, hH, hS, hT, he1, he2, he3, hN⟩ := id hR
  obtain ⟨hok, hn, hit⟩ := id hM
  have hl40 := hok.1
  refine gx_aload_n hx dX9_leastSize_0 rfl ?_
  refine gx_callI hx (c_X9_lacksChoices _ _ hM) lkX9_196 mwX9_lacksChoices dX9_leastSize_1 (by decide) rfl rfl rfl rfl (Nat.le_of_ble_eq_true rfl) (by decide) ⟨by decide, by decide⟩ (fun z_1 σ_1 hz_1 => ?_)
  obtain ⟨e9, rfl⟩ := hz_1
  refine gx_istore_n hx dX9_leastSize_4 (Nat.le_of_ble_eq_true rfl) ?_
  refine gx_iload_n hx dX9_leastSize_5 rfl ?_
  refine gx_if_eq (tgt := 15) hx dX9_leastSize_6 (by decide) ⟨by omega, by omega⟩ (fun h6 => ?_) (fun h6 => ?_)
  · first
    | (exfalso; omega)
    | (have hu : udf P = 0 := by omega
       have h8 : nT P ≤ 8 := by omega
       refine gx_aload_n hx dX9_leastSize_15 rfl ?_
       refine gx_callV hx (c_X9_tellChoices _ _ hM hu h8) lkX9_199 mwX9_tellChoices dX9_leastSize_16 (by decide) rfl rfl rfl rfl (Nat.le_of_ble_eq_true rfl) (by decide) ⟨by decide, by decide⟩ (fun σ_16 hz_16 => ?_)
       obtain ⟨hM1, hkp, hF1⟩ := hz_16
       obtain ⟨k20, k2, k3⟩ := hkp
       rw [acc_res] at k20 k3
       have hrp := res_pos (P := P)
       have k19 : σ_16 70 19 = ((resA P).2.1 : Int) := by
         rcases k3 with ⟨a, _⟩ | ⟨_, a, _⟩
         · omega
         · exact a
       refine gx_aload_n hx dX9_leastSize_19 rfl ?_
       refine gx_aload_n hx dX9_leastSize_20 rfl ?_
       refine gx_getI hx flX9_193 dX9_leastSize_21 (by decide) rfl rfl 19 rfl ?_
       rw [k19]
       refine gx_callI hx (c_X9_done _ _) lkX9_90 mwX9_done dX9_leastSize_24 (by decide) rfl rfl rfl rfl (Nat.le_of_ble_eq_true rfl) (by decide) ⟨by decide, by decide⟩ (fun z_24 σ_24 hz_24 => ?_)
       obtain ⟨rfl, rfl⟩ := hz_24
       refine hret _ _ _ _ _ _ _ (by decide) (by decide) dX9_leastSize_27 rfl rfl ?_
       have hH2 := hH.same (hF1.2 3 rfl) (hF1.1 72 (by decide) rfl)
       exact ⟨0, (P, hs, sv, T, er), by show sp_se (fun P => ((resA P).2.1 : Int)) (P, hs, sv, T, er) = _; rw [sp_se, if_neg (fun h9 => h9 hu), if_neg (by omega)], MZ.t (hR.change hM1 hH2 hF1.PC) hF1.PC.PA 0 0 rfl⟩)
  · first
    | (exfalso; omega)
    | (refine gx_aload_n hx dX9_leastSize_9 rfl ?_
       refine gx_iload_n hx dX9_leastSize_10 rfl ?_
       refine gx_callI hx (c_X9_fails _ _) lkX9_93 mwX9_fails dX9_leastSize_11 (by decide) rfl rfl rfl rfl (Nat.le_of_ble_eq_true rfl) (by decide) ⟨by decide, by decide⟩ (fun z_11 σ_11 hz_11 => ?_)
       obtain ⟨rfl, rfl⟩ := hz_11
       refine hret _ _ _ _ _ _ _ (by decide) (by decide) dX9_leastSize_14 rfl rfl ?_
       rcases e9 with ⟨a, b⟩ | ⟨a, b, d⟩ | ⟨a, b, d⟩
       · exact ⟨1, (P, hs, sv, T, er), by show sp_se (fun P => ((resA P).2.1 : Int)) (P, hs, sv, T, er) = _; rw [sp_se, if_pos b], MZ.q hR FR.refl 1 _ (by omega)⟩
       · exact ⟨2, (P, hs, sv, T, er), by show sp_se (fun P => ((resA P).2.1 : Int)) (P, hs, sv, T, er) = _; rw [sp_se, if_neg (fun h9 => h9 b), if_pos d], MZ.q hR FR.refl 2 _ (by omega)⟩
       · omega)
set_option maxRecDepth 20000 in
set_option maxHeartbeats 400000 in
theorem c_X9_consistentChoices (g : Gm) (l : Launch) {σ : Sg} {A : AS} (hR : MR σ A) : KI g l yX9_consistentChoices cX9_consistentChoices 2 ((some .int)) (7) 0 0 [.inr 70] σ (MPI (fn (sp_se (fun P => ((resA P).1 : Int)) A)) σ) := by
  refine startI (own := RX9) (by decide +kernel) rfl (Nat.le_of_ble_eq_true rfl) ?_
  intro X hx _ _ hret
  obtain ⟨P, hs, sv, T, er⟩ := A
  obtain ⟨hM, hH, hS, hT, he1, he2, he3, hN⟩ := id hR
  obtain ⟨hok, hn, hit⟩ := id hM
  have hl40 := hok.1
  refine gx_aload_n hx dX9_consistentChoices_0 rfl ?_
  refine gx_callI hx (c_X9_lacksChoices _ _ hM) lkX9_196 mwX9_lacksChoices dX9_consistentChoices_1 (by decide) rfl rfl rfl rfl (Nat.le_of_ble_eq_true rfl) (by decide) ⟨by decide, by decide⟩ (fun z_1 σ_1 hz_1 => ?_)
  obtain ⟨e9, rfl⟩ := hz_1
  refine gx_istore_n hx dX9_consistentChoices_4 (Nat.le_of_ble_eq_true rfl) ?_
  refine gx_iload_n hx dX9_consistentChoices_5 rfl ?_
  refine gx_if_eq (tgt := 15) hx dX9_consistentChoices_6 (by decide) ⟨by omega, by omega⟩ (fun h6 => ?_) (fun h6 => ?_)
  · first
    | (exfalso; omega)
    | (have hu : udf P = 0 := by omega
       have h8 : nT P ≤ 8 := by omega
       refine gx_aload_n hx dX9_consistentChoices_15 rfl ?_
       refine gx_callV hx (c_X9_tellChoices _ _ hM hu h8) lkX9_199 mwX9_tellChoices dX9_consistentChoices_16 (by decide) rfl rfl rfl rfl (Nat.le_of_ble_eq_true rfl) (by decide) ⟨by decide, by decide⟩ (fun σ_16 hz_16 => ?_)
       obtain ⟨hM1, hkp, hF1⟩ := hz_16
       obtain ⟨k20, k2, k3⟩ := hkp
       rw [acc_res] at k20 k3
       have hrp := res_pos (P := P)
       have k19 : σ_16 70 19 = ((resA P).2.1 : Int) := by
         rcases k3 with ⟨a, _⟩ | ⟨_, a, _⟩
         · omega
         · exact a
       refine gx_aload_n hx dX9_consistentChoices_19 rfl ?_
       refine gx_aload_n hx dX9_consistentChoices_20 rfl ?_
       refine gx_getI hx flX9_187 dX9_consistentChoices_21 (by decide) rfl rfl 20 rfl ?_
       rw [k20]
       refine gx_callI hx (c_X9_done _ _) lkX9_90 mwX9_done dX9_consistentChoices_24 (by decide) rfl rfl rfl rfl (Nat.le_of_ble_eq_true rfl) (by decide) ⟨by decide, by decide⟩ (fun z_24 σ_24 hz_24 => ?_)
       obtain ⟨rfl, rfl⟩ := hz_24
       refine hret _ _ _ _ _ _ _ (by decide) (by decide) dX9_consistentChoices_27 rfl rfl ?_
       have hH2 := hH.same (hF1.2 3 rfl) (hF1.1 72 (by decide) rfl)
       exact ⟨0, (P, hs, sv, T, er), by show sp_se (fun P => ((resA P).1 : Int)) (P, hs, sv, T, er) = _; rw [sp_se, if_neg (fun h9 => h9 hu), if_neg (by omega)], MZ.t (hR.change hM1 hH2 hF1.PC) hF1.PC.PA 0 0 rfl⟩)
  · first
    | (exfalso; omega)
    | (refine gx_aload_n hx dX9_consistentChoices_9 rfl ?_
       refine gx_iload_n hx dX9_consistentChoices_10 rfl ?_
       refine gx_callI hx (c_X9_fails _ _) lkX9_93 mwX9_fails dX9_consistentChoices_11 (by decide) rfl rfl rfl rfl (Nat.le_of_ble_eq_true rfl) (by decide) ⟨by decide, by decide⟩ (fun z_11 σ_11 hz_11 => ?_)
       obtain ⟨rfl, rfl⟩ := hz_11
       refine hret _ _ _ _ _ _ _ (by decide) (by decide) dX9_consistentChoices_14 rfl rfl ?_
       rcases e9 with ⟨a, b⟩ | ⟨a, b, d⟩ | ⟨a, b, d⟩
       · exact ⟨1, (P, hs, sv, T, er), by show sp_se (fun P => ((resA P).1 : Int)) (P, hs, sv, T, er) = _; rw [sp_se, if_pos b], MZ.q hR FR.refl 1 _ (by omega)⟩
       · exact ⟨2, (P, hs, sv, T, er), by show sp_se (fun P => ((resA P).1 : Int)) (P, hs, sv, T, er) = _; rw [sp_se, if_neg (fun h9 => h9 b), if_pos d], MZ.q hR FR.refl 2 _ (by omega)⟩
       · omega)
set_option maxRecDepth 20000 in
set_option maxHeartbeats 400000 in
theorem c_X9_optimize (g : Gm) (l : Launch) {σ : Sg} {A : AS} (hR : MR σ A) : KI g l yX9_optimize cX9_optimize 2 ((some .int)) (7) 0 0 [.inr 70] σ (MPI (fn (sp_optimize A)) σ) := by
  refine startI (own := RX9) (by decide +kernel) rfl (Nat.le_of_ble_eq_true rfl) ?_
  intro X hx _ _ hret
  obtain ⟨P, hs, sv, T, er⟩ := A
  obtain ⟨hM, hH, hS, hT, he1, he2, he3, hN⟩ := id hR
  obtain ⟨hok, hn, hit⟩ := id hM
  have hl40 := hok.1
  refine gx_aload_n hx dX9_optimize_0 rfl ?_
  refine gx_callI hx (c_X9_lacksChoices _ _ hM) lkX9_196 mwX9_lacksChoices dX9_optimize_1 (by decide) rfl rfl rfl rfl (Nat.le_of_ble_eq_true rfl) (by decide) ⟨by decide, by decide⟩ (fun z_1 σ_1 hz_1 => ?_)
  obtain ⟨e9, rfl⟩ := hz_1
  refine gx_istore_n hx dX9_optimize_4 (Nat.le_of_ble_eq_true rfl) ?_
  refine gx_iload_n hx dX9_optimize_5 rfl ?_
  refine gx_if_eq (tgt := 15) hx dX9_optimize_6 (by decide) ⟨by omega, by omega⟩ (fun h6 => ?_) (fun h6 => ?_)
  · first
    | (exfalso; omega)
    | (have hu : udf P = 0 := by omega
       have h8 : nT P ≤ 8 := by omega
       refine gx_aload_n hx dX9_optimize_15 rfl ?_
       refine gx_callV hx (c_X9_remembers _ _ hM hH) lkX9_131 mwX9_remembers dX9_optimize_16 (by decide) rfl rfl rfl rfl (Nat.le_of_ble_eq_true rfl) (by decide) ⟨by decide, by decide⟩ (fun σ_16 hz_16 => ?_)
       obtain ⟨hH0, hF0⟩ := hz_16
       have hM0 := hM.fr hF0 rfl
       refine gx_aload_n hx dX9_optimize_19 rfl ?_
       refine gx_callV hx (c_X9_tellChoices _ _ hM0 hu h8) lkX9_199 mwX9_tellChoices dX9_optimize_20 (by decide) rfl rfl rfl rfl (Nat.le_of_ble_eq_true rfl) (by decide) ⟨by decide, by decide⟩ (fun σ_20 hz_20 => ?_)
       obtain ⟨hM1, hkp, hF1⟩ := hz_20
       obtain ⟨k20, k2, k3⟩ := hkp
       rw [acc_res] at k20 k3
       have hrp := res_pos (P := P)
       have hp3 := pow3 h8
       obtain ⟨k19, b, hb1, hb2, hb3⟩ : σ_20 70 19 = ((resA P).2.1 : Int) ∧ ∃ b : Nat, b < 3 ^ nT P ∧ σ_20 70 18 = (b : Int) ∧ (resA P).2.2 = chF P b := by
         rcases k3 with ⟨a, _⟩ | ⟨_, a⟩
         · omega
         · exact a
       refine gx_aload_n hx dX9_optimize_23 rfl ?_
       refine gx_aload_n hx dX9_optimize_24 rfl ?_
       refine gx_getI hx flX9_184 dX9_optimize_25 (by decide) rfl rfl 18 rfl ?_
       rw [hb2]
       refine gx_aload_n hx dX9_optimize_28 rfl ?_
       refine gx_callI hx (c_X9_transfers _ _ hM1) lkX9_156 mwX9_transfers dX9_optimize_29 (by decide) rfl rfl rfl rfl (Nat.le_of_ble_eq_true rfl) (by decide) ⟨by decide, by decide⟩ (fun z_29 σ_29 hz_29 => ?_)
       obtain ⟨rfl, rfl⟩ := hz_29
       refine gx_callV hx (c_X9_chooses (P := P) (c := b) _ _ hM1 (by omega)) lkX9_190 mwX9_chooses dX9_optimize_32 (by decide) rfl rfl rfl rfl (Nat.le_of_ble_eq_true rfl) (by decide) ⟨by decide, by decide⟩ (fun σ_32 hz_32 => ?_)
       obtain ⟨hM2, hF2⟩ := hz_32
       refine gx_aload_n hx dX9_optimize_35 rfl ?_
       refine gx_aload_n hx dX9_optimize_36 rfl ?_
       refine gx_getI hx flX9_193 dX9_optimize_37 (by decide) rfl rfl 19 rfl ?_
       rw [hF2.2 19 rfl, k19]
       refine gx_callI hx (c_X9_done _ _) lkX9_90 mwX9_done dX9_optimize_40 (by decide) rfl rfl rfl rfl (Nat.le_of_ble_eq_true rfl) (by decide) ⟨by decide, by decide⟩ (fun z_40 σ_40 hz_40 => ?_)
       obtain ⟨rfl, rfl⟩ := hz_40
       refine hret _ _ _ _ _ _ _ (by decide) (by decide) dX9_optimize_43 rfl rfl ?_
       have hF12 : FR σ_16 σ_32 cR fC := hF1.trans hF2.R71.RC
       have hH2 := hH0.same (hF12.2 3 rfl) (hF12.1 72 (by decide) rfl)
       have hF : FR σ σ_32 cP fP := hF0.P72.trans hF12.PC
       exact ⟨0, (setF P (resA P).2.2, psh P hs, sv, T, er), by show sp_optimize (P, hs, sv, T, er) = _; rw [sp_optimize, if_neg (fun h9 => h9 hu), if_neg (by omega)], MZ.t (hR.change (by rw [hb3]; exact hM2) hH2 hF) hF.PA 0 0 rfl⟩)
  · first
    | (exfalso; omega)
    | (refine gx_aload_n hx dX9_optimize_9 rfl ?_
       refine gx_iload_n hx dX9_optimize_10 rfl ?_
       refine gx_callI hx (c_X9_fails _ _) lkX9_93 mwX9_fails dX9_optimize_11 (by decide) rfl rfl rfl rfl (Nat.le_of_ble_eq_true rfl) (by decide) ⟨by decide, by decide⟩ (fun z_11 σ_11 hz_11 => ?_)
       obtain ⟨rfl, rfl⟩ := hz_11
       refine hret _ _ _ _ _ _ _ (by decide) (by decide) dX9_optimize_14 rfl rfl ?_
       rcases e9 with ⟨a, b⟩ | ⟨a, b, d⟩ | ⟨a, b, d⟩
       · exact ⟨1, (P, hs, sv, T, er), by show sp_optimize (P, hs, sv, T, er) = _; rw [sp_optimize, if_pos b], MZ.q hR FR.refl 1 _ (by omega)⟩
       · exact ⟨2, (P, hs, sv, T, er), by show sp_optimize (P, hs, sv, T, er) = _; rw [sp_optimize, if_neg (fun h9 => h9 b), if_pos d], MZ.q hR FR.refl 2 _ (by omega)⟩
       · omega)
