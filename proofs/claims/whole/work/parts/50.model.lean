/-! The reference: taking back, saving, reading, inserting -/
set_option maxRecDepth 20000 in
set_option maxHeartbeats 400000 in
theorem c_X9_undo (g : Gm) (l : Launch) {σ : Sg} {A : AS} (hR : MR σ A) : KI g l yX9_undo cX9_undo 2 ((some .int)) (1) 0 0 [.inr 70] σ (MPI (fn (sp_undo A)) σ) := by
  refine startI (own := RX9) (by decide +kernel) rfl (Nat.le_of_ble_eq_true rfl) ?_
  intro X hx _ _ hret
  obtain ⟨P, hs, sv, T, er⟩ := A
  obtain ⟨hM, hH, hS, hT, he1, he2, he3, hN⟩ := id hR
  obtain ⟨hok, hn, hit⟩ := id hM
  have hl40 := hok.1
  obtain ⟨hh1, hh2, hh3⟩ := id hH
  refine gx_aload_n hx dX9_undo_0 rfl ?_
  refine gx_getI hx flX9_57 dX9_undo_1 (by decide) rfl rfl 3 rfl ?_
  rw [hh2]
  refine gx_if_ne (tgt := 13) hx dX9_undo_4 (by decide) ⟨by omega, by omega⟩ (fun h4 => ?_) (fun h4 => ?_)
  · first
    | (exfalso; omega)
    | (obtain ⟨Q9, r9, rfl⟩ : ∃ Q r, hs = Q :: r := by
         cases hs with
         | nil => simp at h4
         | cons Q r => exact ⟨Q, r, rfl⟩
       have hrl : ((Q9 :: r9).length : Int) = (r9.length : Int) + 1 := by simp
       rw [hrl] at hh2
       refine gx_aload_n hx dX9_undo_13 rfl ?_
       refine gx_dup hx dX9_undo_14 ?_
       refine gx_getI hx flX9_57 dX9_undo_15 (by decide) rfl rfl 3 rfl ?_
       rw [hh2]
       refine gx_iconst hx dX9_undo_18 ?_
       refine gx_isub hx dX9_undo_19 ?_
       refine gx_put hx fpX9_57 dX9_undo_20 (by decide) rfl rfl rfl rfl 3 rfl ?_
       obtain ⟨τ, hτ⟩ : ∃ τ, τ = upd2 σ 70 3 ((r9.length : Int) + 1 - 1) := ⟨_, rfl⟩
       rw [← hτ]
       have h70 : τ 70 3 = (r9.length : Int) := by rw [hτ, upd2_at]; omega
       have h72 : τ 72 = σ 72 := by rw [hτ]; exact upd2_other 72 (by decide)
       refine gx_iconst hx dX9_undo_23 ?_
       refine gx_istore_n hx dX9_undo_24 (Nat.le_of_ble_eq_true rfl) ?_
       refine GJ.cong rfl rfl (cpS_0 τ 72 (121 * (r9.length : Int)) 71 0) ?_
       refine gx_loop (α := Nat) (fun k => k ≤ 121) (fun k => 121 - k) (fun k => [some (.inr 70), some (.inl (k : Int))]) (fun _ => []) (fun k => cpS τ 72 (121 * (r9.length : Int)) 71 0 k) ?_ 0 (Nat.zero_le _)
       intro k hk ihk
       refine gx_iload_n hx dX9_undo_25 rfl ?_
       refine gx_bipush hx dX9_undo_26 (by decide) ?_
       refine gx_icmp_ge (tgt := 57) hx dX9_undo_28 (by decide) ⟨by omega, by omega⟩ ⟨by omega, by omega⟩ (fun h28 => ?_) (fun h28 => ?_)
       · first
         | (exfalso; omega)
         | (refine gx_aload_n hx dX9_undo_57 rfl ?_
            refine gx_aload_n hx dX9_undo_58 rfl ?_
            refine gx_getI hx flX9_57 dX9_undo_59 (by decide) rfl rfl 3 rfl ?_
            rw [show cpS τ 72 (121 * (r9.length : Int)) 71 0 k 70 3 = (r9.length : Int) from ((cpS_FR (c := cA) (f := fN) (by decide) rfl).2 3 rfl).trans h70]
            refine gx_callI hx (c_X9_done _ _) lkX9_90 mwX9_done dX9_undo_62 (by decide) rfl rfl rfl rfl (Nat.le_of_ble_eq_true rfl) (by decide) ⟨by decide, by decide⟩ (fun z_62 σ_62 hz_62 => ?_)
            obtain ⟨rfl, rfl⟩ := hz_62
            refine hret _ _ _ _ _ _ _ (by decide) (by decide) dX9_undo_65 rfl rfl ?_
            have ek : k = 121 := by omega
            subst ek
            have hF : FR σ (cpS τ 72 (121 * (r9.length : Int)) 71 0 121) cP fP := by
              refine FR.trans (τ := τ) ?_ (cpS_FR (by decide) rfl)
              rw [hτ]
              exact FR.updF rfl
            have hM1 : MP (cpS τ 72 (121 * (r9.length : Int)) 71 0 121) Q9 := by
              refine MP_QR.mpr (cpS_QR ?_)
              refine (hh3 0 Q9 rfl).move (fun q a b => ?_)
              rw [h72]
              exact cg σ rfl (by rw [hrl]; omega)
            have hH1 : MH (cpS τ 72 (121 * (r9.length : Int)) 71 0 121) r9 := by
              simp only [List.length_cons] at hh1
              refine ⟨by omega, ((cpS_FR (c := cA) (f := fN) (by decide) rfl).2 3 rfl).trans h70, fun t Q hQ => ?_⟩
              refine (hh3 (t + 1) Q (by rw [List.getElem?_cons_succ]; exact hQ)).move (fun q a b => ?_)
              rw [show cpS τ 72 (121 * (r9.length : Int)) 71 0 121 72 = σ 72 from ((cpS_FR (c := c71) (f := fN) (by decide) rfl).1 72 (by decide) rfl).trans h72]
              exact cg σ rfl (by rw [hrl]; omega)
            exact ⟨0, (Q9, r9, sv, T, er), rfl, MZ.t (hR.change hM1 hH1 hF) hF.PA 0 0 rfl⟩)
       · first
         | (exfalso; omega)
         | (refine gx_aload_n hx dX9_undo_31 rfl ?_
            refine gx_getR hx flX9_7 dX9_undo_32 (by decide) rfl rfl ?_
            refine gx_iload_n hx dX9_undo_35 rfl ?_
            refine gx_aload_n hx dX9_undo_36 rfl ?_
            refine gx_getR hx flX9_13 dX9_undo_37 (by decide) rfl rfl ?_
            refine gx_bipush hx dX9_undo_40 (by decide) ?_
            refine gx_aload_n hx dX9_undo_42 rfl ?_
            refine gx_getI hx flX9_57 dX9_undo_43 (by decide) rfl rfl 3 rfl ?_
            rw [show cpS τ 72 (121 * (r9.length : Int)) 71 0 k 70 3 = (r9.length : Int) from ((cpS_FR (c := cA) (f := fN) (by decide) rfl).2 3 rfl).trans h70]
            refine gx_imul hx dX9_undo_46 ?_
            refine gx_iload_n hx dX9_undo_47 rfl ?_
            refine gx_iadd hx dX9_undo_48 ?_
            refine gx_iald hx dX9_undo_49 (by decide) rfl (by omega) (by omega) (by decide) ?_
            refine gx_iast hx dX9_undo_50 (by decide) rfl (by omega) (by omega) (by decide) ?_
            refine gx_iinc hx dX9_undo_51 (Nat.le_of_ble_eq_true rfl) rfl ?_
            refine gx_goto (tgt := 25) hx dX9_undo_54 (by decide) ?_
            refine GJ.cong rfl rfl (cpS_step (by omega) (by omega) (by omega)) (ihk (k + 1) (by omega) (by omega))))
  · first
    | (exfalso; omega)
    | (refine gx_aload_n hx dX9_undo_7 rfl ?_
       refine gx_iconst hx dX9_undo_8 ?_
       refine gx_callI hx (c_X9_fails _ _) lkX9_93 mwX9_fails dX9_undo_9 (by decide) rfl rfl rfl rfl (Nat.le_of_ble_eq_true rfl) (by decide) ⟨by decide, by decide⟩ (fun z_9 σ_9 hz_9 => ?_)
       obtain ⟨rfl, rfl⟩ := hz_9
       refine hret _ _ _ _ _ _ _ (by decide) (by decide) dX9_undo_12 rfl rfl ?_
       have h0 : hs = [] := List.length_eq_zero_iff.mp (by omega)
       subst h0
       exact ⟨1, (P, [], sv, T, er), rfl, MZ.q hR FR.refl 1 1 rfl⟩)
set_option maxRecDepth 20000 in
set_option maxHeartbeats 400000 in
theorem c_X9_save (g : Gm) (l : Launch) {σ : Sg} {A : AS} (hR : MR σ A) : KI g l yX9_save cX9_save 2 ((some .int)) (1) 0 0 [.inr 70] σ (MPI (fn (sp_save A)) σ) := by
  refine startI (own := RX9) (by decide +kernel) rfl (Nat.le_of_ble_eq_true rfl) ?_
  intro X hx _ _ hret
  obtain ⟨P, hs, sv, T, er⟩ := A
  obtain ⟨hM, hH, hS, hT, he1, he2, he3, hN⟩ := id hR
  obtain ⟨hok, hn, hit⟩ := id hM
  have hl40 := hok.1
  refine gx_aload_n hx dX9_save_0 rfl ?_
  refine gx_iconst hx dX9_save_1 ?_
  refine gx_put hx fpX9_217 dX9_save_2 (by decide) rfl rfl rfl rfl 5 rfl ?_
  obtain ⟨τ, hτ⟩ : ∃ τ, τ = upd2 σ 70 5 1 := ⟨_, rfl⟩
  rw [← hτ]
  have hMt : MP τ P := by rw [hτ]; exact hM.same (upd2_other 71 (by decide))
  refine gx_iconst hx dX9_save_5 ?_
  refine gx_istore_n hx dX9_save_6 (Nat.le_of_ble_eq_true rfl) ?_
  refine GJ.cong rfl rfl (cpS_0 τ 71 0 73 0) ?_
  refine gx_loop (α := Nat) (fun k => k ≤ 121) (fun k => 121 - k) (fun k => [some (.inr 70), some (.inl (k : Int))]) (fun _ => []) (fun k => cpS τ 71 0 73 0 k) ?_ 0 (Nat.zero_le _)
  intro k hk ihk
  refine gx_iload_n hx dX9_save_7 rfl ?_
  refine gx_bipush hx dX9_save_8 (by decide) ?_
  refine gx_icmp_ge (tgt := 31) hx dX9_save_10 (by decide) ⟨by omega, by omega⟩ ⟨by omega, by omega⟩ (fun h10 => ?_) (fun h10 => ?_)
  · first
    | (exfalso; omega)
    | (refine gx_aload_n hx dX9_save_31 rfl ?_
       refine gx_aload_n hx dX9_save_32 rfl ?_
       refine gx_getR hx flX9_7 dX9_save_33 (by decide) rfl rfl ?_
       refine gx_iconst hx dX9_save_36 ?_
       refine gx_iald hx dX9_save_37 (by decide) rfl (by omega) (by omega) (by decide) ?_
       rw [show cpS τ 71 0 73 0 k 71 0 = (P.length : Int) by rw [(cpS_FR (c := fun k => k == 73) (f := fN) (by decide) rfl).1 71 (by decide) rfl]; exact hMt.2.1]
       refine gx_callI hx (c_X9_done _ _) lkX9_90 mwX9_done dX9_save_38 (by decide) rfl rfl rfl rfl (Nat.le_of_ble_eq_true rfl) (by decide) ⟨by decide, by decide⟩ (fun z_38 σ_38 hz_38 => ?_)
       obtain ⟨rfl, rfl⟩ := hz_38
       refine hret _ _ _ _ _ _ _ (by decide) (by decide) dX9_save_41 rfl rfl ?_
       have ek : k = 121 := by omega
       subst ek
       have hF1 : FR τ (cpS τ 71 0 73 0 121) (fun k => k == 73) fN := cpS_FR (by decide) rfl
       have hc : ∀ k, k ≠ 70 → k ≠ 73 → cpS τ 71 0 73 0 121 k = σ k := fun k h1 h2 => by
         rw [hF1.1 k h1 (by simpa using h2), hτ]
         exact upd2_other k h1
       have hz : ∀ z, z ≠ 5 → cpS τ 71 0 73 0 121 70 z = σ 70 z := fun z h1 => by
         rw [hF1.2 z rfl, hτ]
         exact upd2_z h1
       have hR1 : MR (cpS τ 71 0 73 0 121) (P, hs, some P, T, er) := ⟨hM.same (hc 71 (by decide) (by decide)), hH.same (hz 3 (by decide)) (hc 72 (by decide) (by decide)), Or.inr ⟨P, rfl, by rw [hF1.2 5 rfl, hτ, upd2_at], cpS_QR (MP_QR.mp hMt)⟩, hT.same (hz 7 (by decide)) (hc 74 (by decide) (by decide)), by rw [hz 8 (by decide)]; exact he1, he2, he3, hN.same (hc 77 (by decide) (by decide))⟩
       have hF : FR σ (cpS τ 71 0 73 0 121) cA fA := by
         refine FR.trans (τ := τ) ?_ (cpS_FR (by decide) rfl)
         rw [hτ]
         exact FR.updF rfl
       exact ⟨0, (P, hs, some P, T, er), rfl, MZ.t hR1 hF 0 0 rfl⟩)
  · first
    | (exfalso; omega)
    | (refine gx_aload_n hx dX9_save_13 rfl ?_
       refine gx_getR hx flX9_16 dX9_save_14 (by decide) rfl rfl ?_
       refine gx_iload_n hx dX9_save_17 rfl ?_
       refine gx_aload_n hx dX9_save_18 rfl ?_
       refine gx_getR hx flX9_7 dX9_save_19 (by decide) rfl rfl ?_
       refine gx_iload_n hx dX9_save_22 rfl ?_
       refine gx_iald hx dX9_save_23 (by decide) rfl (by omega) (by omega) (by decide) ?_
       refine gx_iast hx dX9_save_24 (by decide) rfl (by omega) (by omega) (by decide) ?_
       refine gx_iinc hx dX9_save_25 (Nat.le_of_ble_eq_true rfl) rfl ?_
       refine gx_goto (tgt := 7) hx dX9_save_28 (by decide) ?_
       refine GJ.cong rfl rfl (cpS_step (by omega) (by omega) (by omega)) (ihk (k + 1) (by omega) (by omega)))
set_option maxRecDepth 20000 in
set_option maxHeartbeats 400000 in
theorem c_X9_restore (g : Gm) (l : Launch) {σ : Sg} {A : AS} (hR : MR σ A) : KI g l yX9_restore cX9_restore 2 ((some .int)) (1) 0 0 [.inr 70] σ (MPI (fn (sp_restore A)) σ) := by
  refine startI (own := RX9) (by decide +kernel) rfl (Nat.le_of_ble_eq_true rfl) ?_
  intro X hx _ _ hret
  obtain ⟨P, hs, sv, T, er⟩ := A
  obtain ⟨hM, hH, hS, hT, he1, he2, he3, hN⟩ := id hR
  obtain ⟨hok, hn, hit⟩ := id hM
  have hl40 := hok.1
  refine gx_aload_n hx dX9_restore_0 rfl ?_
  refine gx_getI hx flX9_217 dX9_restore_1 (by decide) rfl rfl 5 rfl ?_
  have hS9 : σ 70 5 = 0 ∨ σ 70 5 = 1 := by
    rcases hS with ⟨_, h⟩ | ⟨_, _, h, _⟩
    · exact Or.inl h
    · exact Or.inr h
  refine gx_if_ne (tgt := 13) hx dX9_restore_4 (by decide) ⟨by omega, by omega⟩ (fun h4 => ?_) (fun h4 => ?_)
  · first
    | (exfalso; omega)
    | (obtain ⟨Q9, rfl, hq9, hPQ⟩ : ∃ Q, sv = some Q ∧ σ 70 5 = 1 ∧ QR σ 73 0 Q := by
         rcases hS with ⟨_, h⟩ | h
         · omega
         · exact h
       have hMk : ∀ k : Nat, k = 121 → MP (cpS σ 73 0 71 0 k) Q9 := fun k hk => by
         subst hk
         exact MP_QR.mpr (cpS_QR hPQ)
       refine gx_iconst hx dX9_restore_13 ?_
       refine gx_istore_n hx dX9_restore_14 (Nat.le_of_ble_eq_true rfl) ?_
       refine GJ.cong rfl rfl (cpS_0 σ 73 0 71 0) ?_
       refine gx_loop (α := Nat) (fun k => k ≤ 121) (fun k => 121 - k) (fun k => [some (.inr 70), some (.inl (k : Int))]) (fun _ => []) (fun k => cpS σ 73 0 71 0 k) ?_ 0 (Nat.zero_le _)
       intro k hk ihk
       refine gx_iload_n hx dX9_restore_15 rfl ?_
       refine gx_bipush hx dX9_restore_16 (by decide) ?_
       refine gx_icmp_ge (tgt := 39) hx dX9_restore_18 (by decide) ⟨by omega, by omega⟩ ⟨by omega, by omega⟩ (fun h18 => ?_) (fun h18 => ?_)
       · first
         | (exfalso; omega)
         | (refine gx_aload_n hx dX9_restore_39 rfl ?_
            refine gx_iconst hx dX9_restore_40 ?_
            refine gx_put hx fpX9_57 dX9_restore_41 (by decide) rfl rfl rfl rfl 3 rfl ?_
            refine gx_aload_n hx dX9_restore_44 rfl ?_
            refine gx_aload_n hx dX9_restore_45 rfl ?_
            refine gx_getR hx flX9_7 dX9_restore_46 (by decide) rfl rfl ?_
            refine gx_iconst hx dX9_restore_49 ?_
            refine gx_iald hx dX9_restore_50 (by decide) rfl (by omega) (by omega) (by decide) ?_
            rw [upd2_c (by decide), (hMk k (by omega)).2.1]
            refine gx_callI hx (c_X9_done _ _) lkX9_90 mwX9_done dX9_restore_51 (by decide) rfl rfl rfl rfl (Nat.le_of_ble_eq_true rfl) (by decide) ⟨by decide, by decide⟩ (fun z_51 σ_51 hz_51 => ?_)
            obtain ⟨rfl, rfl⟩ := hz_51
            refine hret _ _ _ _ _ _ _ (by decide) (by decide) dX9_restore_54 rfl rfl ?_
            have ek : k = 121 := by omega
            subst ek
            have hF : FR σ (upd2 (cpS σ 73 0 71 0 121) 70 3 0) cP fP := FR.trans (cpS_FR (by decide) rfl) (FR.updF rfl)
            have hM1 : MP (upd2 (cpS σ 73 0 71 0 121) 70 3 0) Q9 := (hMk 121 rfl).same (upd2_other 71 (by decide))
            have hH1 : MH (upd2 (cpS σ 73 0 71 0 121) 70 3 0) [] := ⟨by decide, by rw [upd2_at]; rfl, fun t Q hQ => by simp at hQ⟩
            exact ⟨0, (Q9, [], some Q9, T, er), rfl, MZ.t (hR.change hM1 hH1 hF) hF.PA 0 0 rfl⟩)
       · first
         | (exfalso; omega)
         | (refine gx_aload_n hx dX9_restore_21 rfl ?_
            refine gx_getR hx flX9_7 dX9_restore_22 (by decide) rfl rfl ?_
            refine gx_iload_n hx dX9_restore_25 rfl ?_
            refine gx_aload_n hx dX9_restore_26 rfl ?_
            refine gx_getR hx flX9_16 dX9_restore_27 (by decide) rfl rfl ?_
            refine gx_iload_n hx dX9_restore_30 rfl ?_
            refine gx_iald hx dX9_restore_31 (by decide) rfl (by omega) (by omega) (by decide) ?_
            refine gx_iast hx dX9_restore_32 (by decide) rfl (by omega) (by omega) (by decide) ?_
            refine gx_iinc hx dX9_restore_33 (Nat.le_of_ble_eq_true rfl) rfl ?_
            refine gx_goto (tgt := 15) hx dX9_restore_36 (by decide) ?_
            refine GJ.cong rfl rfl (cpS_step (by omega) (by omega) (by omega)) (ihk (k + 1) (by omega) (by omega))))
  · first
    | (exfalso; omega)
    | (refine gx_aload_n hx dX9_restore_7 rfl ?_
       refine gx_iconst hx dX9_restore_8 ?_
       refine gx_callI hx (c_X9_fails _ _) lkX9_93 mwX9_fails dX9_restore_9 (by decide) rfl rfl rfl rfl (Nat.le_of_ble_eq_true rfl) (by decide) ⟨by decide, by decide⟩ (fun z_9 σ_9 hz_9 => ?_)
       obtain ⟨rfl, rfl⟩ := hz_9
       refine hret _ _ _ _ _ _ _ (by decide) (by decide) dX9_restore_12 rfl rfl ?_
       have h0 : sv = none := by
         rcases hS with ⟨h, _⟩ | ⟨_, _, h, _⟩
         · exact h
         · omega
       subst h0
       exact ⟨1, (P, hs, none, T, er), rfl, MZ.q hR FR.refl 1 1 rfl⟩)
set_option maxRecDepth 20000 in
set_option maxHeartbeats 400000 in
theorem c_X9_isFigure (g : Gm) (l : Launch) {σ : Sg} {T : List Nat} {i : Nat} (hT : MT σ T) (hi : i ≤ 13) : KI g l yX9_isFigure cX9_isFigure 2 ((some .boolean)) (1) 0 0 [.inr 70, .inl (i : Int)] σ (fun r σ' => r = (if i < T.length ∧ 48 ≤ ch T i ∧ ch T i ≤ 57 then 1 else 0) ∧ σ = σ') := by
  refine startI (own := RX9) (by decide +kernel) rfl (Nat.le_of_ble_eq_true rfl) ?_
  intro X hx _ _ hret
  obtain ⟨ht1, ht2, ht3⟩ := id hT
  refine gx_iload_n hx dX9_isFigure_0 rfl ?_
  refine gx_aload_n hx dX9_isFigure_1 rfl ?_
  refine gx_getI hx flX9_96 dX9_isFigure_2 (by decide) rfl rfl 7 rfl ?_
  rw [ht2]
  refine gx_icmp_ge (tgt := 28) hx dX9_isFigure_5 (by decide) ⟨by omega, by omega⟩ ⟨by omega, by omega⟩ (fun h5 => ?_) (fun h5 => ?_)
  · first
    | (exfalso; omega)
    | (refine gx_iconst hx dX9_isFigure_28 ?_
       refine hret _ _ _ _ _ _ _ (by decide) (by decide) dX9_isFigure_29 rfl rfl ?_
       exact ⟨by first | rw [if_pos (by omega)] | rw [if_neg (by omega)], rfl⟩)
  · first
    | (exfalso; omega)
    | (refine gx_aload_n hx dX9_isFigure_8 rfl ?_
       refine gx_getR hx flX9_19 dX9_isFigure_9 (by decide) rfl rfl ?_
       refine gx_iload_n hx dX9_isFigure_12 rfl ?_
       refine gx_cald hx dX9_isFigure_13 (by decide) rfl (by omega) (by omega) (by decide) ?_
       have hci := ht3 i (by omega)
       rw [hci.1]
       refine gx_bipush hx dX9_isFigure_14 (by decide) ?_
       refine gx_bipush hx dX9_isFigure_16 (by decide) ?_
       refine gx_callS hx (c_X9_in (v := (ch T i : Int)) (lo := 48) (hi := 57) _ _ ⟨by omega, by omega⟩ ⟨by decide, by decide⟩ ⟨by decide, by decide⟩) lkX9_49 mwX9_in dX9_isFigure_18 rfl rfl (Nat.le_of_ble_eq_true rfl) (by decide) ⟨by decide, by decide⟩ (fun z_18 σ_18 hz_18 => ?_)
       obtain ⟨e9, rfl⟩ := hz_18
       replace e9 := ite10 e9
       refine gx_if_eq (tgt := 28) hx dX9_isFigure_21 (by decide) ⟨by omega, by omega⟩ (fun h21 => ?_) (fun h21 => ?_)
       · first
         | (exfalso; omega)
         | (refine gx_iconst hx dX9_isFigure_28 ?_
            refine hret _ _ _ _ _ _ _ (by decide) (by decide) dX9_isFigure_29 rfl rfl ?_
            exact ⟨by first | rw [if_pos (by omega)] | rw [if_neg (by omega)], rfl⟩)
       · first
         | (exfalso; omega)
         | (refine gx_iconst hx dX9_isFigure_24 ?_
            refine gx_goto (tgt := 29) hx dX9_isFigure_25 (by decide) ?_
            refine hret _ _ _ _ _ _ _ (by decide) (by decide) dX9_isFigure_29 rfl rfl ?_
            exact ⟨by first | rw [if_pos (by omega)] | rw [if_neg (by omega)], rfl⟩))
set_option maxRecDepth 20000 in
set_option maxHeartbeats 400000 in
theorem c_X9_isOperand (g : Gm) (l : Launch) {σ : Sg} {k v : Nat} (hk : k < 8) (hv : v < 100) (hv7 : k = 7 → v = 0) : KI g l yX9_isOperand cX9_isOperand 2 ((some .boolean)) (1) 0 0 [.inl (k : Int), .inl (v : Int)] σ (fun r σ' => ((r = 1 ∧ okI k v 0) ∨ (r = 0 ∧ ¬ okI k v 0)) ∧ σ = σ') := by
  refine startI (own := RX9) (by decide +kernel) rfl (Nat.le_of_ble_eq_true rfl) ?_
  intro X hx _ _ hret
  refine gx_iload_n hx dX9_isOperand_0 rfl ?_
  rcases (show k = 0 ∨ k = 1 ∨ k = 2 ∨ k = 3 ∨ k = 4 ∨ k = 5 ∨ k = 6 ∨ k = 7 by omega) with h | h | h | h | h | h | h | h
  · refine gx_tableIn (off := 47) (tgt := 48) hx dX9_isOperand_1 ⟨by omega, by omega⟩ (by omega) (by omega) (by rw [h]; rfl) (by decide) ?_
    refine gx_iload_n hx dX9_isOperand_48 rfl ?_
    refine gx_iconst hx dX9_isOperand_49 ?_
    refine gx_bipush hx dX9_isOperand_50 (by decide) ?_
    refine gx_callS hx (c_X9_in (v := (v : Int)) (lo := 1) (hi := 9) _ _ ⟨by omega, by omega⟩ ⟨by decide, by decide⟩ ⟨by decide, by decide⟩) lkX9_49 mwX9_in dX9_isOperand_52 rfl rfl (Nat.le_of_ble_eq_true rfl) (by decide) ⟨by decide, by decide⟩ (fun z_52 σ_52 hz_52 => ?_)
    obtain ⟨e9, rfl⟩ := hz_52
    replace e9 := ite10 e9
    refine hret _ _ _ _ _ _ _ (by decide) (by decide) dX9_isOperand_55 rfl (nar_z (by omega)) ?_
    exact ⟨by unfold okI; omega, rfl⟩
  · refine gx_tableIn (off := 55) (tgt := 56) hx dX9_isOperand_1 ⟨by omega, by omega⟩ (by omega) (by omega) (by rw [h]; rfl) (by decide) ?_
    refine gx_iload_n hx dX9_isOperand_56 rfl ?_
    refine gx_iconst hx dX9_isOperand_57 ?_
    refine gx_bipush hx dX9_isOperand_58 (by decide) ?_
    refine gx_callS hx (c_X9_in (v := (v : Int)) (lo := 1) (hi := 50) _ _ ⟨by omega, by omega⟩ ⟨by decide, by decide⟩ ⟨by decide, by decide⟩) lkX9_49 mwX9_in dX9_isOperand_60 rfl rfl (Nat.le_of_ble_eq_true rfl) (by decide) ⟨by decide, by decide⟩ (fun z_60 σ_60 hz_60 => ?_)
    obtain ⟨e9, rfl⟩ := hz_60
    replace e9 := ite10 e9
    refine hret _ _ _ _ _ _ _ (by decide) (by decide) dX9_isOperand_63 rfl (nar_z (by omega)) ?_
    exact ⟨by unfold okI; omega, rfl⟩
  · refine gx_tableIn (off := 80) (tgt := 81) hx dX9_isOperand_1 ⟨by omega, by omega⟩ (by omega) (by omega) (by rw [h]; rfl) (by decide) ?_
    refine gx_iload_n hx dX9_isOperand_81 rfl ?_
    refine gx_iconst hx dX9_isOperand_82 ?_
    refine gx_bipush hx dX9_isOperand_83 (by decide) ?_
    refine gx_callS hx (c_X9_in (v := (v : Int)) (lo := 0) (hi := 9) _ _ ⟨by omega, by omega⟩ ⟨by decide, by decide⟩ ⟨by decide, by decide⟩) lkX9_49 mwX9_in dX9_isOperand_85 rfl rfl (Nat.le_of_ble_eq_true rfl) (by decide) ⟨by decide, by decide⟩ (fun z_85 σ_85 hz_85 => ?_)
    obtain ⟨e9, rfl⟩ := hz_85
    replace e9 := ite10 e9
    refine hret _ _ _ _ _ _ _ (by decide) (by decide) dX9_isOperand_88 rfl (nar_z (by omega)) ?_
    exact ⟨by unfold okI; omega, rfl⟩
  · refine gx_tableIn (off := 63) (tgt := 64) hx dX9_isOperand_1 ⟨by omega, by omega⟩ (by omega) (by omega) (by rw [h]; rfl) (by decide) ?_
    refine gx_iload_n hx dX9_isOperand_64 rfl ?_
    refine gx_iconst hx dX9_isOperand_65 ?_
    refine gx_iconst hx dX9_isOperand_66 ?_
    refine gx_callS hx (c_X9_in (v := (v : Int)) (lo := 1) (hi := 4) _ _ ⟨by omega, by omega⟩ ⟨by decide, by decide⟩ ⟨by decide, by decide⟩) lkX9_49 mwX9_in dX9_isOperand_67 rfl rfl (Nat.le_of_ble_eq_true rfl) (by decide) ⟨by decide, by decide⟩ (fun z_67 σ_67 hz_67 => ?_)
    obtain ⟨e9, rfl⟩ := hz_67
    replace e9 := ite10 e9
    refine hret _ _ _ _ _ _ _ (by decide) (by decide) dX9_isOperand_70 rfl (nar_z (by omega)) ?_
    exact ⟨by unfold okI; omega, rfl⟩
  · refine gx_tableIn (off := 80) (tgt := 81) hx dX9_isOperand_1 ⟨by omega, by omega⟩ (by omega) (by omega) (by rw [h]; rfl) (by decide) ?_
    refine gx_iload_n hx dX9_isOperand_81 rfl ?_
    refine gx_iconst hx dX9_isOperand_82 ?_
    refine gx_bipush hx dX9_isOperand_83 (by decide) ?_
    refine gx_callS hx (c_X9_in (v := (v : Int)) (lo := 0) (hi := 9) _ _ ⟨by omega, by omega⟩ ⟨by decide, by decide⟩ ⟨by decide, by decide⟩) lkX9_49 mwX9_in dX9_isOperand_85 rfl rfl (Nat.le_of_ble_eq_true rfl) (by decide) ⟨by decide, by decide⟩ (fun z_85 σ_85 hz_85 => ?_)
    obtain ⟨e9, rfl⟩ := hz_85
    replace e9 := ite10 e9
    refine hret _ _ _ _ _ _ _ (by decide) (by decide) dX9_isOperand_88 rfl (nar_z (by omega)) ?_
    exact ⟨by unfold okI; omega, rfl⟩
  · refine gx_tableIn (off := 80) (tgt := 81) hx dX9_isOperand_1 ⟨by omega, by omega⟩ (by omega) (by omega) (by rw [h]; rfl) (by decide) ?_
    refine gx_iload_n hx dX9_isOperand_81 rfl ?_
    refine gx_iconst hx dX9_isOperand_82 ?_
    refine gx_bipush hx dX9_isOperand_83 (by decide) ?_
    refine gx_callS hx (c_X9_in (v := (v : Int)) (lo := 0) (hi := 9) _ _ ⟨by omega, by omega⟩ ⟨by decide, by decide⟩ ⟨by decide, by decide⟩) lkX9_49 mwX9_in dX9_isOperand_85 rfl rfl (Nat.le_of_ble_eq_true rfl) (by decide) ⟨by decide, by decide⟩ (fun z_85 σ_85 hz_85 => ?_)
    obtain ⟨e9, rfl⟩ := hz_85
    replace e9 := ite10 e9
    refine hret _ _ _ _ _ _ _ (by decide) (by decide) dX9_isOperand_88 rfl (nar_z (by omega)) ?_
    exact ⟨by unfold okI; omega, rfl⟩
  · refine gx_tableIn (off := 70) (tgt := 71) hx dX9_isOperand_1 ⟨by omega, by omega⟩ (by omega) (by omega) (by rw [h]; rfl) (by decide) ?_
    refine gx_iload_n hx dX9_isOperand_71 rfl ?_
    refine gx_iconst hx dX9_isOperand_72 ?_
    refine gx_bipush hx dX9_isOperand_73 (by decide) ?_
    refine gx_callS hx (c_X9_in (v := (v : Int)) (lo := 0) (hi := 99) _ _ ⟨by omega, by omega⟩ ⟨by decide, by decide⟩ ⟨by decide, by decide⟩) lkX9_49 mwX9_in dX9_isOperand_75 rfl rfl (Nat.le_of_ble_eq_true rfl) (by decide) ⟨by decide, by decide⟩ (fun z_75 σ_75 hz_75 => ?_)
    obtain ⟨e9, rfl⟩ := hz_75
    replace e9 := ite10 e9
    refine hret _ _ _ _ _ _ _ (by decide) (by decide) dX9_isOperand_78 rfl (nar_z (by omega)) ?_
    exact ⟨by unfold okI; omega, rfl⟩
  · refine gx_tableIn (off := 78) (tgt := 79) hx dX9_isOperand_1 ⟨by omega, by omega⟩ (by omega) (by omega) (by rw [h]; rfl) (by decide) ?_
    refine gx_iconst hx dX9_isOperand_79 ?_
    refine hret _ _ _ _ _ _ _ (by decide) (by decide) dX9_isOperand_80 rfl rfl ?_
    exact ⟨by unfold okI; omega, rfl⟩
set_option maxRecDepth 20000 in
set_option maxHeartbeats 400000 in
theorem c_X9_goes (g : Gm) (l : Launch) {σ : Sg} {T : List Nat} {k : Nat} (hT : MT σ T) (hN : MN σ) (hk : k < 8) : KI g l yX9_goes cX9_goes 5 ((some .int)) (2) 0 0 [.inr 70, .inl (k : Int)] σ (fun r σ' => r = (mt T k : Int) ∧ σ' 70 13 = (if isW T k then 1 else 0) ∧ (isW T k → σ' 70 14 = nmb T k) ∧ FR σ σ' c00 fW) := by
  refine startI (own := RX9) (by decide +kernel) rfl (Nat.le_of_ble_eq_true rfl) ?_
  intro X hx _ _ hret
  obtain ⟨ht1, ht2, ht3⟩ := id hT
  have hn1 := nm_le k (by omega)
  have hn2 := nm_ge k hk
  have hpl := pm_le T k
  refine gx_aload_n hx dX9_goes_0 rfl ?_
  refine gx_iload_n hx dX9_goes_1 rfl ?_
  refine gx_callI hx (c_X9_nameSize (k := k) _ _ hN hk) lkX9_99 mwX9_nameSize dX9_goes_2 (by decide) rfl rfl rfl rfl (Nat.le_of_ble_eq_true rfl) (by decide) ⟨by decide, by decide⟩ (fun z_2 σ_2 hz_2 => ?_)
  obtain ⟨rfl, rfl⟩ := hz_2
  refine gx_istore_n hx dX9_goes_5 (Nat.le_of_ble_eq_true rfl) ?_
  refine gx_aload_n hx dX9_goes_6 rfl ?_
  refine gx_iconst hx dX9_goes_7 ?_
  refine gx_put hx fpX9_102 dX9_goes_8 (by decide) rfl rfl rfl rfl 13 rfl ?_
  refine gx_aload_n hx dX9_goes_11 rfl ?_
  refine gx_iconst hx dX9_goes_12 ?_
  refine gx_put hx fpX9_106 dX9_goes_13 (by decide) rfl rfl rfl rfl 14 rfl ?_
  obtain ⟨τ, hτ⟩ : ∃ τ, τ = upd2 (upd2 σ 70 13 0) 70 14 0 := ⟨_, rfl⟩
  rw [← hτ]
  have hFt : FR σ τ c00 fW := by rw [hτ]; exact FR.trans (FR.updF rfl) (FR.updF rfl)
  have h7 : τ 70 7 = (T.length : Int) := by rw [hFt.2 7 rfl]; exact ht2
  have h74 : ∀ i : Nat, i < T.length → τ 74 (i : Int) = (ch T i : Int) := fun i hi => by rw [hFt.1 74 (by decide) rfl]; exact (ht3 i hi).1
  have h77 : ∀ j : Nat, j < 6 → τ 77 (6 * (k : Int) + (j : Int)) = (nmA k j : Int) := fun j hj => by rw [hFt.1 77 (by decide) rfl]; exact hN k j hk hj
  have h13 : τ 70 13 = 0 := by rw [hτ, upd2_z (by decide), upd2_at]
  refine gx_iconst hx dX9_goes_16 ?_
  refine gx_istore_n hx dX9_goes_17 (Nat.le_of_ble_eq_true rfl) ?_
  refine gx_loop (α := Nat) (fun n => n ≤ T.length ∧ n ≤ nmL k ∧ pm T k = pmF T k (20 - n) n) (fun n => 20 - n) (fun n => [some (.inr 70), some (.inl (k : Int)), some (.inl (nmL k : Int)), some (.inl (n : Int)), none]) (fun _ => []) (fun _ => τ) ?_ 0 ⟨Nat.zero_le _, Nat.zero_le _, rfl⟩
  rintro n ⟨hn3, hn4, hpm⟩ ih
  refine gx_iload_n hx dX9_goes_18 rfl ?_
  refine gx_iload_n hx dX9_goes_19 rfl ?_
  refine gx_icmp_ge (tgt := 57) hx dX9_goes_20 (by decide) ⟨by omega, by omega⟩ ⟨by omega, by omega⟩ (fun h20 => ?_) (fun h20 => ?_)
  · first
    | (exfalso; omega)
    | (have hst : pm T k = n := by
         rw [hpm]
         exact pmF_stop (by omega)
       have hmt : mt T k = if n < nmL k ∨ k = 7 ∨ T.length ≤ n ∨ ch T n ≠ 32 then n else dgF T (eNd T k) 20 (n + 1) := by
         unfold mt
         rw [hst]
       have hlL : (k = 7 ∧ lL k = nmL k) ∨ (k ≠ 7 ∧ lL k = nmL k + 2) := by
         unfold lL
         split <;> omega
       refine gx_iload_n hx dX9_goes_57 rfl ?_
       refine gx_iload_n hx dX9_goes_58 rfl ?_
       refine gx_icmp_lt (tgt := 68) hx dX9_goes_59 (by decide) ⟨by omega, by omega⟩ ⟨by omega, by omega⟩ (fun h59 => ?_) (fun h59 => ?_)
       · first
         | (exfalso; omega)
         | (refine gx_aload_n hx dX9_goes_68 rfl ?_
            refine gx_iload_n hx dX9_goes_69 rfl ?_
            refine gx_iload_n hx dX9_goes_70 rfl ?_
            refine gx_icmp_ne (tgt := 86) hx dX9_goes_71 (by decide) ⟨by omega, by omega⟩ ⟨by omega, by omega⟩ (fun h71 => ?_) (fun h71 => ?_)
            · first
              | (exfalso; omega)
              | (refine gx_iconst hx dX9_goes_86 ?_
                 refine gx_put hx fpX9_102 dX9_goes_87 (by decide) rfl rfl rfl rfl 13 rfl ?_
                 refine gx_iload_n hx dX9_goes_90 rfl ?_
                 refine hret _ _ _ _ _ _ _ (by decide) (by decide) dX9_goes_91 rfl rfl ?_
                 have hm9 : mt T k = n := by rw [hmt, if_pos (by omega)]
                 refine ⟨by rw [hm9], ?_, ?_, hFt.trans (FR.updF rfl)⟩
                 · rw [upd2_at]
                   first
                   | rw [if_pos (show isW T k from ⟨by omega, by omega⟩)]
                   | rw [if_neg (show ¬ isW T k from fun hw => by have w1 := hw.1; have w2 := hw.2; omega)]
                 · intro hw
                   have w1 := hw.1
                   have w2 := hw.2
                   rw [upd2_z (by decide), hτ, upd2_at, nmb, if_pos (by omega)])
            · first
              | (exfalso; omega)
              | (refine gx_iload_n hx dX9_goes_74 rfl ?_
                 refine gx_aload_n hx dX9_goes_75 rfl ?_
                 refine gx_getI hx flX9_96 dX9_goes_76 (by decide) rfl rfl 7 rfl ?_
                 rw [h7]
                 refine gx_icmp_ne (tgt := 86) hx dX9_goes_79 (by decide) ⟨by omega, by omega⟩ ⟨by omega, by omega⟩ (fun h79 => ?_) (fun h79 => ?_)
                 · first
                   | (exfalso; omega)
                   | (refine gx_iconst hx dX9_goes_86 ?_
                      refine gx_put hx fpX9_102 dX9_goes_87 (by decide) rfl rfl rfl rfl 13 rfl ?_
                      refine gx_iload_n hx dX9_goes_90 rfl ?_
                      refine hret _ _ _ _ _ _ _ (by decide) (by decide) dX9_goes_91 rfl rfl ?_
                      have hm9 : mt T k = n := by rw [hmt, if_pos (by omega)]
                      refine ⟨by rw [hm9], ?_, ?_, hFt.trans (FR.updF rfl)⟩
                      · rw [upd2_at]
                        first
                        | rw [if_pos (show isW T k from ⟨by omega, by omega⟩)]
                        | rw [if_neg (show ¬ isW T k from fun hw => by have w1 := hw.1; have w2 := hw.2; omega)]
                      · intro hw
                        have w1 := hw.1
                        have w2 := hw.2
                        rw [upd2_z (by decide), hτ, upd2_at, nmb, if_pos (by omega)])
                 · first
                   | (exfalso; omega)
                   | (refine gx_iconst hx dX9_goes_82 ?_
                      refine gx_goto (tgt := 87) hx dX9_goes_83 (by decide) ?_
                      refine gx_put hx fpX9_102 dX9_goes_87 (by decide) rfl rfl rfl rfl 13 rfl ?_
                      refine gx_iload_n hx dX9_goes_90 rfl ?_
                      refine hret _ _ _ _ _ _ _ (by decide) (by decide) dX9_goes_91 rfl rfl ?_
                      have hm9 : mt T k = n := by rw [hmt, if_pos (by omega)]
                      refine ⟨by rw [hm9], ?_, ?_, hFt.trans (FR.updF rfl)⟩
                      · rw [upd2_at]
                        first
                        | rw [if_pos (show isW T k from ⟨by omega, by omega⟩)]
                        | rw [if_neg (show ¬ isW T k from fun hw => by have w1 := hw.1; have w2 := hw.2; omega)]
                      · intro hw
                        have w1 := hw.1
                        have w2 := hw.2
                        rw [upd2_z (by decide), hτ, upd2_at, nmb, if_pos (by omega)])))
       · first
         | (exfalso; omega)
         | (refine gx_iload_n hx dX9_goes_62 rfl ?_
            refine gx_bipush hx dX9_goes_63 (by decide) ?_
            refine gx_icmp_ne (tgt := 92) hx dX9_goes_65 (by decide) ⟨by omega, by omega⟩ ⟨by omega, by omega⟩ (fun h65 => ?_) (fun h65 => ?_)
            · first
              | (exfalso; omega)
              | (refine gx_iload_n hx dX9_goes_92 rfl ?_
                 refine gx_aload_n hx dX9_goes_93 rfl ?_
                 refine gx_getI hx flX9_96 dX9_goes_94 (by decide) rfl rfl 7 rfl ?_
                 rw [h7]
                 refine gx_icmp_eq (tgt := 111) hx dX9_goes_97 (by decide) ⟨by omega, by omega⟩ ⟨by omega, by omega⟩ (fun h97 => ?_) (fun h97 => ?_)
                 · first
                   | (exfalso; omega)
                   | (refine gx_iload_n hx dX9_goes_111 rfl ?_
                      refine hret _ _ _ _ _ _ _ (by decide) (by decide) dX9_goes_112 rfl rfl ?_
                      have hm9 : mt T k = n := by rw [hmt, if_pos (by omega)]
                      have hnw : ¬ isW T k := fun hw => by have w1 := hw.1; have w2 := hw.2; omega
                      exact ⟨by rw [hm9], by rw [if_neg hnw]; exact h13, fun h => absurd h hnw, hFt⟩)
                 · first
                   | (exfalso; omega)
                   | (refine gx_aload_n hx dX9_goes_100 rfl ?_
                      refine gx_getR hx flX9_19 dX9_goes_101 (by decide) rfl rfl ?_
                      refine gx_iload_n hx dX9_goes_104 rfl ?_
                      refine gx_cald hx dX9_goes_105 (by decide) rfl (by omega) (by omega) (by decide) ?_
                      rw [h74 n (by omega)]
                      have hcn := ht3 n (by omega)
                      refine gx_bipush hx dX9_goes_106 (by decide) ?_
                      refine gx_icmp_eq (tgt := 113) hx dX9_goes_108 (by decide) ⟨by omega, by omega⟩ ⟨by omega, by omega⟩ (fun h108 => ?_) (fun h108 => ?_)
                      · first
                        | (exfalso; omega)
                        | (refine gx_iinc hx dX9_goes_113 (Nat.le_of_ble_eq_true rfl) rfl ?_
                           refine gx_iconst hx dX9_goes_116 ?_
                           refine gx_istore hx dX9_goes_117 (Nat.le_of_ble_eq_true rfl) ?_
                           have hen : n + 1 ≤ eNd T k := by unfold eNd; split <;> omega
                           have henl : eNd T k = if nmL k + 3 < T.length then nmL k + 3 else T.length := rfl
                           refine GJ.cong (L' := [some (.inr 70), some (.inl (k : Int)), some (.inl (nmL k : Int)), some (.inl ((n + 1 + 0 : Nat) : Int)), some (.inl ((0 : Nat) : Int))]) (st' := []) rfl rfl rfl ?_
                           refine gx_loop (α := Nat × Sg) (fun x => x.1 ≤ 2 ∧ n + 1 + x.1 ≤ T.length ∧ dgF T (eNd T k) 20 (n + 1) = dgF T (eNd T k) (20 - x.1) (n + 1 + x.1) ∧ (∀ q, q < x.1 → 48 ≤ ch T (n + 1 + q) ∧ ch T (n + 1 + q) ≤ 57) ∧ x.2 70 14 = nF T (n + 1) x.1 ∧ x.2 70 13 = (if 0 < x.1 then 1 else 0) ∧ FR σ x.2 c00 fW) (fun x => 20 - x.1) (fun x => [some (.inr 70), some (.inl (k : Int)), some (.inl (nmL k : Int)), some (.inl ((n + 1 + x.1 : Nat) : Int)), some (.inl (x.1 : Int))]) (fun _ => []) (fun x => x.2) ?_ (0, τ) ⟨Nat.zero_le _, by dsimp only; omega, rfl, fun q hq => absurd hq (Nat.not_lt_zero _), by dsimp only; rw [hτ, upd2_at]; rfl, h13, hFt⟩
                           rintro ⟨j, υ⟩ ⟨hj2, hjl, hdg, hfig, hu14, hu13, hFu⟩ ih2
                           dsimp only at hj2 hjl hdg hfig hu14 hu13 hFu ih2 ⊢
                           have hnr := nF_rg (T := T) (s := n + 1) j hj2 hfig
                           have hu13' : (0 < j ∧ υ 70 13 = 1) ∨ (j = 0 ∧ υ 70 13 = 0) := by
                             split at hu13 <;> omega
                           have hTt : MT υ T := hT.same (hFu.2 7 rfl) (hFu.1 74 (by decide) rfl)
                           have hu7 : υ 70 7 = (T.length : Int) := hTt.2.1
                           have hu74 : ∀ i : Nat, i < T.length → υ 74 (i : Int) = (ch T i : Int) := fun i hi => (hTt.2.2 i hi).1
                           refine gx_iload hx dX9_goes_119 rfl ?_
                           refine gx_iconst hx dX9_goes_121 ?_
                           refine gx_icmp_ge (tgt := 168) hx dX9_goes_122 (by decide) ⟨by omega, by omega⟩ ⟨by omega, by omega⟩ (fun h122 => ?_) (fun h122 => ?_)
                           · first
                             | (exfalso; omega)
                             | (refine gx_aload_n hx dX9_goes_168 rfl ?_
                                refine gx_aload_n hx dX9_goes_169 rfl ?_
                                refine gx_getI hx flX9_102 dX9_goes_170 (by decide) rfl rfl 13 rfl ?_
                                rw [hu13]
                                refine gx_if_eq (tgt := 188) hx dX9_goes_173 (by decide) ⟨by omega, by omega⟩ (fun h173 => ?_) (fun h173 => ?_)
                                · first
                                  | (exfalso; omega)
                                  | (refine gx_iconst hx dX9_goes_188 ?_
                                     refine gx_put hx fpX9_102 dX9_goes_189 (by decide) rfl rfl rfl rfl 13 rfl ?_
                                     refine gx_iload_n hx dX9_goes_192 rfl ?_
                                     refine hret _ _ _ _ _ _ _ (by decide) (by decide) dX9_goes_193 rfl rfl ?_
                                     have hm9 : mt T k = n + 1 + j := by
                                       rw [hmt, if_neg (by omega), hdg, dgF_stop (by rw [henl]; split <;> omega)]
                                     refine ⟨by rw [hm9], ?_, ?_, hFu.trans (FR.updF rfl)⟩
                                     · rw [upd2_at]
                                       first
                                       | rw [if_pos (show isW T k from ⟨by omega, by omega⟩)]
                                       | rw [if_neg (show ¬ isW T k from fun hw => by have w1 := hw.1; have w2 := hw.2; omega)]
                                     · intro hw
                                       have w1 := hw.1
                                       have w2 := hw.2
                                       rw [upd2_z (by decide), hu14, nmb, if_neg (by omega), show T.length - (nmL k + 1) = j by omega, show nmL k = n by omega])
                                · first
                                  | (exfalso; omega)
                                  | (refine gx_iload_n hx dX9_goes_176 rfl ?_
                                     refine gx_aload_n hx dX9_goes_177 rfl ?_
                                     refine gx_getI hx flX9_96 dX9_goes_178 (by decide) rfl rfl 7 rfl ?_
                                     rw [hu7]
                                     refine gx_icmp_ne (tgt := 188) hx dX9_goes_181 (by decide) ⟨by omega, by omega⟩ ⟨by omega, by omega⟩ (fun h181 => ?_) (fun h181 => ?_)
                                     · first
                                       | (exfalso; omega)
                                       | (refine gx_iconst hx dX9_goes_188 ?_
                                          refine gx_put hx fpX9_102 dX9_goes_189 (by decide) rfl rfl rfl rfl 13 rfl ?_
                                          refine gx_iload_n hx dX9_goes_192 rfl ?_
                                          refine hret _ _ _ _ _ _ _ (by decide) (by decide) dX9_goes_193 rfl rfl ?_
                                          have hm9 : mt T k = n + 1 + j := by
                                            rw [hmt, if_neg (by omega), hdg, dgF_stop (by rw [henl]; split <;> omega)]
                                          refine ⟨by rw [hm9], ?_, ?_, hFu.trans (FR.updF rfl)⟩
                                          · rw [upd2_at]
                                            first
                                            | rw [if_pos (show isW T k from ⟨by omega, by omega⟩)]
                                            | rw [if_neg (show ¬ isW T k from fun hw => by have w1 := hw.1; have w2 := hw.2; omega)]
                                          · intro hw
                                            have w1 := hw.1
                                            have w2 := hw.2
                                            rw [upd2_z (by decide), hu14, nmb, if_neg (by omega), show T.length - (nmL k + 1) = j by omega, show nmL k = n by omega])
                                     · first
                                       | (exfalso; omega)
                                       | (refine gx_iconst hx dX9_goes_184 ?_
                                          refine gx_goto (tgt := 189) hx dX9_goes_185 (by decide) ?_
                                          refine gx_put hx fpX9_102 dX9_goes_189 (by decide) rfl rfl rfl rfl 13 rfl ?_
                                          refine gx_iload_n hx dX9_goes_192 rfl ?_
                                          refine hret _ _ _ _ _ _ _ (by decide) (by decide) dX9_goes_193 rfl rfl ?_
                                          have hm9 : mt T k = n + 1 + j := by
                                            rw [hmt, if_neg (by omega), hdg, dgF_stop (by rw [henl]; split <;> omega)]
                                          refine ⟨by rw [hm9], ?_, ?_, hFu.trans (FR.updF rfl)⟩
                                          · rw [upd2_at]
                                            first
                                            | rw [if_pos (show isW T k from ⟨by omega, by omega⟩)]
                                            | rw [if_neg (show ¬ isW T k from fun hw => by have w1 := hw.1; have w2 := hw.2; omega)]
                                          · intro hw
                                            have w1 := hw.1
                                            have w2 := hw.2
                                            rw [upd2_z (by decide), hu14, nmb, if_neg (by omega), show T.length - (nmL k + 1) = j by omega, show nmL k = n by omega])))
                           · first
                             | (exfalso; omega)
                             | (refine gx_aload_n hx dX9_goes_125 rfl ?_
                                refine gx_iload_n hx dX9_goes_126 rfl ?_
                                rw [show ((n + 1 + j : Nat) : Int) = ((n + 1 + j : Nat) : Int) from rfl]
                                refine gx_callI hx (c_X9_isFigure (T := T) (i := n + 1 + j) _ _ hTt (by omega)) lkX9_109 mwX9_isFigure dX9_goes_127 (by decide) rfl rfl rfl rfl (Nat.le_of_ble_eq_true rfl) (by decide) ⟨by decide, by decide⟩ (fun z_127 σ_127 hz_127 => ?_)
                                obtain ⟨e9, rfl⟩ := hz_127
                                replace e9 := ite10 e9
                                refine gx_if_eq (tgt := 168) hx dX9_goes_130 (by decide) ⟨by omega, by omega⟩ (fun h130 => ?_) (fun h130 => ?_)
                                · first
                                  | (exfalso; omega)
                                  | (refine gx_aload_n hx dX9_goes_168 rfl ?_
                                     refine gx_aload_n hx dX9_goes_169 rfl ?_
                                     refine gx_getI hx flX9_102 dX9_goes_170 (by decide) rfl rfl 13 rfl ?_
                                     rw [hu13]
                                     refine gx_if_eq (tgt := 188) hx dX9_goes_173 (by decide) ⟨by omega, by omega⟩ (fun h173 => ?_) (fun h173 => ?_)
                                     · first
                                       | (exfalso; omega)
                                       | (refine gx_iconst hx dX9_goes_188 ?_
                                          refine gx_put hx fpX9_102 dX9_goes_189 (by decide) rfl rfl rfl rfl 13 rfl ?_
                                          refine gx_iload_n hx dX9_goes_192 rfl ?_
                                          refine hret _ _ _ _ _ _ _ (by decide) (by decide) dX9_goes_193 rfl rfl ?_
                                          have hm9 : mt T k = n + 1 + j := by
                                            rw [hmt, if_neg (by omega), hdg, dgF_stop (by rw [henl]; split <;> omega)]
                                          refine ⟨by rw [hm9], ?_, ?_, hFu.trans (FR.updF rfl)⟩
                                          · rw [upd2_at]
                                            first
                                            | rw [if_pos (show isW T k from ⟨by omega, by omega⟩)]
                                            | rw [if_neg (show ¬ isW T k from fun hw => by have w1 := hw.1; have w2 := hw.2; omega)]
                                          · intro hw
                                            have w1 := hw.1
                                            have w2 := hw.2
                                            rw [upd2_z (by decide), hu14, nmb, if_neg (by omega), show T.length - (nmL k + 1) = j by omega, show nmL k = n by omega])
                                     · first
                                       | (exfalso; omega)
                                       | (refine gx_iload_n hx dX9_goes_176 rfl ?_
                                          refine gx_aload_n hx dX9_goes_177 rfl ?_
                                          refine gx_getI hx flX9_96 dX9_goes_178 (by decide) rfl rfl 7 rfl ?_
                                          rw [hu7]
                                          refine gx_icmp_ne (tgt := 188) hx dX9_goes_181 (by decide) ⟨by omega, by omega⟩ ⟨by omega, by omega⟩ (fun h181 => ?_) (fun h181 => ?_)
                                          · first
                                            | (exfalso; omega)
                                            | (refine gx_iconst hx dX9_goes_188 ?_
                                               refine gx_put hx fpX9_102 dX9_goes_189 (by decide) rfl rfl rfl rfl 13 rfl ?_
                                               refine gx_iload_n hx dX9_goes_192 rfl ?_
                                               refine hret _ _ _ _ _ _ _ (by decide) (by decide) dX9_goes_193 rfl rfl ?_
                                               have hm9 : mt T k = n + 1 + j := by
                                                 rw [hmt, if_neg (by omega), hdg, dgF_stop (by rw [henl]; split <;> omega)]
                                               refine ⟨by rw [hm9], ?_, ?_, hFu.trans (FR.updF rfl)⟩
                                               · rw [upd2_at]
                                                 first
                                                 | rw [if_pos (show isW T k from ⟨by omega, by omega⟩)]
                                                 | rw [if_neg (show ¬ isW T k from fun hw => by have w1 := hw.1; have w2 := hw.2; omega)]
                                               · intro hw
                                                 have w1 := hw.1
                                                 have w2 := hw.2
                                                 rw [upd2_z (by decide), hu14, nmb, if_neg (by omega), show T.length - (nmL k + 1) = j by omega, show nmL k = n by omega])
                                          · first
                                            | (exfalso; omega)
                                            | (refine gx_iconst hx dX9_goes_184 ?_
                                               refine gx_goto (tgt := 189) hx dX9_goes_185 (by decide) ?_
                                               refine gx_put hx fpX9_102 dX9_goes_189 (by decide) rfl rfl rfl rfl 13 rfl ?_
                                               refine gx_iload_n hx dX9_goes_192 rfl ?_
                                               refine hret _ _ _ _ _ _ _ (by decide) (by decide) dX9_goes_193 rfl rfl ?_
                                               have hm9 : mt T k = n + 1 + j := by
                                                 rw [hmt, if_neg (by omega), hdg, dgF_stop (by rw [henl]; split <;> omega)]
                                               refine ⟨by rw [hm9], ?_, ?_, hFu.trans (FR.updF rfl)⟩
                                               · rw [upd2_at]
                                                 first
                                                 | rw [if_pos (show isW T k from ⟨by omega, by omega⟩)]
                                                 | rw [if_neg (show ¬ isW T k from fun hw => by have w1 := hw.1; have w2 := hw.2; omega)]
                                               · intro hw
                                                 have w1 := hw.1
                                                 have w2 := hw.2
                                                 rw [upd2_z (by decide), hu14, nmb, if_neg (by omega), show T.length - (nmL k + 1) = j by omega, show nmL k = n by omega])))
                                · first
                                  | (exfalso; omega)
                                  | (refine gx_aload_n hx dX9_goes_133 rfl ?_
                                     refine gx_bipush hx dX9_goes_134 (by decide) ?_
                                     refine gx_aload_n hx dX9_goes_136 rfl ?_
                                     refine gx_getI hx flX9_106 dX9_goes_137 (by decide) rfl rfl 14 rfl ?_
                                     rw [hu14]
                                     refine gx_imul hx dX9_goes_140 ?_
                                     refine gx_aload_n hx dX9_goes_141 rfl ?_
                                     refine gx_getR hx flX9_19 dX9_goes_142 (by decide) rfl rfl ?_
                                     refine gx_iload_n hx dX9_goes_145 rfl ?_
                                     refine gx_cald hx dX9_goes_146 (by decide) rfl (by omega) (by omega) (by decide) ?_
                                     rw [hu74 (n + 1 + j) (by omega)]
                                     have hcj := ht3 (n + 1 + j) (by omega)
                                     refine gx_iadd hx dX9_goes_147 ?_
                                     refine gx_bipush hx dX9_goes_148 (by decide) ?_
                                     refine gx_isub hx dX9_goes_150 ?_
                                     refine gx_put hx fpX9_106 dX9_goes_151 (by decide) rfl rfl rfl rfl 14 rfl ?_
                                     refine gx_iinc hx dX9_goes_154 (Nat.le_of_ble_eq_true rfl) rfl ?_
                                     refine gx_aload_n hx dX9_goes_157 rfl ?_
                                     refine gx_iconst hx dX9_goes_158 ?_
                                     refine gx_put hx fpX9_102 dX9_goes_159 (by decide) rfl rfl rfl rfl 13 rfl ?_
                                     refine gx_iinc hx dX9_goes_162 (Nat.le_of_ble_eq_true rfl) rfl ?_
                                     refine gx_goto (tgt := 119) hx dX9_goes_165 (by decide) ?_
                                     refine GJ.cong ?_ rfl rfl (ih2 (j + 1, upd2 (upd2 υ 70 14 (10 * nF T (n + 1) j + (ch T (n + 1 + j) : Int) - 48)) 70 13 1) ⟨by omega, by dsimp only; omega, ?_, fun q hq => ?_, ?_, ?_, hFu.trans (FR.trans (FR.updF rfl) (FR.updF rfl))⟩ (by dsimp only; omega))
                                     · dsimp only
                                       rw [show ((n + 1 + (j + 1) : Nat) : Int) = ((n + 1 + j : Nat) : Int) + 1 by omega]
                                       rfl
                                     · dsimp only
                                       rw [hdg, show 20 - j = (20 - (j + 1)) + 1 by omega, dgF_step (by rw [henl]; split <;> omega)]
                                       rfl
                                     · dsimp only at hq
                                       rcases Nat.lt_or_ge q j with h | h
                                       · exact hfig q h
                                       · have e : q = j := by omega
                                         subst e
                                         omega
                                     · dsimp only
                                       rw [upd2_z (by decide), upd2_at, nF]
                                       omega
                                     · dsimp only
                                       rw [upd2_at, if_pos (by omega)])))
                      · first
                        | (exfalso; omega)
                        | (refine gx_iload_n hx dX9_goes_111 rfl ?_
                           refine hret _ _ _ _ _ _ _ (by decide) (by decide) dX9_goes_112 rfl rfl ?_
                           have hm9 : mt T k = n := by rw [hmt, if_pos (by omega)]
                           have hnw : ¬ isW T k := fun hw => by have w1 := hw.1; have w2 := hw.2; omega
                           exact ⟨by rw [hm9], by rw [if_neg hnw]; exact h13, fun h => absurd h hnw, hFt⟩)))
            · first
              | (exfalso; omega)
              | (refine gx_aload_n hx dX9_goes_68 rfl ?_
                 refine gx_iload_n hx dX9_goes_69 rfl ?_
                 refine gx_iload_n hx dX9_goes_70 rfl ?_
                 refine gx_icmp_ne (tgt := 86) hx dX9_goes_71 (by decide) ⟨by omega, by omega⟩ ⟨by omega, by omega⟩ (fun h71 => ?_) (fun h71 => ?_)
                 · first
                   | (exfalso; omega)
                   | (refine gx_iconst hx dX9_goes_86 ?_
                      refine gx_put hx fpX9_102 dX9_goes_87 (by decide) rfl rfl rfl rfl 13 rfl ?_
                      refine gx_iload_n hx dX9_goes_90 rfl ?_
                      refine hret _ _ _ _ _ _ _ (by decide) (by decide) dX9_goes_91 rfl rfl ?_
                      have hm9 : mt T k = n := by rw [hmt, if_pos (by omega)]
                      refine ⟨by rw [hm9], ?_, ?_, hFt.trans (FR.updF rfl)⟩
                      · rw [upd2_at]
                        first
                        | rw [if_pos (show isW T k from ⟨by omega, by omega⟩)]
                        | rw [if_neg (show ¬ isW T k from fun hw => by have w1 := hw.1; have w2 := hw.2; omega)]
                      · intro hw
                        have w1 := hw.1
                        have w2 := hw.2
                        rw [upd2_z (by decide), hτ, upd2_at, nmb, if_pos (by omega)])
                 · first
                   | (exfalso; omega)
                   | (refine gx_iload_n hx dX9_goes_74 rfl ?_
                      refine gx_aload_n hx dX9_goes_75 rfl ?_
                      refine gx_getI hx flX9_96 dX9_goes_76 (by decide) rfl rfl 7 rfl ?_
                      rw [h7]
                      refine gx_icmp_ne (tgt := 86) hx dX9_goes_79 (by decide) ⟨by omega, by omega⟩ ⟨by omega, by omega⟩ (fun h79 => ?_) (fun h79 => ?_)
                      · first
                        | (exfalso; omega)
                        | (refine gx_iconst hx dX9_goes_86 ?_
                           refine gx_put hx fpX9_102 dX9_goes_87 (by decide) rfl rfl rfl rfl 13 rfl ?_
                           refine gx_iload_n hx dX9_goes_90 rfl ?_
                           refine hret _ _ _ _ _ _ _ (by decide) (by decide) dX9_goes_91 rfl rfl ?_
                           have hm9 : mt T k = n := by rw [hmt, if_pos (by omega)]
                           refine ⟨by rw [hm9], ?_, ?_, hFt.trans (FR.updF rfl)⟩
                           · rw [upd2_at]
                             first
                             | rw [if_pos (show isW T k from ⟨by omega, by omega⟩)]
                             | rw [if_neg (show ¬ isW T k from fun hw => by have w1 := hw.1; have w2 := hw.2; omega)]
                           · intro hw
                             have w1 := hw.1
                             have w2 := hw.2
                             rw [upd2_z (by decide), hτ, upd2_at, nmb, if_pos (by omega)])
                      · first
                        | (exfalso; omega)
                        | (refine gx_iconst hx dX9_goes_82 ?_
                           refine gx_goto (tgt := 87) hx dX9_goes_83 (by decide) ?_
                           refine gx_put hx fpX9_102 dX9_goes_87 (by decide) rfl rfl rfl rfl 13 rfl ?_
                           refine gx_iload_n hx dX9_goes_90 rfl ?_
                           refine hret _ _ _ _ _ _ _ (by decide) (by decide) dX9_goes_91 rfl rfl ?_
                           have hm9 : mt T k = n := by rw [hmt, if_pos (by omega)]
                           refine ⟨by rw [hm9], ?_, ?_, hFt.trans (FR.updF rfl)⟩
                           · rw [upd2_at]
                             first
                             | rw [if_pos (show isW T k from ⟨by omega, by omega⟩)]
                             | rw [if_neg (show ¬ isW T k from fun hw => by have w1 := hw.1; have w2 := hw.2; omega)]
                           · intro hw
                             have w1 := hw.1
                             have w2 := hw.2
                             rw [upd2_z (by decide), hτ, upd2_at, nmb, if_pos (by omega)])))))
  · first
    | (exfalso; omega)
    | (refine gx_iload_n hx dX9_goes_23 rfl ?_
       refine gx_aload_n hx dX9_goes_24 rfl ?_
       refine gx_getI hx flX9_96 dX9_goes_25 (by decide) rfl rfl 7 rfl ?_
       rw [h7]
       refine gx_icmp_ge (tgt := 57) hx dX9_goes_28 (by decide) ⟨by omega, by omega⟩ ⟨by omega, by omega⟩ (fun h28 => ?_) (fun h28 => ?_)
       · first
         | (exfalso; omega)
         | (have hst : pm T k = n := by
              rw [hpm]
              exact pmF_stop (by omega)
            have hmt : mt T k = if n < nmL k ∨ k = 7 ∨ T.length ≤ n ∨ ch T n ≠ 32 then n else dgF T (eNd T k) 20 (n + 1) := by
              unfold mt
              rw [hst]
            have hlL : (k = 7 ∧ lL k = nmL k) ∨ (k ≠ 7 ∧ lL k = nmL k + 2) := by
              unfold lL
              split <;> omega
            refine gx_iload_n hx dX9_goes_57 rfl ?_
            refine gx_iload_n hx dX9_goes_58 rfl ?_
            refine gx_icmp_lt (tgt := 68) hx dX9_goes_59 (by decide) ⟨by omega, by omega⟩ ⟨by omega, by omega⟩ (fun h59 => ?_) (fun h59 => ?_)
            · first
              | (exfalso; omega)
              | (refine gx_aload_n hx dX9_goes_68 rfl ?_
                 refine gx_iload_n hx dX9_goes_69 rfl ?_
                 refine gx_iload_n hx dX9_goes_70 rfl ?_
                 refine gx_icmp_ne (tgt := 86) hx dX9_goes_71 (by decide) ⟨by omega, by omega⟩ ⟨by omega, by omega⟩ (fun h71 => ?_) (fun h71 => ?_)
                 · first
                   | (exfalso; omega)
                   | (refine gx_iconst hx dX9_goes_86 ?_
                      refine gx_put hx fpX9_102 dX9_goes_87 (by decide) rfl rfl rfl rfl 13 rfl ?_
                      refine gx_iload_n hx dX9_goes_90 rfl ?_
                      refine hret _ _ _ _ _ _ _ (by decide) (by decide) dX9_goes_91 rfl rfl ?_
                      have hm9 : mt T k = n := by rw [hmt, if_pos (by omega)]
                      refine ⟨by rw [hm9], ?_, ?_, hFt.trans (FR.updF rfl)⟩
                      · rw [upd2_at]
                        first
                        | rw [if_pos (show isW T k from ⟨by omega, by omega⟩)]
                        | rw [if_neg (show ¬ isW T k from fun hw => by have w1 := hw.1; have w2 := hw.2; omega)]
                      · intro hw
                        have w1 := hw.1
                        have w2 := hw.2
                        rw [upd2_z (by decide), hτ, upd2_at, nmb, if_pos (by omega)])
                 · first
                   | (exfalso; omega)
                   | (refine gx_iload_n hx dX9_goes_74 rfl ?_
                      refine gx_aload_n hx dX9_goes_75 rfl ?_
                      refine gx_getI hx flX9_96 dX9_goes_76 (by decide) rfl rfl 7 rfl ?_
                      rw [h7]
                      refine gx_icmp_ne (tgt := 86) hx dX9_goes_79 (by decide) ⟨by omega, by omega⟩ ⟨by omega, by omega⟩ (fun h79 => ?_) (fun h79 => ?_)
                      · first
                        | (exfalso; omega)
                        | (refine gx_iconst hx dX9_goes_86 ?_
                           refine gx_put hx fpX9_102 dX9_goes_87 (by decide) rfl rfl rfl rfl 13 rfl ?_
                           refine gx_iload_n hx dX9_goes_90 rfl ?_
                           refine hret _ _ _ _ _ _ _ (by decide) (by decide) dX9_goes_91 rfl rfl ?_
                           have hm9 : mt T k = n := by rw [hmt, if_pos (by omega)]
                           refine ⟨by rw [hm9], ?_, ?_, hFt.trans (FR.updF rfl)⟩
                           · rw [upd2_at]
                             first
                             | rw [if_pos (show isW T k from ⟨by omega, by omega⟩)]
                             | rw [if_neg (show ¬ isW T k from fun hw => by have w1 := hw.1; have w2 := hw.2; omega)]
                           · intro hw
                             have w1 := hw.1
                             have w2 := hw.2
                             rw [upd2_z (by decide), hτ, upd2_at, nmb, if_pos (by omega)])
                      · first
                        | (exfalso; omega)
                        | (refine gx_iconst hx dX9_goes_82 ?_
                           refine gx_goto (tgt := 87) hx dX9_goes_83 (by decide) ?_
                           refine gx_put hx fpX9_102 dX9_goes_87 (by decide) rfl rfl rfl rfl 13 rfl ?_
                           refine gx_iload_n hx dX9_goes_90 rfl ?_
                           refine hret _ _ _ _ _ _ _ (by decide) (by decide) dX9_goes_91 rfl rfl ?_
                           have hm9 : mt T k = n := by rw [hmt, if_pos (by omega)]
                           refine ⟨by rw [hm9], ?_, ?_, hFt.trans (FR.updF rfl)⟩
                           · rw [upd2_at]
                             first
                             | rw [if_pos (show isW T k from ⟨by omega, by omega⟩)]
                             | rw [if_neg (show ¬ isW T k from fun hw => by have w1 := hw.1; have w2 := hw.2; omega)]
                           · intro hw
                             have w1 := hw.1
                             have w2 := hw.2
                             rw [upd2_z (by decide), hτ, upd2_at, nmb, if_pos (by omega)])))
            · first
              | (exfalso; omega)
              | (refine gx_iload_n hx dX9_goes_62 rfl ?_
                 refine gx_bipush hx dX9_goes_63 (by decide) ?_
                 refine gx_icmp_ne (tgt := 92) hx dX9_goes_65 (by decide) ⟨by omega, by omega⟩ ⟨by omega, by omega⟩ (fun h65 => ?_) (fun h65 => ?_)
                 · first
                   | (exfalso; omega)
                   | (refine gx_iload_n hx dX9_goes_92 rfl ?_
                      refine gx_aload_n hx dX9_goes_93 rfl ?_
                      refine gx_getI hx flX9_96 dX9_goes_94 (by decide) rfl rfl 7 rfl ?_
                      rw [h7]
                      refine gx_icmp_eq (tgt := 111) hx dX9_goes_97 (by decide) ⟨by omega, by omega⟩ ⟨by omega, by omega⟩ (fun h97 => ?_) (fun h97 => ?_)
                      · first
                        | (exfalso; omega)
                        | (refine gx_iload_n hx dX9_goes_111 rfl ?_
                           refine hret _ _ _ _ _ _ _ (by decide) (by decide) dX9_goes_112 rfl rfl ?_
                           have hm9 : mt T k = n := by rw [hmt, if_pos (by omega)]
                           have hnw : ¬ isW T k := fun hw => by have w1 := hw.1; have w2 := hw.2; omega
                           exact ⟨by rw [hm9], by rw [if_neg hnw]; exact h13, fun h => absurd h hnw, hFt⟩)
                      · first
                        | (exfalso; omega)
                        | (refine gx_aload_n hx dX9_goes_100 rfl ?_
                           refine gx_getR hx flX9_19 dX9_goes_101 (by decide) rfl rfl ?_
                           refine gx_iload_n hx dX9_goes_104 rfl ?_
                           refine gx_cald hx dX9_goes_105 (by decide) rfl (by omega) (by omega) (by decide) ?_
                           rw [h74 n (by omega)]
                           have hcn := ht3 n (by omega)
                           refine gx_bipush hx dX9_goes_106 (by decide) ?_
                           refine gx_icmp_eq (tgt := 113) hx dX9_goes_108 (by decide) ⟨by omega, by omega⟩ ⟨by omega, by omega⟩ (fun h108 => ?_) (fun h108 => ?_)
                           · first
                             | (exfalso; omega)
                             | (refine gx_iinc hx dX9_goes_113 (Nat.le_of_ble_eq_true rfl) rfl ?_
                                refine gx_iconst hx dX9_goes_116 ?_
                                refine gx_istore hx dX9_goes_117 (Nat.le_of_ble_eq_true rfl) ?_
                                have hen : n + 1 ≤ eNd T k := by unfold eNd; split <;> omega
                                have henl : eNd T k = if nmL k + 3 < T.length then nmL k + 3 else T.length := rfl
                                refine GJ.cong (L' := [some (.inr 70), some (.inl (k : Int)), some (.inl (nmL k : Int)), some (.inl ((n + 1 + 0 : Nat) : Int)), some (.inl ((0 : Nat) : Int))]) (st' := []) rfl rfl rfl ?_
                                refine gx_loop (α := Nat × Sg) (fun x => x.1 ≤ 2 ∧ n + 1 + x.1 ≤ T.length ∧ dgF T (eNd T k) 20 (n + 1) = dgF T (eNd T k) (20 - x.1) (n + 1 + x.1) ∧ (∀ q, q < x.1 → 48 ≤ ch T (n + 1 + q) ∧ ch T (n + 1 + q) ≤ 57) ∧ x.2 70 14 = nF T (n + 1) x.1 ∧ x.2 70 13 = (if 0 < x.1 then 1 else 0) ∧ FR σ x.2 c00 fW) (fun x => 20 - x.1) (fun x => [some (.inr 70), some (.inl (k : Int)), some (.inl (nmL k : Int)), some (.inl ((n + 1 + x.1 : Nat) : Int)), some (.inl (x.1 : Int))]) (fun _ => []) (fun x => x.2) ?_ (0, τ) ⟨Nat.zero_le _, by dsimp only; omega, rfl, fun q hq => absurd hq (Nat.not_lt_zero _), by dsimp only; rw [hτ, upd2_at]; rfl, h13, hFt⟩
                                rintro ⟨j, υ⟩ ⟨hj2, hjl, hdg, hfig, hu14, hu13, hFu⟩ ih2
                                dsimp only at hj2 hjl hdg hfig hu14 hu13 hFu ih2 ⊢
                                have hnr := nF_rg (T := T) (s := n + 1) j hj2 hfig
                                have hu13' : (0 < j ∧ υ 70 13 = 1) ∨ (j = 0 ∧ υ 70 13 = 0) := by
                                  split at hu13 <;> omega
                                have hTt : MT υ T := hT.same (hFu.2 7 rfl) (hFu.1 74 (by decide) rfl)
                                have hu7 : υ 70 7 = (T.length : Int) := hTt.2.1
                                have hu74 : ∀ i : Nat, i < T.length → υ 74 (i : Int) = (ch T i : Int) := fun i hi => (hTt.2.2 i hi).1
                                refine gx_iload hx dX9_goes_119 rfl ?_
                                refine gx_iconst hx dX9_goes_121 ?_
                                refine gx_icmp_ge (tgt := 168) hx dX9_goes_122 (by decide) ⟨by omega, by omega⟩ ⟨by omega, by omega⟩ (fun h122 => ?_) (fun h122 => ?_)
                                · first
                                  | (exfalso; omega)
                                  | (refine gx_aload_n hx dX9_goes_168 rfl ?_
                                     refine gx_aload_n hx dX9_goes_169 rfl ?_
                                     refine gx_getI hx flX9_102 dX9_goes_170 (by decide) rfl rfl 13 rfl ?_
                                     rw [hu13]
                                     refine gx_if_eq (tgt := 188) hx dX9_goes_173 (by decide) ⟨by omega, by omega⟩ (fun h173 => ?_) (fun h173 => ?_)
                                     · first
                                       | (exfalso; omega)
                                       | (refine gx_iconst hx dX9_goes_188 ?_
                                          refine gx_put hx fpX9_102 dX9_goes_189 (by decide) rfl rfl rfl rfl 13 rfl ?_
                                          refine gx_iload_n hx dX9_goes_192 rfl ?_
                                          refine hret _ _ _ _ _ _ _ (by decide) (by decide) dX9_goes_193 rfl rfl ?_
                                          have hm9 : mt T k = n + 1 + j := by
                                            rw [hmt, if_neg (by omega), hdg, dgF_stop (by rw [henl]; split <;> omega)]
                                          refine ⟨by rw [hm9], ?_, ?_, hFu.trans (FR.updF rfl)⟩
                                          · rw [upd2_at]
                                            first
                                            | rw [if_pos (show isW T k from ⟨by omega, by omega⟩)]
                                            | rw [if_neg (show ¬ isW T k from fun hw => by have w1 := hw.1; have w2 := hw.2; omega)]
                                          · intro hw
                                            have w1 := hw.1
                                            have w2 := hw.2
                                            rw [upd2_z (by decide), hu14, nmb, if_neg (by omega), show T.length - (nmL k + 1) = j by omega, show nmL k = n by omega])
                                     · first
                                       | (exfalso; omega)
                                       | (refine gx_iload_n hx dX9_goes_176 rfl ?_
                                          refine gx_aload_n hx dX9_goes_177 rfl ?_
                                          refine gx_getI hx flX9_96 dX9_goes_178 (by decide) rfl rfl 7 rfl ?_
                                          rw [hu7]
                                          refine gx_icmp_ne (tgt := 188) hx dX9_goes_181 (by decide) ⟨by omega, by omega⟩ ⟨by omega, by omega⟩ (fun h181 => ?_) (fun h181 => ?_)
                                          · first
                                            | (exfalso; omega)
                                            | (refine gx_iconst hx dX9_goes_188 ?_
                                               refine gx_put hx fpX9_102 dX9_goes_189 (by decide) rfl rfl rfl rfl 13 rfl ?_
                                               refine gx_iload_n hx dX9_goes_192 rfl ?_
                                               refine hret _ _ _ _ _ _ _ (by decide) (by decide) dX9_goes_193 rfl rfl ?_
                                               have hm9 : mt T k = n + 1 + j := by
                                                 rw [hmt, if_neg (by omega), hdg, dgF_stop (by rw [henl]; split <;> omega)]
                                               refine ⟨by rw [hm9], ?_, ?_, hFu.trans (FR.updF rfl)⟩
                                               · rw [upd2_at]
                                                 first
                                                 | rw [if_pos (show isW T k from ⟨by omega, by omega⟩)]
                                                 | rw [if_neg (show ¬ isW T k from fun hw => by have w1 := hw.1; have w2 := hw.2; omega)]
                                               · intro hw
                                                 have w1 := hw.1
                                                 have w2 := hw.2
                                                 rw [upd2_z (by decide), hu14, nmb, if_neg (by omega), show T.length - (nmL k + 1) = j by omega, show nmL k = n by omega])
                                          · first
                                            | (exfalso; omega)
                                            | (refine gx_iconst hx dX9_goes_184 ?_
                                               refine gx_goto (tgt := 189) hx dX9_goes_185 (by decide) ?_
                                               refine gx_put hx fpX9_102 dX9_goes_189 (by decide) rfl rfl rfl rfl 13 rfl ?_
                                               refine gx_iload_n hx dX9_goes_192 rfl ?_
                                               refine hret _ _ _ _ _ _ _ (by decide) (by decide) dX9_goes_193 rfl rfl ?_
                                               have hm9 : mt T k = n + 1 + j := by
                                                 rw [hmt, if_neg (by omega), hdg, dgF_stop (by rw [henl]; split <;> omega)]
                                               refine ⟨by rw [hm9], ?_, ?_, hFu.trans (FR.updF rfl)⟩
                                               · rw [upd2_at]
                                                 first
                                                 | rw [if_pos (show isW T k from ⟨by omega, by omega⟩)]
                                                 | rw [if_neg (show ¬ isW T k from fun hw => by have w1 := hw.1; have w2 := hw.2; omega)]
                                               · intro hw
                                                 have w1 := hw.1
                                                 have w2 := hw.2
                                                 rw [upd2_z (by decide), hu14, nmb, if_neg (by omega), show T.length - (nmL k + 1) = j by omega, show nmL k = n by omega])))
                                · first
                                  | (exfalso; omega)
                                  | (refine gx_aload_n hx dX9_goes_125 rfl ?_
                                     refine gx_iload_n hx dX9_goes_126 rfl ?_
                                     rw [show ((n + 1 + j : Nat) : Int) = ((n + 1 + j : Nat) : Int) from rfl]
                                     refine gx_callI hx (c_X9_isFigure (T := T) (i := n + 1 + j) _ _ hTt (by omega)) lkX9_109 mwX9_isFigure dX9_goes_127 (by decide) rfl rfl rfl rfl (Nat.le_of_ble_eq_true rfl) (by decide) ⟨by decide, by decide⟩ (fun z_127 σ_127 hz_127 => ?_)
                                     obtain ⟨e9, rfl⟩ := hz_127
                                     replace e9 := ite10 e9
                                     refine gx_if_eq (tgt := 168) hx dX9_goes_130 (by decide) ⟨by omega, by omega⟩ (fun h130 => ?_) (fun h130 => ?_)
                                     · first
                                       | (exfalso; omega)
                                       | (refine gx_aload_n hx dX9_goes_168 rfl ?_
                                          refine gx_aload_n hx dX9_goes_169 rfl ?_
                                          refine gx_getI hx flX9_102 dX9_goes_170 (by decide) rfl rfl 13 rfl ?_
                                          rw [hu13]
                                          refine gx_if_eq (tgt := 188) hx dX9_goes_173 (by decide) ⟨by omega, by omega⟩ (fun h173 => ?_) (fun h173 => ?_)
                                          · first
                                            | (exfalso; omega)
                                            | (refine gx_iconst hx dX9_goes_188 ?_
                                               refine gx_put hx fpX9_102 dX9_goes_189 (by decide) rfl rfl rfl rfl 13 rfl ?_
                                               refine gx_iload_n hx dX9_goes_192 rfl ?_
                                               refine hret _ _ _ _ _ _ _ (by decide) (by decide) dX9_goes_193 rfl rfl ?_
                                               have hm9 : mt T k = n + 1 + j := by
                                                 rw [hmt, if_neg (by omega), hdg, dgF_stop (by rw [henl]; split <;> omega)]
                                               refine ⟨by rw [hm9], ?_, ?_, hFu.trans (FR.updF rfl)⟩
                                               · rw [upd2_at]
                                                 first
                                                 | rw [if_pos (show isW T k from ⟨by omega, by omega⟩)]
                                                 | rw [if_neg (show ¬ isW T k from fun hw => by have w1 := hw.1; have w2 := hw.2; omega)]
                                               · intro hw
                                                 have w1 := hw.1
                                                 have w2 := hw.2
                                                 rw [upd2_z (by decide), hu14, nmb, if_neg (by omega), show T.length - (nmL k + 1) = j by omega, show nmL k = n by omega])
                                          · first
                                            | (exfalso; omega)
                                            | (refine gx_iload_n hx dX9_goes_176 rfl ?_
                                               refine gx_aload_n hx dX9_goes_177 rfl ?_
                                               refine gx_getI hx flX9_96 dX9_goes_178 (by decide) rfl rfl 7 rfl ?_
                                               rw [hu7]
                                               refine gx_icmp_ne (tgt := 188) hx dX9_goes_181 (by decide) ⟨by omega, by omega⟩ ⟨by omega, by omega⟩ (fun h181 => ?_) (fun h181 => ?_)
                                               · first
                                                 | (exfalso; omega)
                                                 | (refine gx_iconst hx dX9_goes_188 ?_
                                                    refine gx_put hx fpX9_102 dX9_goes_189 (by decide) rfl rfl rfl rfl 13 rfl ?_
                                                    refine gx_iload_n hx dX9_goes_192 rfl ?_
                                                    refine hret _ _ _ _ _ _ _ (by decide) (by decide) dX9_goes_193 rfl rfl ?_
                                                    have hm9 : mt T k = n + 1 + j := by
                                                      rw [hmt, if_neg (by omega), hdg, dgF_stop (by rw [henl]; split <;> omega)]
                                                    refine ⟨by rw [hm9], ?_, ?_, hFu.trans (FR.updF rfl)⟩
                                                    · rw [upd2_at]
                                                      first
                                                      | rw [if_pos (show isW T k from ⟨by omega, by omega⟩)]
                                                      | rw [if_neg (show ¬ isW T k from fun hw => by have w1 := hw.1; have w2 := hw.2; omega)]
                                                    · intro hw
                                                      have w1 := hw.1
                                                      have w2 := hw.2
                                                      rw [upd2_z (by decide), hu14, nmb, if_neg (by omega), show T.length - (nmL k + 1) = j by omega, show nmL k = n by omega])
                                               · first
                                                 | (exfalso; omega)
                                                 | (refine gx_iconst hx dX9_goes_184 ?_
                                                    refine gx_goto (tgt := 189) hx dX9_goes_185 (by decide) ?_
                                                    refine gx_put hx fpX9_102 dX9_goes_189 (by decide) rfl rfl rfl rfl 13 rfl ?_
                                                    refine gx_iload_n hx dX9_goes_192 rfl ?_
                                                    refine hret _ _ _ _ _ _ _ (by decide) (by decide) dX9_goes_193 rfl rfl ?_
                                                    have hm9 : mt T k = n + 1 + j := by
                                                      rw [hmt, if_neg (by omega), hdg, dgF_stop (by rw [henl]; split <;> omega)]
                                                    refine ⟨by rw [hm9], ?_, ?_, hFu.trans (FR.updF rfl)⟩
                                                    · rw [upd2_at]
                                                      first
                                                      | rw [if_pos (show isW T k from ⟨by omega, by omega⟩)]
                                                      | rw [if_neg (show ¬ isW T k from fun hw => by have w1 := hw.1; have w2 := hw.2; omega)]
                                                    · intro hw
                                                      have w1 := hw.1
                                                      have w2 := hw.2
                                                      rw [upd2_z (by decide), hu14, nmb, if_neg (by omega), show T.length - (nmL k + 1) = j by omega, show nmL k = n by omega])))
                                     · first
                                       | (exfalso; omega)
                                       | (refine gx_aload_n hx dX9_goes_133 rfl ?_
                                          refine gx_bipush hx dX9_goes_134 (by decide) ?_
                                          refine gx_aload_n hx dX9_goes_136 rfl ?_
                                          refine gx_getI hx flX9_106 dX9_goes_137 (by decide) rfl rfl 14 rfl ?_
                                          rw [hu14]
                                          refine gx_imul hx dX9_goes_140 ?_
                                          refine gx_aload_n hx dX9_goes_141 rfl ?_
                                          refine gx_getR hx flX9_19 dX9_goes_142 (by decide) rfl rfl ?_
                                          refine gx_iload_n hx dX9_goes_145 rfl ?_
                                          refine gx_cald hx dX9_goes_146 (by decide) rfl (by omega) (by omega) (by decide) ?_
                                          rw [hu74 (n + 1 + j) (by omega)]
                                          have hcj := ht3 (n + 1 + j) (by omega)
                                          refine gx_iadd hx dX9_goes_147 ?_
                                          refine gx_bipush hx dX9_goes_148 (by decide) ?_
                                          refine gx_isub hx dX9_goes_150 ?_
                                          refine gx_put hx fpX9_106 dX9_goes_151 (by decide) rfl rfl rfl rfl 14 rfl ?_
                                          refine gx_iinc hx dX9_goes_154 (Nat.le_of_ble_eq_true rfl) rfl ?_
                                          refine gx_aload_n hx dX9_goes_157 rfl ?_
                                          refine gx_iconst hx dX9_goes_158 ?_
                                          refine gx_put hx fpX9_102 dX9_goes_159 (by decide) rfl rfl rfl rfl 13 rfl ?_
                                          refine gx_iinc hx dX9_goes_162 (Nat.le_of_ble_eq_true rfl) rfl ?_
                                          refine gx_goto (tgt := 119) hx dX9_goes_165 (by decide) ?_
                                          refine GJ.cong ?_ rfl rfl (ih2 (j + 1, upd2 (upd2 υ 70 14 (10 * nF T (n + 1) j + (ch T (n + 1 + j) : Int) - 48)) 70 13 1) ⟨by omega, by dsimp only; omega, ?_, fun q hq => ?_, ?_, ?_, hFu.trans (FR.trans (FR.updF rfl) (FR.updF rfl))⟩ (by dsimp only; omega))
                                          · dsimp only
                                            rw [show ((n + 1 + (j + 1) : Nat) : Int) = ((n + 1 + j : Nat) : Int) + 1 by omega]
                                            rfl
                                          · dsimp only
                                            rw [hdg, show 20 - j = (20 - (j + 1)) + 1 by omega, dgF_step (by rw [henl]; split <;> omega)]
                                            rfl
                                          · dsimp only at hq
                                            rcases Nat.lt_or_ge q j with h | h
                                            · exact hfig q h
                                            · have e : q = j := by omega
                                              subst e
                                              omega
                                          · dsimp only
                                            rw [upd2_z (by decide), upd2_at, nF]
                                            omega
                                          · dsimp only
                                            rw [upd2_at, if_pos (by omega)])))
                           · first
                             | (exfalso; omega)
                             | (refine gx_iload_n hx dX9_goes_111 rfl ?_
                                refine hret _ _ _ _ _ _ _ (by decide) (by decide) dX9_goes_112 rfl rfl ?_
                                have hm9 : mt T k = n := by rw [hmt, if_pos (by omega)]
                                have hnw : ¬ isW T k := fun hw => by have w1 := hw.1; have w2 := hw.2; omega
                                exact ⟨by rw [hm9], by rw [if_neg hnw]; exact h13, fun h => absurd h hnw, hFt⟩)))
                 · first
                   | (exfalso; omega)
                   | (refine gx_aload_n hx dX9_goes_68 rfl ?_
                      refine gx_iload_n hx dX9_goes_69 rfl ?_
                      refine gx_iload_n hx dX9_goes_70 rfl ?_
                      refine gx_icmp_ne (tgt := 86) hx dX9_goes_71 (by decide) ⟨by omega, by omega⟩ ⟨by omega, by omega⟩ (fun h71 => ?_) (fun h71 => ?_)
                      · first
                        | (exfalso; omega)
                        | (refine gx_iconst hx dX9_goes_86 ?_
                           refine gx_put hx fpX9_102 dX9_goes_87 (by decide) rfl rfl rfl rfl 13 rfl ?_
                           refine gx_iload_n hx dX9_goes_90 rfl ?_
                           refine hret _ _ _ _ _ _ _ (by decide) (by decide) dX9_goes_91 rfl rfl ?_
                           have hm9 : mt T k = n := by rw [hmt, if_pos (by omega)]
                           refine ⟨by rw [hm9], ?_, ?_, hFt.trans (FR.updF rfl)⟩
                           · rw [upd2_at]
                             first
                             | rw [if_pos (show isW T k from ⟨by omega, by omega⟩)]
                             | rw [if_neg (show ¬ isW T k from fun hw => by have w1 := hw.1; have w2 := hw.2; omega)]
                           · intro hw
                             have w1 := hw.1
                             have w2 := hw.2
                             rw [upd2_z (by decide), hτ, upd2_at, nmb, if_pos (by omega)])
                      · first
                        | (exfalso; omega)
                        | (refine gx_iload_n hx dX9_goes_74 rfl ?_
                           refine gx_aload_n hx dX9_goes_75 rfl ?_
                           refine gx_getI hx flX9_96 dX9_goes_76 (by decide) rfl rfl 7 rfl ?_
                           rw [h7]
                           refine gx_icmp_ne (tgt := 86) hx dX9_goes_79 (by decide) ⟨by omega, by omega⟩ ⟨by omega, by omega⟩ (fun h79 => ?_) (fun h79 => ?_)
                           · first
                             | (exfalso; omega)
                             | (refine gx_iconst hx dX9_goes_86 ?_
                                refine gx_put hx fpX9_102 dX9_goes_87 (by decide) rfl rfl rfl rfl 13 rfl ?_
                                refine gx_iload_n hx dX9_goes_90 rfl ?_
                                refine hret _ _ _ _ _ _ _ (by decide) (by decide) dX9_goes_91 rfl rfl ?_
                                have hm9 : mt T k = n := by rw [hmt, if_pos (by omega)]
                                refine ⟨by rw [hm9], ?_, ?_, hFt.trans (FR.updF rfl)⟩
                                · rw [upd2_at]
                                  first
                                  | rw [if_pos (show isW T k from ⟨by omega, by omega⟩)]
                                  | rw [if_neg (show ¬ isW T k from fun hw => by have w1 := hw.1; have w2 := hw.2; omega)]
                                · intro hw
                                  have w1 := hw.1
                                  have w2 := hw.2
                                  rw [upd2_z (by decide), hτ, upd2_at, nmb, if_pos (by omega)])
                           · first
                             | (exfalso; omega)
                             | (refine gx_iconst hx dX9_goes_82 ?_
                                refine gx_goto (tgt := 87) hx dX9_goes_83 (by decide) ?_
                                refine gx_put hx fpX9_102 dX9_goes_87 (by decide) rfl rfl rfl rfl 13 rfl ?_
                                refine gx_iload_n hx dX9_goes_90 rfl ?_
                                refine hret _ _ _ _ _ _ _ (by decide) (by decide) dX9_goes_91 rfl rfl ?_
                                have hm9 : mt T k = n := by rw [hmt, if_pos (by omega)]
                                refine ⟨by rw [hm9], ?_, ?_, hFt.trans (FR.updF rfl)⟩
                                · rw [upd2_at]
                                  first
                                  | rw [if_pos (show isW T k from ⟨by omega, by omega⟩)]
                                  | rw [if_neg (show ¬ isW T k from fun hw => by have w1 := hw.1; have w2 := hw.2; omega)]
                                · intro hw
                                  have w1 := hw.1
                                  have w2 := hw.2
                                  rw [upd2_z (by decide), hτ, upd2_at, nmb, if_pos (by omega)])))))
       · first
         | (exfalso; omega)
         | (refine gx_aload_n hx dX9_goes_31 rfl ?_
            refine gx_getR hx flX9_19 dX9_goes_32 (by decide) rfl rfl ?_
            refine gx_iload_n hx dX9_goes_35 rfl ?_
            refine gx_cald hx dX9_goes_36 (by decide) rfl (by omega) (by omega) (by decide) ?_
            rw [h74 n (by omega)]
            have hcn := ht3 n (by omega)
            refine gx_aload_n hx dX9_goes_37 rfl ?_
            refine gx_getR hx flX9_33 dX9_goes_38 (by decide) rfl rfl ?_
            refine gx_bipush hx dX9_goes_41 (by decide) ?_
            refine gx_iload_n hx dX9_goes_43 rfl ?_
            refine gx_imul hx dX9_goes_44 ?_
            refine gx_iload_n hx dX9_goes_45 rfl ?_
            refine gx_iadd hx dX9_goes_46 ?_
            refine gx_iald hx dX9_goes_47 (by decide) rfl (by omega) (by omega) (by decide) ?_
            rw [h77 n (by omega), nmA_in (by omega)]
            obtain ⟨-, nc1, nc2⟩ := nm_byt k (by omega) n (by omega)
            refine gx_icmp_ne (tgt := 57) hx dX9_goes_48 (by decide) ⟨by omega, by omega⟩ ⟨by omega, by omega⟩ (fun h48 => ?_) (fun h48 => ?_)
            · first
              | (exfalso; omega)
              | (have hst : pm T k = n := by
                   rw [hpm]
                   exact pmF_stop (by omega)
                 have hmt : mt T k = if n < nmL k ∨ k = 7 ∨ T.length ≤ n ∨ ch T n ≠ 32 then n else dgF T (eNd T k) 20 (n + 1) := by
                   unfold mt
                   rw [hst]
                 have hlL : (k = 7 ∧ lL k = nmL k) ∨ (k ≠ 7 ∧ lL k = nmL k + 2) := by
                   unfold lL
                   split <;> omega
                 refine gx_iload_n hx dX9_goes_57 rfl ?_
                 refine gx_iload_n hx dX9_goes_58 rfl ?_
                 refine gx_icmp_lt (tgt := 68) hx dX9_goes_59 (by decide) ⟨by omega, by omega⟩ ⟨by omega, by omega⟩ (fun h59 => ?_) (fun h59 => ?_)
                 · first
                   | (exfalso; omega)
                   | (refine gx_aload_n hx dX9_goes_68 rfl ?_
                      refine gx_iload_n hx dX9_goes_69 rfl ?_
                      refine gx_iload_n hx dX9_goes_70 rfl ?_
                      refine gx_icmp_ne (tgt := 86) hx dX9_goes_71 (by decide) ⟨by omega, by omega⟩ ⟨by omega, by omega⟩ (fun h71 => ?_) (fun h71 => ?_)
                      · first
                        | (exfalso; omega)
                        | (refine gx_iconst hx dX9_goes_86 ?_
                           refine gx_put hx fpX9_102 dX9_goes_87 (by decide) rfl rfl rfl rfl 13 rfl ?_
                           refine gx_iload_n hx dX9_goes_90 rfl ?_
                           refine hret _ _ _ _ _ _ _ (by decide) (by decide) dX9_goes_91 rfl rfl ?_
                           have hm9 : mt T k = n := by rw [hmt, if_pos (by omega)]
                           refine ⟨by rw [hm9], ?_, ?_, hFt.trans (FR.updF rfl)⟩
                           · rw [upd2_at]
                             first
                             | rw [if_pos (show isW T k from ⟨by omega, by omega⟩)]
                             | rw [if_neg (show ¬ isW T k from fun hw => by have w1 := hw.1; have w2 := hw.2; omega)]
                           · intro hw
                             have w1 := hw.1
                             have w2 := hw.2
                             rw [upd2_z (by decide), hτ, upd2_at, nmb, if_pos (by omega)])
                      · first
                        | (exfalso; omega)
                        | (refine gx_iload_n hx dX9_goes_74 rfl ?_
                           refine gx_aload_n hx dX9_goes_75 rfl ?_
                           refine gx_getI hx flX9_96 dX9_goes_76 (by decide) rfl rfl 7 rfl ?_
                           rw [h7]
                           refine gx_icmp_ne (tgt := 86) hx dX9_goes_79 (by decide) ⟨by omega, by omega⟩ ⟨by omega, by omega⟩ (fun h79 => ?_) (fun h79 => ?_)
                           · first
                             | (exfalso; omega)
                             | (refine gx_iconst hx dX9_goes_86 ?_
                                refine gx_put hx fpX9_102 dX9_goes_87 (by decide) rfl rfl rfl rfl 13 rfl ?_
                                refine gx_iload_n hx dX9_goes_90 rfl ?_
                                refine hret _ _ _ _ _ _ _ (by decide) (by decide) dX9_goes_91 rfl rfl ?_
                                have hm9 : mt T k = n := by rw [hmt, if_pos (by omega)]
                                refine ⟨by rw [hm9], ?_, ?_, hFt.trans (FR.updF rfl)⟩
                                · rw [upd2_at]
                                  first
                                  | rw [if_pos (show isW T k from ⟨by omega, by omega⟩)]
                                  | rw [if_neg (show ¬ isW T k from fun hw => by have w1 := hw.1; have w2 := hw.2; omega)]
                                · intro hw
                                  have w1 := hw.1
                                  have w2 := hw.2
                                  rw [upd2_z (by decide), hτ, upd2_at, nmb, if_pos (by omega)])
                           · first
                             | (exfalso; omega)
                             | (refine gx_iconst hx dX9_goes_82 ?_
                                refine gx_goto (tgt := 87) hx dX9_goes_83 (by decide) ?_
                                refine gx_put hx fpX9_102 dX9_goes_87 (by decide) rfl rfl rfl rfl 13 rfl ?_
                                refine gx_iload_n hx dX9_goes_90 rfl ?_
                                refine hret _ _ _ _ _ _ _ (by decide) (by decide) dX9_goes_91 rfl rfl ?_
                                have hm9 : mt T k = n := by rw [hmt, if_pos (by omega)]
                                refine ⟨by rw [hm9], ?_, ?_, hFt.trans (FR.updF rfl)⟩
                                · rw [upd2_at]
                                  first
                                  | rw [if_pos (show isW T k from ⟨by omega, by omega⟩)]
                                  | rw [if_neg (show ¬ isW T k from fun hw => by have w1 := hw.1; have w2 := hw.2; omega)]
                                · intro hw
                                  have w1 := hw.1
                                  have w2 := hw.2
                                  rw [upd2_z (by decide), hτ, upd2_at, nmb, if_pos (by omega)])))
                 · first
                   | (exfalso; omega)
                   | (refine gx_iload_n hx dX9_goes_62 rfl ?_
                      refine gx_bipush hx dX9_goes_63 (by decide) ?_
                      refine gx_icmp_ne (tgt := 92) hx dX9_goes_65 (by decide) ⟨by omega, by omega⟩ ⟨by omega, by omega⟩ (fun h65 => ?_) (fun h65 => ?_)
                      · first
                        | (exfalso; omega)
                        | (refine gx_iload_n hx dX9_goes_92 rfl ?_
                           refine gx_aload_n hx dX9_goes_93 rfl ?_
                           refine gx_getI hx flX9_96 dX9_goes_94 (by decide) rfl rfl 7 rfl ?_
                           rw [h7]
                           refine gx_icmp_eq (tgt := 111) hx dX9_goes_97 (by decide) ⟨by omega, by omega⟩ ⟨by omega, by omega⟩ (fun h97 => ?_) (fun h97 => ?_)
                           · first
                             | (exfalso; omega)
                             | (refine gx_iload_n hx dX9_goes_111 rfl ?_
                                refine hret _ _ _ _ _ _ _ (by decide) (by decide) dX9_goes_112 rfl rfl ?_
                                have hm9 : mt T k = n := by rw [hmt, if_pos (by omega)]
                                have hnw : ¬ isW T k := fun hw => by have w1 := hw.1; have w2 := hw.2; omega
                                exact ⟨by rw [hm9], by rw [if_neg hnw]; exact h13, fun h => absurd h hnw, hFt⟩)
                           · first
                             | (exfalso; omega)
                             | (refine gx_aload_n hx dX9_goes_100 rfl ?_
                                refine gx_getR hx flX9_19 dX9_goes_101 (by decide) rfl rfl ?_
                                refine gx_iload_n hx dX9_goes_104 rfl ?_
                                refine gx_cald hx dX9_goes_105 (by decide) rfl (by omega) (by omega) (by decide) ?_
                                rw [h74 n (by omega)]
                                have hcn := ht3 n (by omega)
                                refine gx_bipush hx dX9_goes_106 (by decide) ?_
                                refine gx_icmp_eq (tgt := 113) hx dX9_goes_108 (by decide) ⟨by omega, by omega⟩ ⟨by omega, by omega⟩ (fun h108 => ?_) (fun h108 => ?_)
                                · first
                                  | (exfalso; omega)
                                  | (refine gx_iinc hx dX9_goes_113 (Nat.le_of_ble_eq_true rfl) rfl ?_
                                     refine gx_iconst hx dX9_goes_116 ?_
                                     refine gx_istore hx dX9_goes_117 (Nat.le_of_ble_eq_true rfl) ?_
                                     have hen : n + 1 ≤ eNd T k := by unfold eNd; split <;> omega
                                     have henl : eNd T k = if nmL k + 3 < T.length then nmL k + 3 else T.length := rfl
                                     refine GJ.cong (L' := [some (.inr 70), some (.inl (k : Int)), some (.inl (nmL k : Int)), some (.inl ((n + 1 + 0 : Nat) : Int)), some (.inl ((0 : Nat) : Int))]) (st' := []) rfl rfl rfl ?_
                                     refine gx_loop (α := Nat × Sg) (fun x => x.1 ≤ 2 ∧ n + 1 + x.1 ≤ T.length ∧ dgF T (eNd T k) 20 (n + 1) = dgF T (eNd T k) (20 - x.1) (n + 1 + x.1) ∧ (∀ q, q < x.1 → 48 ≤ ch T (n + 1 + q) ∧ ch T (n + 1 + q) ≤ 57) ∧ x.2 70 14 = nF T (n + 1) x.1 ∧ x.2 70 13 = (if 0 < x.1 then 1 else 0) ∧ FR σ x.2 c00 fW) (fun x => 20 - x.1) (fun x => [some (.inr 70), some (.inl (k : Int)), some (.inl (nmL k : Int)), some (.inl ((n + 1 + x.1 : Nat) : Int)), some (.inl (x.1 : Int))]) (fun _ => []) (fun x => x.2) ?_ (0, τ) ⟨Nat.zero_le _, by dsimp only; omega, rfl, fun q hq => absurd hq (Nat.not_lt_zero _), by dsimp only; rw [hτ, upd2_at]; rfl, h13, hFt⟩
                                     rintro ⟨j, υ⟩ ⟨hj2, hjl, hdg, hfig, hu14, hu13, hFu⟩ ih2
                                     dsimp only at hj2 hjl hdg hfig hu14 hu13 hFu ih2 ⊢
                                     have hnr := nF_rg (T := T) (s := n + 1) j hj2 hfig
                                     have hu13' : (0 < j ∧ υ 70 13 = 1) ∨ (j = 0 ∧ υ 70 13 = 0) := by
                                       split at hu13 <;> omega
                                     have hTt : MT υ T := hT.same (hFu.2 7 rfl) (hFu.1 74 (by decide) rfl)
                                     have hu7 : υ 70 7 = (T.length : Int) := hTt.2.1
                                     have hu74 : ∀ i : Nat, i < T.length → υ 74 (i : Int) = (ch T i : Int) := fun i hi => (hTt.2.2 i hi).1
                                     refine gx_iload hx dX9_goes_119 rfl ?_
                                     refine gx_iconst hx dX9_goes_121 ?_
                                     refine gx_icmp_ge (tgt := 168) hx dX9_goes_122 (by decide) ⟨by omega, by omega⟩ ⟨by omega, by omega⟩ (fun h122 => ?_) (fun h122 => ?_)
                                     · first
                                       | (exfalso; omega)
                                       | (refine gx_aload_n hx dX9_goes_168 rfl ?_
                                          refine gx_aload_n hx dX9_goes_169 rfl ?_
                                          refine gx_getI hx flX9_102 dX9_goes_170 (by decide) rfl rfl 13 rfl ?_
                                          rw [hu13]
                                          refine gx_if_eq (tgt := 188) hx dX9_goes_173 (by decide) ⟨by omega, by omega⟩ (fun h173 => ?_) (fun h173 => ?_)
                                          · first
                                            | (exfalso; omega)
                                            | (refine gx_iconst hx dX9_goes_188 ?_
                                               refine gx_put hx fpX9_102 dX9_goes_189 (by decide) rfl rfl rfl rfl 13 rfl ?_
                                               refine gx_iload_n hx dX9_goes_192 rfl ?_
                                               refine hret _ _ _ _ _ _ _ (by decide) (by decide) dX9_goes_193 rfl rfl ?_
                                               have hm9 : mt T k = n + 1 + j := by
                                                 rw [hmt, if_neg (by omega), hdg, dgF_stop (by rw [henl]; split <;> omega)]
                                               refine ⟨by rw [hm9], ?_, ?_, hFu.trans (FR.updF rfl)⟩
                                               · rw [upd2_at]
                                                 first
                                                 | rw [if_pos (show isW T k from ⟨by omega, by omega⟩)]
                                                 | rw [if_neg (show ¬ isW T k from fun hw => by have w1 := hw.1; have w2 := hw.2; omega)]
                                               · intro hw
                                                 have w1 := hw.1
                                                 have w2 := hw.2
                                                 rw [upd2_z (by decide), hu14, nmb, if_neg (by omega), show T.length - (nmL k + 1) = j by omega, show nmL k = n by omega])
                                          · first
                                            | (exfalso; omega)
                                            | (refine gx_iload_n hx dX9_goes_176 rfl ?_
                                               refine gx_aload_n hx dX9_goes_177 rfl ?_
                                               refine gx_getI hx flX9_96 dX9_goes_178 (by decide) rfl rfl 7 rfl ?_
                                               rw [hu7]
                                               refine gx_icmp_ne (tgt := 188) hx dX9_goes_181 (by decide) ⟨by omega, by omega⟩ ⟨by omega, by omega⟩ (fun h181 => ?_) (fun h181 => ?_)
                                               · first
                                                 | (exfalso; omega)
                                                 | (refine gx_iconst hx dX9_goes_188 ?_
                                                    refine gx_put hx fpX9_102 dX9_goes_189 (by decide) rfl rfl rfl rfl 13 rfl ?_
                                                    refine gx_iload_n hx dX9_goes_192 rfl ?_
                                                    refine hret _ _ _ _ _ _ _ (by decide) (by decide) dX9_goes_193 rfl rfl ?_
                                                    have hm9 : mt T k = n + 1 + j := by
                                                      rw [hmt, if_neg (by omega), hdg, dgF_stop (by rw [henl]; split <;> omega)]
                                                    refine ⟨by rw [hm9], ?_, ?_, hFu.trans (FR.updF rfl)⟩
                                                    · rw [upd2_at]
                                                      first
                                                      | rw [if_pos (show isW T k from ⟨by omega, by omega⟩)]
                                                      | rw [if_neg (show ¬ isW T k from fun hw => by have w1 := hw.1; have w2 := hw.2; omega)]
                                                    · intro hw
                                                      have w1 := hw.1
                                                      have w2 := hw.2
                                                      rw [upd2_z (by decide), hu14, nmb, if_neg (by omega), show T.length - (nmL k + 1) = j by omega, show nmL k = n by omega])
                                               · first
                                                 | (exfalso; omega)
                                                 | (refine gx_iconst hx dX9_goes_184 ?_
                                                    refine gx_goto (tgt := 189) hx dX9_goes_185 (by decide) ?_
                                                    refine gx_put hx fpX9_102 dX9_goes_189 (by decide) rfl rfl rfl rfl 13 rfl ?_
                                                    refine gx_iload_n hx dX9_goes_192 rfl ?_
                                                    refine hret _ _ _ _ _ _ _ (by decide) (by decide) dX9_goes_193 rfl rfl ?_
                                                    have hm9 : mt T k = n + 1 + j := by
                                                      rw [hmt, if_neg (by omega), hdg, dgF_stop (by rw [henl]; split <;> omega)]
                                                    refine ⟨by rw [hm9], ?_, ?_, hFu.trans (FR.updF rfl)⟩
                                                    · rw [upd2_at]
                                                      first
                                                      | rw [if_pos (show isW T k from ⟨by omega, by omega⟩)]
                                                      | rw [if_neg (show ¬ isW T k from fun hw => by have w1 := hw.1; have w2 := hw.2; omega)]
                                                    · intro hw
                                                      have w1 := hw.1
                                                      have w2 := hw.2
                                                      rw [upd2_z (by decide), hu14, nmb, if_neg (by omega), show T.length - (nmL k + 1) = j by omega, show nmL k = n by omega])))
                                     · first
                                       | (exfalso; omega)
                                       | (refine gx_aload_n hx dX9_goes_125 rfl ?_
                                          refine gx_iload_n hx dX9_goes_126 rfl ?_
                                          rw [show ((n + 1 + j : Nat) : Int) = ((n + 1 + j : Nat) : Int) from rfl]
                                          refine gx_callI hx (c_X9_isFigure (T := T) (i := n + 1 + j) _ _ hTt (by omega)) lkX9_109 mwX9_isFigure dX9_goes_127 (by decide) rfl rfl rfl rfl (Nat.le_of_ble_eq_true rfl) (by decide) ⟨by decide, by decide⟩ (fun z_127 σ_127 hz_127 => ?_)
                                          obtain ⟨e9, rfl⟩ := hz_127
                                          replace e9 := ite10 e9
                                          refine gx_if_eq (tgt := 168) hx dX9_goes_130 (by decide) ⟨by omega, by omega⟩ (fun h130 => ?_) (fun h130 => ?_)
                                          · first
                                            | (exfalso; omega)
                                            | (refine gx_aload_n hx dX9_goes_168 rfl ?_
                                               refine gx_aload_n hx dX9_goes_169 rfl ?_
                                               refine gx_getI hx flX9_102 dX9_goes_170 (by decide) rfl rfl 13 rfl ?_
                                               rw [hu13]
                                               refine gx_if_eq (tgt := 188) hx dX9_goes_173 (by decide) ⟨by omega, by omega⟩ (fun h173 => ?_) (fun h173 => ?_)
                                               · first
                                                 | (exfalso; omega)
                                                 | (refine gx_iconst hx dX9_goes_188 ?_
                                                    refine gx_put hx fpX9_102 dX9_goes_189 (by decide) rfl rfl rfl rfl 13 rfl ?_
                                                    refine gx_iload_n hx dX9_goes_192 rfl ?_
                                                    refine hret _ _ _ _ _ _ _ (by decide) (by decide) dX9_goes_193 rfl rfl ?_
                                                    have hm9 : mt T k = n + 1 + j := by
                                                      rw [hmt, if_neg (by omega), hdg, dgF_stop (by rw [henl]; split <;> omega)]
                                                    refine ⟨by rw [hm9], ?_, ?_, hFu.trans (FR.updF rfl)⟩
                                                    · rw [upd2_at]
                                                      first
                                                      | rw [if_pos (show isW T k from ⟨by omega, by omega⟩)]
                                                      | rw [if_neg (show ¬ isW T k from fun hw => by have w1 := hw.1; have w2 := hw.2; omega)]
                                                    · intro hw
                                                      have w1 := hw.1
                                                      have w2 := hw.2
                                                      rw [upd2_z (by decide), hu14, nmb, if_neg (by omega), show T.length - (nmL k + 1) = j by omega, show nmL k = n by omega])
                                               · first
                                                 | (exfalso; omega)
                                                 | (refine gx_iload_n hx dX9_goes_176 rfl ?_
                                                    refine gx_aload_n hx dX9_goes_177 rfl ?_
                                                    refine gx_getI hx flX9_96 dX9_goes_178 (by decide) rfl rfl 7 rfl ?_
                                                    rw [hu7]
                                                    refine gx_icmp_ne (tgt := 188) hx dX9_goes_181 (by decide) ⟨by omega, by omega⟩ ⟨by omega, by omega⟩ (fun h181 => ?_) (fun h181 => ?_)
                                                    · first
                                                      | (exfalso; omega)
                                                      | (refine gx_iconst hx dX9_goes_188 ?_
                                                         refine gx_put hx fpX9_102 dX9_goes_189 (by decide) rfl rfl rfl rfl 13 rfl ?_
                                                         refine gx_iload_n hx dX9_goes_192 rfl ?_
                                                         refine hret _ _ _ _ _ _ _ (by decide) (by decide) dX9_goes_193 rfl rfl ?_
                                                         have hm9 : mt T k = n + 1 + j := by
                                                           rw [hmt, if_neg (by omega), hdg, dgF_stop (by rw [henl]; split <;> omega)]
                                                         refine ⟨by rw [hm9], ?_, ?_, hFu.trans (FR.updF rfl)⟩
                                                         · rw [upd2_at]
                                                           first
                                                           | rw [if_pos (show isW T k from ⟨by omega, by omega⟩)]
                                                           | rw [if_neg (show ¬ isW T k from fun hw => by have w1 := hw.1; have w2 := hw.2; omega)]
                                                         · intro hw
                                                           have w1 := hw.1
                                                           have w2 := hw.2
                                                           rw [upd2_z (by decide), hu14, nmb, if_neg (by omega), show T.length - (nmL k + 1) = j by omega, show nmL k = n by omega])
                                                    · first
                                                      | (exfalso; omega)
                                                      | (refine gx_iconst hx dX9_goes_184 ?_
                                                         refine gx_goto (tgt := 189) hx dX9_goes_185 (by decide) ?_
                                                         refine gx_put hx fpX9_102 dX9_goes_189 (by decide) rfl rfl rfl rfl 13 rfl ?_
                                                         refine gx_iload_n hx dX9_goes_192 rfl ?_
                                                         refine hret _ _ _ _ _ _ _ (by decide) (by decide) dX9_goes_193 rfl rfl ?_
                                                         have hm9 : mt T k = n + 1 + j := by
                                                           rw [hmt, if_neg (by omega), hdg, dgF_stop (by rw [henl]; split <;> omega)]
                                                         refine ⟨by rw [hm9], ?_, ?_, hFu.trans (FR.updF rfl)⟩
                                                         · rw [upd2_at]
                                                           first
                                                           | rw [if_pos (show isW T k from ⟨by omega, by omega⟩)]
                                                           | rw [if_neg (show ¬ isW T k from fun hw => by have w1 := hw.1; have w2 := hw.2; omega)]
                                                         · intro hw
                                                           have w1 := hw.1
                                                           have w2 := hw.2
                                                           rw [upd2_z (by decide), hu14, nmb, if_neg (by omega), show T.length - (nmL k + 1) = j by omega, show nmL k = n by omega])))
                                          · first
                                            | (exfalso; omega)
                                            | (refine gx_aload_n hx dX9_goes_133 rfl ?_
                                               refine gx_bipush hx dX9_goes_134 (by decide) ?_
                                               refine gx_aload_n hx dX9_goes_136 rfl ?_
                                               refine gx_getI hx flX9_106 dX9_goes_137 (by decide) rfl rfl 14 rfl ?_
                                               rw [hu14]
                                               refine gx_imul hx dX9_goes_140 ?_
                                               refine gx_aload_n hx dX9_goes_141 rfl ?_
                                               refine gx_getR hx flX9_19 dX9_goes_142 (by decide) rfl rfl ?_
                                               refine gx_iload_n hx dX9_goes_145 rfl ?_
                                               refine gx_cald hx dX9_goes_146 (by decide) rfl (by omega) (by omega) (by decide) ?_
                                               rw [hu74 (n + 1 + j) (by omega)]
                                               have hcj := ht3 (n + 1 + j) (by omega)
                                               refine gx_iadd hx dX9_goes_147 ?_
                                               refine gx_bipush hx dX9_goes_148 (by decide) ?_
                                               refine gx_isub hx dX9_goes_150 ?_
                                               refine gx_put hx fpX9_106 dX9_goes_151 (by decide) rfl rfl rfl rfl 14 rfl ?_
                                               refine gx_iinc hx dX9_goes_154 (Nat.le_of_ble_eq_true rfl) rfl ?_
                                               refine gx_aload_n hx dX9_goes_157 rfl ?_
                                               refine gx_iconst hx dX9_goes_158 ?_
                                               refine gx_put hx fpX9_102 dX9_goes_159 (by decide) rfl rfl rfl rfl 13 rfl ?_
                                               refine gx_iinc hx dX9_goes_162 (Nat.le_of_ble_eq_true rfl) rfl ?_
                                               refine gx_goto (tgt := 119) hx dX9_goes_165 (by decide) ?_
                                               refine GJ.cong ?_ rfl rfl (ih2 (j + 1, upd2 (upd2 υ 70 14 (10 * nF T (n + 1) j + (ch T (n + 1 + j) : Int) - 48)) 70 13 1) ⟨by omega, by dsimp only; omega, ?_, fun q hq => ?_, ?_, ?_, hFu.trans (FR.trans (FR.updF rfl) (FR.updF rfl))⟩ (by dsimp only; omega))
                                               · dsimp only
                                                 rw [show ((n + 1 + (j + 1) : Nat) : Int) = ((n + 1 + j : Nat) : Int) + 1 by omega]
                                                 rfl
                                               · dsimp only
                                                 rw [hdg, show 20 - j = (20 - (j + 1)) + 1 by omega, dgF_step (by rw [henl]; split <;> omega)]
                                                 rfl
                                               · dsimp only at hq
                                                 rcases Nat.lt_or_ge q j with h | h
                                                 · exact hfig q h
                                                 · have e : q = j := by omega
                                                   subst e
                                                   omega
                                               · dsimp only
                                                 rw [upd2_z (by decide), upd2_at, nF]
                                                 omega
                                               · dsimp only
                                                 rw [upd2_at, if_pos (by omega)])))
                                · first
                                  | (exfalso; omega)
                                  | (refine gx_iload_n hx dX9_goes_111 rfl ?_
                                     refine hret _ _ _ _ _ _ _ (by decide) (by decide) dX9_goes_112 rfl rfl ?_
                                     have hm9 : mt T k = n := by rw [hmt, if_pos (by omega)]
                                     have hnw : ¬ isW T k := fun hw => by have w1 := hw.1; have w2 := hw.2; omega
                                     exact ⟨by rw [hm9], by rw [if_neg hnw]; exact h13, fun h => absurd h hnw, hFt⟩)))
                      · first
                        | (exfalso; omega)
                        | (refine gx_aload_n hx dX9_goes_68 rfl ?_
                           refine gx_iload_n hx dX9_goes_69 rfl ?_
                           refine gx_iload_n hx dX9_goes_70 rfl ?_
                           refine gx_icmp_ne (tgt := 86) hx dX9_goes_71 (by decide) ⟨by omega, by omega⟩ ⟨by omega, by omega⟩ (fun h71 => ?_) (fun h71 => ?_)
                           · first
                             | (exfalso; omega)
                             | (refine gx_iconst hx dX9_goes_86 ?_
                                refine gx_put hx fpX9_102 dX9_goes_87 (by decide) rfl rfl rfl rfl 13 rfl ?_
                                refine gx_iload_n hx dX9_goes_90 rfl ?_
                                refine hret _ _ _ _ _ _ _ (by decide) (by decide) dX9_goes_91 rfl rfl ?_
                                have hm9 : mt T k = n := by rw [hmt, if_pos (by omega)]
                                refine ⟨by rw [hm9], ?_, ?_, hFt.trans (FR.updF rfl)⟩
                                · rw [upd2_at]
                                  first
                                  | rw [if_pos (show isW T k from ⟨by omega, by omega⟩)]
                                  | rw [if_neg (show ¬ isW T k from fun hw => by have w1 := hw.1; have w2 := hw.2; omega)]
                                · intro hw
                                  have w1 := hw.1
                                  have w2 := hw.2
                                  rw [upd2_z (by decide), hτ, upd2_at, nmb, if_pos (by omega)])
                           · first
                             | (exfalso; omega)
                             | (refine gx_iload_n hx dX9_goes_74 rfl ?_
                                refine gx_aload_n hx dX9_goes_75 rfl ?_
                                refine gx_getI hx flX9_96 dX9_goes_76 (by decide) rfl rfl 7 rfl ?_
                                rw [h7]
                                refine gx_icmp_ne (tgt := 86) hx dX9_goes_79 (by decide) ⟨by omega, by omega⟩ ⟨by omega, by omega⟩ (fun h79 => ?_) (fun h79 => ?_)
                                · first
                                  | (exfalso; omega)
                                  | (refine gx_iconst hx dX9_goes_86 ?_
                                     refine gx_put hx fpX9_102 dX9_goes_87 (by decide) rfl rfl rfl rfl 13 rfl ?_
                                     refine gx_iload_n hx dX9_goes_90 rfl ?_
                                     refine hret _ _ _ _ _ _ _ (by decide) (by decide) dX9_goes_91 rfl rfl ?_
                                     have hm9 : mt T k = n := by rw [hmt, if_pos (by omega)]
                                     refine ⟨by rw [hm9], ?_, ?_, hFt.trans (FR.updF rfl)⟩
                                     · rw [upd2_at]
                                       first
                                       | rw [if_pos (show isW T k from ⟨by omega, by omega⟩)]
                                       | rw [if_neg (show ¬ isW T k from fun hw => by have w1 := hw.1; have w2 := hw.2; omega)]
                                     · intro hw
                                       have w1 := hw.1
                                       have w2 := hw.2
                                       rw [upd2_z (by decide), hτ, upd2_at, nmb, if_pos (by omega)])
                                · first
                                  | (exfalso; omega)
                                  | (refine gx_iconst hx dX9_goes_82 ?_
                                     refine gx_goto (tgt := 87) hx dX9_goes_83 (by decide) ?_
                                     refine gx_put hx fpX9_102 dX9_goes_87 (by decide) rfl rfl rfl rfl 13 rfl ?_
                                     refine gx_iload_n hx dX9_goes_90 rfl ?_
                                     refine hret _ _ _ _ _ _ _ (by decide) (by decide) dX9_goes_91 rfl rfl ?_
                                     have hm9 : mt T k = n := by rw [hmt, if_pos (by omega)]
                                     refine ⟨by rw [hm9], ?_, ?_, hFt.trans (FR.updF rfl)⟩
                                     · rw [upd2_at]
                                       first
                                       | rw [if_pos (show isW T k from ⟨by omega, by omega⟩)]
                                       | rw [if_neg (show ¬ isW T k from fun hw => by have w1 := hw.1; have w2 := hw.2; omega)]
                                     · intro hw
                                       have w1 := hw.1
                                       have w2 := hw.2
                                       rw [upd2_z (by decide), hτ, upd2_at, nmb, if_pos (by omega)])))))
            · first
              | (exfalso; omega)
              | (refine gx_iinc hx dX9_goes_51 (Nat.le_of_ble_eq_true rfl) rfl ?_
                 refine gx_goto (tgt := 18) hx dX9_goes_54 (by decide) ?_
                 refine ih (n + 1) ⟨by omega, by omega, ?_⟩ (by omega)
                 rw [hpm, show 20 - n = (20 - (n + 1)) + 1 by omega, pmF_step (by omega)])))
set_option maxRecDepth 20000 in
set_option maxHeartbeats 400000 in
theorem c_X9_insert (g : Gm) (l : Launch) {σ : Sg} {A : AS} {z : Int} (hR : MR σ A) (hz : rg z) : KI g l yX9_insert cX9_insert 7 ((some .int)) (3) 0 0 [.inr 70, .inl z] σ (MPI (fn (sp_insert A z)) σ) := by
  refine startI (own := RX9) (by decide +kernel) rfl (Nat.le_of_ble_eq_true rfl) ?_
  intro X hx _ _ hret
  obtain ⟨P, hs, sv, T, er⟩ := A
  obtain ⟨hM, hH, hS, hT, he1, he2, he3, hN⟩ := id hR
  obtain ⟨hok, hn, hit⟩ := id hM
  have hl40 := hok.1
  obtain ⟨hz1, hz2⟩ := id hz
  have hkr := kR_rg T 8
  have hor := oR_rg T
  have her := eR_le T 8
  have hT12 := hT.1
  have hon := oN_oR T
  refine gx_iconst hx dX9_insert_0 ?_
  refine gx_istore_n hx dX9_insert_1 (Nat.le_of_ble_eq_true rfl) ?_
  refine gx_iconst hx dX9_insert_2 ?_
  refine gx_istore_n hx dX9_insert_3 (Nat.le_of_ble_eq_true rfl) ?_
  refine gx_iconst hx dX9_insert_4 ?_
  refine gx_istore hx dX9_insert_5 (Nat.le_of_ble_eq_true rfl) ?_
  refine gx_iconst hx dX9_insert_7 ?_
  refine gx_istore hx dX9_insert_8 (Nat.le_of_ble_eq_true rfl) ?_
  refine gx_loop (α := Nat × Sg) (fun x => x.1 ≤ 8 ∧ FR σ x.2 c00 fW) (fun x => 8 - x.1) (fun x => [some (.inr 70), some (.inl z), some (.inl (eR T x.1 : Int)), some (.inl (kR T x.1)), some (.inl (oN T x.1)), some (.inl (x.1 : Int)), none]) (fun _ => []) (fun x => x.2) ?_ (0, σ) ⟨Nat.zero_le _, FR.refl⟩
  rintro ⟨k, τ⟩ ⟨hk8, hFt⟩ ih
  dsimp only at hk8 hFt ih ⊢
  refine gx_iload hx dX9_insert_10 rfl ?_
  refine gx_bipush hx dX9_insert_12 (by decide) ?_
  refine gx_icmp_ge (tgt := 76) hx dX9_insert_14 (by decide) ⟨by omega, by omega⟩ ⟨by omega, by omega⟩ (fun h14 => ?_) (fun h14 => ?_)
  · first
    | (exfalso; omega)
    | (have ek : k = 8 := by omega
       subst ek
       rw [hon]
       obtain ⟨oo, hoo⟩ : ∃ oo : Nat, oR T = (oo : Int) := ⟨(oR T).toNat, by omega⟩
       rw [hoo]
       refine gx_aload_n hx dX9_insert_76 rfl ?_
       refine gx_iconst hx dX9_insert_77 ?_
       refine gx_put hx fpX9_96 dX9_insert_78 (by decide) rfl rfl rfl rfl 7 rfl ?_
       have hR1 : MR (upd2 τ 70 7 0) (P, hs, sv, [], er) := (hR.sc hFt.SW).tape
       obtain ⟨υ, hυ⟩ : ∃ υ, υ = upd2 τ 70 7 0 := ⟨_, rfl⟩
       rw [← hυ] at hR1 ⊢
       have hM1 : MP υ P := hR1.1
       have hFv : FR σ υ cA fA := by
         rw [hυ]
         exact FR.trans hFt.SW.SA (FR.updF rfl)
       refine gx_iload_n hx dX9_insert_81 rfl ?_
       refine gx_iconst hx dX9_insert_82 ?_
       refine gx_aload_n hx dX9_insert_83 rfl ?_
       refine gx_getR hx flX9_7 dX9_insert_84 (by decide) rfl rfl ?_
       refine gx_iconst hx dX9_insert_87 ?_
       refine gx_iald hx dX9_insert_88 (by decide) rfl (by omega) (by omega) (by decide) ?_
       rw [hM1.2.1]
       refine gx_callS hx (c_X9_in (v := z) (lo := 0) (hi := (P.length : Int)) _ _ hz ⟨by decide, by decide⟩ ⟨by omega, by omega⟩) lkX9_49 mwX9_in dX9_insert_89 rfl rfl (Nat.le_of_ble_eq_true rfl) (by decide) ⟨by decide, by decide⟩ (fun z_89 σ_89 hz_89 => ?_)
       obtain ⟨e9, rfl⟩ := hz_89
       replace e9 := ite10 e9
       refine gx_if_ne (tgt := 101) hx dX9_insert_92 (by decide) ⟨by omega, by omega⟩ (fun h92 => ?_) (fun h92 => ?_)
       · first
         | (exfalso; omega)
         | (refine gx_iload_n hx dX9_insert_101 rfl ?_
            refine gx_iconst hx dX9_insert_102 ?_
            refine gx_icmp_ne (tgt := 117) hx dX9_insert_103 (by decide) ⟨by omega, by omega⟩ ⟨by omega, by omega⟩ (fun h103 => ?_) (fun h103 => ?_)
            · first
              | (exfalso; omega)
              | (obtain ⟨kk, hkk9⟩ : ∃ kk : Nat, kR T 8 = (kk : Int) := ⟨(kR T 8).toNat, by omega⟩
                 rw [hkk9]
                 refine gx_iload_n hx dX9_insert_117 rfl ?_
                 refine gx_iload hx dX9_insert_118 rfl ?_
                 refine gx_callS hx (c_X9_isOperand (k := kk) (v := oo) _ _ (by omega) (by omega) (by intro h; rw [oR, if_pos (Or.inr (by omega))] at hoo; omega)) lkX9_124 mwX9_isOperand dX9_insert_120 rfl rfl (Nat.le_of_ble_eq_true rfl) (by decide) ⟨by decide, by decide⟩ (fun z_120 σ_120 hz_120 => ?_)
                 obtain ⟨e7, rfl⟩ := hz_120
                 refine gx_if_ne (tgt := 132) hx dX9_insert_123 (by decide) ⟨by omega, by omega⟩ (fun h123 => ?_) (fun h123 => ?_)
                 · first
                   | (exfalso; omega)
                   | (have hok9 : okI kk oo 0 := by
                        rcases e7 with ⟨_, h⟩ | ⟨h, _⟩
                        · exact h
                        · omega
                      have hokb : okB ((kk : Int)).toNat ((oo : Int)).toNat = true := (okB_iff kk oo).mpr hok9
                      refine gx_aload_n hx dX9_insert_132 rfl ?_
                      refine gx_getR hx flX9_7 dX9_insert_133 (by decide) rfl rfl ?_
                      refine gx_iconst hx dX9_insert_136 ?_
                      refine gx_iald hx dX9_insert_137 (by decide) rfl (by omega) (by omega) (by decide) ?_
                      rw [hM1.2.1]
                      refine gx_bipush hx dX9_insert_138 (by decide) ?_
                      refine gx_icmp_eq (tgt := 157) hx dX9_insert_140 (by decide) ⟨by omega, by omega⟩ ⟨by omega, by omega⟩ (fun h140 => ?_) (fun h140 => ?_)
                      · first
                        | (exfalso; omega)
                        | (refine gx_aload_n hx dX9_insert_157 rfl ?_
                           refine gx_iconst hx dX9_insert_158 ?_
                           refine gx_callI hx (c_X9_fails _ _) lkX9_93 mwX9_fails dX9_insert_159 (by decide) rfl rfl rfl rfl (Nat.le_of_ble_eq_true rfl) (by decide) ⟨by decide, by decide⟩ (fun z_159 σ_159 hz_159 => ?_)
                           obtain ⟨rfl, rfl⟩ := hz_159
                           refine hret _ _ _ _ _ _ _ (by decide) (by decide) dX9_insert_162 rfl rfl ?_
                           have hor9 : P.length = 40 ∨ ((kk : Int) = 2 ∧ dfn P ((oo : Int)).toNat P.length ≠ -1) := by
                             first
                             | (left; omega)
                             | (refine Or.inr ⟨by omega, ?_⟩
                                rw [Int.toNat_natCast]
                                omega)
                           exact ⟨3, (P, hs, sv, [], er), by show sp_insert (P, hs, sv, T, er) z = _; rw [sp_insert, if_neg (by omega), if_neg (by omega), hkk9, hoo, if_neg (by rw [hokb]; decide), if_pos hor9], MZ.t hR1 hFv 3 3 rfl⟩)
                      · first
                        | (exfalso; omega)
                        | (refine gx_iload_n hx dX9_insert_143 rfl ?_
                           refine gx_iconst hx dX9_insert_144 ?_
                           refine gx_icmp_ne (tgt := 163) hx dX9_insert_145 (by decide) ⟨by omega, by omega⟩ ⟨by omega, by omega⟩ (fun h145 => ?_) (fun h145 => ?_)
                           · first
                             | (exfalso; omega)
                             | (obtain ⟨p, rfl⟩ : ∃ p : Nat, z = (p : Int) := ⟨z.toNat, by omega⟩
                                refine gx_aload_n hx dX9_insert_163 rfl ?_
                                refine gx_callV hx (c_X9_remembers _ _ hM1 hR1.2.1) lkX9_131 mwX9_remembers dX9_insert_164 (by decide) rfl rfl rfl rfl (Nat.le_of_ble_eq_true rfl) (by decide) ⟨by decide, by decide⟩ (fun σ_164 hz_164 => ?_)
                                obtain ⟨hH2, hF2⟩ := hz_164
                                have hM2 := hM1.fr hF2 rfl
                                refine gx_aload_n hx dX9_insert_167 rfl ?_
                                refine gx_iload_n hx dX9_insert_168 rfl ?_
                                refine gx_callV hx (c_X9_opens (P := P) (p := p) _ _ hM2 (by omega) (by omega)) lkX9_134 mwX9_opens dX9_insert_169 (by decide) rfl rfl rfl rfl (Nat.le_of_ble_eq_true rfl) (by decide) ⟨by decide, by decide⟩ (fun σ_169 hz_169 => ?_)
                                subst hz_169
                                refine gx_aload_n hx dX9_insert_172 rfl ?_
                                refine gx_iload_n hx dX9_insert_173 rfl ?_
                                refine gx_iload_n hx dX9_insert_174 rfl ?_
                                refine gx_iload hx dX9_insert_175 rfl ?_
                                refine gx_iconst hx dX9_insert_177 ?_
                                refine gx_callV hx (c_X9_puts (z := (p : Int)) _ _ (by omega) (by omega)) lkX9_117 mwX9_puts dX9_insert_178 (by decide) rfl rfl rfl rfl (Nat.le_of_ble_eq_true rfl) (by decide) ⟨by decide, by decide⟩ (fun σ_178 hz_178 => ?_)
                                subst hz_178
                                refine gx_aload_n hx dX9_insert_181 rfl ?_
                                refine gx_iload_n hx dX9_insert_182 rfl ?_
                                refine gx_callI hx (c_X9_done _ _) lkX9_90 mwX9_done dX9_insert_183 (by decide) rfl rfl rfl rfl (Nat.le_of_ble_eq_true rfl) (by decide) ⟨by decide, by decide⟩ (fun z_183 σ_183 hz_183 => ?_)
                                obtain ⟨rfl, rfl⟩ := hz_183
                                refine hret _ _ _ _ _ _ _ (by decide) (by decide) dX9_insert_186 rfl rfl ?_
                                have hnd : kk = 2 → dfn P oo P.length = -1 := by
                                  intro h2
                                  first
                                  | (exfalso; omega)
                                  | omega
                                have hor9 : ¬ (P.length = 40 ∨ ((kk : Int) = 2 ∧ dfn P ((oo : Int)).toNat P.length ≠ -1)) := by
                                  rintro (h | ⟨h, h9⟩)
                                  · omega
                                  · rw [Int.toNat_natCast] at h9
                                    exact h9 (hnd (by omega))
                                have hokn : okP (insA P p (kk, oo, 0)) := insA_ok hok (by omega) (by omega) hok9 (fun h2 i hi h => by
                                  have e2 := dfn_first hok hi h.1 h.2
                                  have e3 := hnd h2
                                  dsimp only at e2
                                  omega)
                                have hM3 := MP_ins hM2 (show p ≤ P.length by omega) (by omega) hokn rfl
                                have hF3 := FR.trans (opS_FR (σ := σ_164) (n := P.length) (k := p)) (FR.trans (FR.upd (k := 71) (z := 0) (v := (P.length : Int) + 1) (by decide) rfl) (FR.trans (FR.upd (k := 71) (z := 1 + (p : Int)) (v := (kk : Int)) (by decide) rfl) (FR.trans (FR.upd (k := 71) (z := 41 + (p : Int)) (v := (oo : Int)) (by decide) rfl) (FR.upd (k := 71) (z := 81 + (p : Int)) (v := ((0 : Nat) : Int)) (by decide) rfl))))
                                have hH3 := hH2.same (hF3.2 3 rfl) (hF3.1 72 (by decide) rfl)
                                have hF := hF2.P72.trans hF3.P71
                                exact ⟨0, (insA P p (kk, oo, 0), psh P hs, sv, [], er), by show sp_insert (P, hs, sv, T, er) (p : Int) = _; rw [sp_insert, if_neg (by omega), if_neg (by omega), hkk9, hoo, if_neg (by rw [hokb]; decide), if_neg hor9, Int.toNat_natCast, Int.toNat_natCast, Int.toNat_natCast], MZ.t (hR1.change hM3 hH3 hF) (hFv.trans hF.PA) 0 0 rfl⟩)
                           · first
                             | (exfalso; omega)
                             | (refine gx_aload_n hx dX9_insert_148 rfl ?_
                                refine gx_iload hx dX9_insert_149 rfl ?_
                                refine gx_callI hx (c_X9_defines (lb := oo) _ _ hM1 (by omega)) lkX9_128 mwX9_defines dX9_insert_151 (by decide) rfl rfl rfl rfl (Nat.le_of_ble_eq_true rfl) (by decide) ⟨by decide, by decide⟩ (fun z_151 σ_151 hz_151 => ?_)
                                obtain ⟨rfl, rfl⟩ := hz_151
                                have hdl := dfn_lt P oo P.length
                                refine gx_if_lt (tgt := 163) hx dX9_insert_154 (by decide) ⟨by omega, by omega⟩ (fun h154 => ?_) (fun h154 => ?_)
                                · first
                                  | (exfalso; omega)
                                  | (obtain ⟨p, rfl⟩ : ∃ p : Nat, z = (p : Int) := ⟨z.toNat, by omega⟩
                                     refine gx_aload_n hx dX9_insert_163 rfl ?_
                                     refine gx_callV hx (c_X9_remembers _ _ hM1 hR1.2.1) lkX9_131 mwX9_remembers dX9_insert_164 (by decide) rfl rfl rfl rfl (Nat.le_of_ble_eq_true rfl) (by decide) ⟨by decide, by decide⟩ (fun σ_164 hz_164 => ?_)
                                     obtain ⟨hH2, hF2⟩ := hz_164
                                     have hM2 := hM1.fr hF2 rfl
                                     refine gx_aload_n hx dX9_insert_167 rfl ?_
                                     refine gx_iload_n hx dX9_insert_168 rfl ?_
                                     refine gx_callV hx (c_X9_opens (P := P) (p := p) _ _ hM2 (by omega) (by omega)) lkX9_134 mwX9_opens dX9_insert_169 (by decide) rfl rfl rfl rfl (Nat.le_of_ble_eq_true rfl) (by decide) ⟨by decide, by decide⟩ (fun σ_169 hz_169 => ?_)
                                     subst hz_169
                                     refine gx_aload_n hx dX9_insert_172 rfl ?_
                                     refine gx_iload_n hx dX9_insert_173 rfl ?_
                                     refine gx_iload_n hx dX9_insert_174 rfl ?_
                                     refine gx_iload hx dX9_insert_175 rfl ?_
                                     refine gx_iconst hx dX9_insert_177 ?_
                                     refine gx_callV hx (c_X9_puts (z := (p : Int)) _ _ (by omega) (by omega)) lkX9_117 mwX9_puts dX9_insert_178 (by decide) rfl rfl rfl rfl (Nat.le_of_ble_eq_true rfl) (by decide) ⟨by decide, by decide⟩ (fun σ_178 hz_178 => ?_)
                                     subst hz_178
                                     refine gx_aload_n hx dX9_insert_181 rfl ?_
                                     refine gx_iload_n hx dX9_insert_182 rfl ?_
                                     refine gx_callI hx (c_X9_done _ _) lkX9_90 mwX9_done dX9_insert_183 (by decide) rfl rfl rfl rfl (Nat.le_of_ble_eq_true rfl) (by decide) ⟨by decide, by decide⟩ (fun z_183 σ_183 hz_183 => ?_)
                                     obtain ⟨rfl, rfl⟩ := hz_183
                                     refine hret _ _ _ _ _ _ _ (by decide) (by decide) dX9_insert_186 rfl rfl ?_
                                     have hnd : kk = 2 → dfn P oo P.length = -1 := by
                                       intro h2
                                       first
                                       | (exfalso; omega)
                                       | omega
                                     have hor9 : ¬ (P.length = 40 ∨ ((kk : Int) = 2 ∧ dfn P ((oo : Int)).toNat P.length ≠ -1)) := by
                                       rintro (h | ⟨h, h9⟩)
                                       · omega
                                       · rw [Int.toNat_natCast] at h9
                                         exact h9 (hnd (by omega))
                                     have hokn : okP (insA P p (kk, oo, 0)) := insA_ok hok (by omega) (by omega) hok9 (fun h2 i hi h => by
                                       have e2 := dfn_first hok hi h.1 h.2
                                       have e3 := hnd h2
                                       dsimp only at e2
                                       omega)
                                     have hM3 := MP_ins hM2 (show p ≤ P.length by omega) (by omega) hokn rfl
                                     have hF3 := FR.trans (opS_FR (σ := σ_164) (n := P.length) (k := p)) (FR.trans (FR.upd (k := 71) (z := 0) (v := (P.length : Int) + 1) (by decide) rfl) (FR.trans (FR.upd (k := 71) (z := 1 + (p : Int)) (v := (kk : Int)) (by decide) rfl) (FR.trans (FR.upd (k := 71) (z := 41 + (p : Int)) (v := (oo : Int)) (by decide) rfl) (FR.upd (k := 71) (z := 81 + (p : Int)) (v := ((0 : Nat) : Int)) (by decide) rfl))))
                                     have hH3 := hH2.same (hF3.2 3 rfl) (hF3.1 72 (by decide) rfl)
                                     have hF := hF2.P72.trans hF3.P71
                                     exact ⟨0, (insA P p (kk, oo, 0), psh P hs, sv, [], er), by show sp_insert (P, hs, sv, T, er) (p : Int) = _; rw [sp_insert, if_neg (by omega), if_neg (by omega), hkk9, hoo, if_neg (by rw [hokb]; decide), if_neg hor9, Int.toNat_natCast, Int.toNat_natCast, Int.toNat_natCast], MZ.t (hR1.change hM3 hH3 hF) (hFv.trans hF.PA) 0 0 rfl⟩)
                                · first
                                  | (exfalso; omega)
                                  | (refine gx_aload_n hx dX9_insert_157 rfl ?_
                                     refine gx_iconst hx dX9_insert_158 ?_
                                     refine gx_callI hx (c_X9_fails _ _) lkX9_93 mwX9_fails dX9_insert_159 (by decide) rfl rfl rfl rfl (Nat.le_of_ble_eq_true rfl) (by decide) ⟨by decide, by decide⟩ (fun z_159 σ_159 hz_159 => ?_)
                                     obtain ⟨rfl, rfl⟩ := hz_159
                                     refine hret _ _ _ _ _ _ _ (by decide) (by decide) dX9_insert_162 rfl rfl ?_
                                     have hor9 : P.length = 40 ∨ ((kk : Int) = 2 ∧ dfn P ((oo : Int)).toNat P.length ≠ -1) := by
                                       first
                                       | (left; omega)
                                       | (refine Or.inr ⟨by omega, ?_⟩
                                          rw [Int.toNat_natCast]
                                          omega)
                                     exact ⟨3, (P, hs, sv, [], er), by show sp_insert (P, hs, sv, T, er) z = _; rw [sp_insert, if_neg (by omega), if_neg (by omega), hkk9, hoo, if_neg (by rw [hokb]; decide), if_pos hor9], MZ.t hR1 hFv 3 3 rfl⟩))))
                 · first
                   | (exfalso; omega)
                   | (refine gx_aload_n hx dX9_insert_126 rfl ?_
                      refine gx_iconst hx dX9_insert_127 ?_
                      refine gx_callI hx (c_X9_fails _ _) lkX9_93 mwX9_fails dX9_insert_128 (by decide) rfl rfl rfl rfl (Nat.le_of_ble_eq_true rfl) (by decide) ⟨by decide, by decide⟩ (fun z_128 σ_128 hz_128 => ?_)
                      obtain ⟨rfl, rfl⟩ := hz_128
                      refine hret _ _ _ _ _ _ _ (by decide) (by decide) dX9_insert_131 rfl rfl ?_
                      exact ⟨2, (P, hs, sv, [], er), by show sp_insert (P, hs, sv, T, er) z = _; rw [sp_insert, if_neg (by omega), if_neg (by omega), hkk9, hoo, if_pos (Bool.eq_false_iff.mpr (fun h9 => by have h8 := (okB_iff kk oo).mp h9; rcases e7 with ⟨a, _⟩ | ⟨_, b⟩; (omega); (exact b h8)))], MZ.t hR1 hFv 2 2 rfl⟩))
            · first
              | (exfalso; omega)
              | (refine gx_aload_n hx dX9_insert_106 rfl ?_
                 refine gx_iload_n hx dX9_insert_107 rfl ?_
                 refine gx_put hx fpX9_23 dX9_insert_108 (by decide) rfl rfl rfl rfl 8 rfl ?_
                 refine gx_aload_n hx dX9_insert_111 rfl ?_
                 refine gx_iconst hx dX9_insert_112 ?_
                 refine gx_callI hx (c_X9_fails _ _) lkX9_93 mwX9_fails dX9_insert_113 (by decide) rfl rfl rfl rfl (Nat.le_of_ble_eq_true rfl) (by decide) ⟨by decide, by decide⟩ (fun z_113 σ_113 hz_113 => ?_)
                 obtain ⟨rfl, rfl⟩ := hz_113
                 refine hret _ _ _ _ _ _ _ (by decide) (by decide) dX9_insert_116 rfl rfl ?_
                 exact ⟨2, (P, hs, sv, [], (eR T 8 : Int)), by show sp_insert (P, hs, sv, T, er) z = _; rw [sp_insert, if_neg (by omega), if_pos (by omega)], MZ.t (hR1.wrong (by omega) (by omega)) (hFv.trans (FR.updF rfl)) 2 2 rfl⟩))
       · first
         | (exfalso; omega)
         | (refine gx_aload_n hx dX9_insert_95 rfl ?_
            refine gx_iconst hx dX9_insert_96 ?_
            refine gx_callI hx (c_X9_fails _ _) lkX9_93 mwX9_fails dX9_insert_97 (by decide) rfl rfl rfl rfl (Nat.le_of_ble_eq_true rfl) (by decide) ⟨by decide, by decide⟩ (fun z_97 σ_97 hz_97 => ?_)
            obtain ⟨rfl, rfl⟩ := hz_97
            refine hret _ _ _ _ _ _ _ (by decide) (by decide) dX9_insert_100 rfl rfl ?_
            exact ⟨1, (P, hs, sv, [], er), by show sp_insert (P, hs, sv, T, er) z = _; rw [sp_insert, if_pos (by omega)], MZ.t hR1 hFv 1 1 rfl⟩))
  · first
    | (exfalso; omega)
    | (refine gx_aload_n hx dX9_insert_17 rfl ?_
       refine gx_iload hx dX9_insert_18 rfl ?_
       refine gx_callI hx (c_X9_goes (T := T) (k := k) _ _ (hT.same (hFt.2 7 rfl) (hFt.1 74 (by decide) rfl)) (hN.same (hFt.1 77 (by decide) rfl)) (by omega)) lkX9_121 mwX9_goes dX9_insert_20 (by decide) rfl rfl rfl rfl (Nat.le_of_ble_eq_true rfl) (by decide) ⟨by decide, by decide⟩ (fun z_20 σ_20 hz_20 => ?_)
       obtain ⟨rfl, g13, g14, hFg⟩ := hz_20
       have hmb := mt_le T k
       have hkk := kR_rg T k
       have g13r : σ_20 70 13 = 0 ∨ σ_20 70 13 = 1 := by
         rw [g13]; split <;> omega
       refine gx_istore hx dX9_insert_23 (Nat.le_of_ble_eq_true rfl) ?_
       refine gx_iload hx dX9_insert_25 rfl ?_
       refine gx_iload_n hx dX9_insert_27 rfl ?_
       have heb := eR_le T k
       refine gx_icmp_le (tgt := 36) hx dX9_insert_28 (by decide) ⟨by omega, by omega⟩ ⟨by omega, by omega⟩ (fun h28 => ?_) (fun h28 => ?_)
       · first
         | (exfalso; omega)
         | (refine gx_iload_n hx dX9_insert_36 rfl ?_
            refine gx_istore_n hx dX9_insert_37 (Nat.le_of_ble_eq_true rfl) ?_
            
            refine gx_aload_n hx dX9_insert_38 rfl ?_
            refine gx_getI hx flX9_102 dX9_insert_39 (by decide) rfl rfl 13 rfl ?_
            refine gx_if_eq (tgt := 50) hx dX9_insert_42 (by decide) ⟨by omega, by omega⟩ (fun h42 => ?_) (fun h42 => ?_)
            · first
              | (exfalso; omega)
              | (refine gx_iload_n hx dX9_insert_50 rfl ?_
                 refine gx_istore_n hx dX9_insert_51 (Nat.le_of_ble_eq_true rfl) ?_
                 refine gx_aload_n hx dX9_insert_52 rfl ?_
                 refine gx_getI hx flX9_102 dX9_insert_53 (by decide) rfl rfl 13 rfl ?_
                 refine gx_if_eq (tgt := 66) hx dX9_insert_56 (by decide) ⟨by omega, by omega⟩ (fun h56 => ?_) (fun h56 => ?_)
                 · first
                   | (exfalso; omega)
                   | (refine gx_iload hx dX9_insert_66 rfl ?_
                      refine gx_istore hx dX9_insert_68 (Nat.le_of_ble_eq_true rfl) ?_
                      refine gx_iinc hx dX9_insert_70 (Nat.le_of_ble_eq_true rfl) rfl ?_
                      refine gx_goto (tgt := 10) hx dX9_insert_73 (by decide) ?_
                      refine GJ.drop 6 ?_
                      refine GJ.cong ?_ rfl rfl (ih (k + 1, σ_20) ⟨by omega, hFt.trans hFg⟩ (by dsimp only; omega))
                      dsimp only
                      have q1 : (eR T (k + 1) : Int) = if eR T k < mt T k then (mt T k : Int) else (eR T k : Int) := by rw [eR]; split <;> rfl
                      have hW1 : isW T k ∨ ¬ isW T k := Classical.em _
                      rw [q1, kR, oN]
                      rcases hW1 with hW1 | hW1
                      · have q13 : σ_20 70 13 = 1 := by rw [g13, if_pos hW1]
                        rw [if_pos hW1, if_pos hW1, ← g14 hW1]
                        first
                        | (exfalso; omega)
                        | (rw [if_pos (by omega)]; rfl)
                        | (rw [if_neg (by omega)]; rfl)
                      · have q13 : σ_20 70 13 = 0 := by rw [g13, if_neg hW1]
                        rw [if_neg hW1, if_neg hW1]
                        first
                        | (exfalso; omega)
                        | (rw [if_pos (by omega)]; rfl)
                        | (rw [if_neg (by omega)]; rfl))
                 · first
                   | (exfalso; omega)
                   | (refine gx_aload_n hx dX9_insert_59 rfl ?_
                      refine gx_getI hx flX9_106 dX9_insert_60 (by decide) rfl rfl 14 rfl ?_
                      refine gx_goto (tgt := 68) hx dX9_insert_63 (by decide) ?_
                      refine gx_istore hx dX9_insert_68 (Nat.le_of_ble_eq_true rfl) ?_
                      refine gx_iinc hx dX9_insert_70 (Nat.le_of_ble_eq_true rfl) rfl ?_
                      refine gx_goto (tgt := 10) hx dX9_insert_73 (by decide) ?_
                      refine GJ.drop 6 ?_
                      refine GJ.cong ?_ rfl rfl (ih (k + 1, σ_20) ⟨by omega, hFt.trans hFg⟩ (by dsimp only; omega))
                      dsimp only
                      have q1 : (eR T (k + 1) : Int) = if eR T k < mt T k then (mt T k : Int) else (eR T k : Int) := by rw [eR]; split <;> rfl
                      have hW1 : isW T k ∨ ¬ isW T k := Classical.em _
                      rw [q1, kR, oN]
                      rcases hW1 with hW1 | hW1
                      · have q13 : σ_20 70 13 = 1 := by rw [g13, if_pos hW1]
                        rw [if_pos hW1, if_pos hW1, ← g14 hW1]
                        first
                        | (exfalso; omega)
                        | (rw [if_pos (by omega)]; rfl)
                        | (rw [if_neg (by omega)]; rfl)
                      · have q13 : σ_20 70 13 = 0 := by rw [g13, if_neg hW1]
                        rw [if_neg hW1, if_neg hW1]
                        first
                        | (exfalso; omega)
                        | (rw [if_pos (by omega)]; rfl)
                        | (rw [if_neg (by omega)]; rfl)))
            · first
              | (exfalso; omega)
              | (refine gx_iload hx dX9_insert_45 rfl ?_
                 refine gx_goto (tgt := 51) hx dX9_insert_47 (by decide) ?_
                 refine gx_istore_n hx dX9_insert_51 (Nat.le_of_ble_eq_true rfl) ?_
                 refine gx_aload_n hx dX9_insert_52 rfl ?_
                 refine gx_getI hx flX9_102 dX9_insert_53 (by decide) rfl rfl 13 rfl ?_
                 refine gx_if_eq (tgt := 66) hx dX9_insert_56 (by decide) ⟨by omega, by omega⟩ (fun h56 => ?_) (fun h56 => ?_)
                 · first
                   | (exfalso; omega)
                   | (refine gx_iload hx dX9_insert_66 rfl ?_
                      refine gx_istore hx dX9_insert_68 (Nat.le_of_ble_eq_true rfl) ?_
                      refine gx_iinc hx dX9_insert_70 (Nat.le_of_ble_eq_true rfl) rfl ?_
                      refine gx_goto (tgt := 10) hx dX9_insert_73 (by decide) ?_
                      refine GJ.drop 6 ?_
                      refine GJ.cong ?_ rfl rfl (ih (k + 1, σ_20) ⟨by omega, hFt.trans hFg⟩ (by dsimp only; omega))
                      dsimp only
                      have q1 : (eR T (k + 1) : Int) = if eR T k < mt T k then (mt T k : Int) else (eR T k : Int) := by rw [eR]; split <;> rfl
                      have hW1 : isW T k ∨ ¬ isW T k := Classical.em _
                      rw [q1, kR, oN]
                      rcases hW1 with hW1 | hW1
                      · have q13 : σ_20 70 13 = 1 := by rw [g13, if_pos hW1]
                        rw [if_pos hW1, if_pos hW1, ← g14 hW1]
                        first
                        | (exfalso; omega)
                        | (rw [if_pos (by omega)]; rfl)
                        | (rw [if_neg (by omega)]; rfl)
                      · have q13 : σ_20 70 13 = 0 := by rw [g13, if_neg hW1]
                        rw [if_neg hW1, if_neg hW1]
                        first
                        | (exfalso; omega)
                        | (rw [if_pos (by omega)]; rfl)
                        | (rw [if_neg (by omega)]; rfl))
                 · first
                   | (exfalso; omega)
                   | (refine gx_aload_n hx dX9_insert_59 rfl ?_
                      refine gx_getI hx flX9_106 dX9_insert_60 (by decide) rfl rfl 14 rfl ?_
                      refine gx_goto (tgt := 68) hx dX9_insert_63 (by decide) ?_
                      refine gx_istore hx dX9_insert_68 (Nat.le_of_ble_eq_true rfl) ?_
                      refine gx_iinc hx dX9_insert_70 (Nat.le_of_ble_eq_true rfl) rfl ?_
                      refine gx_goto (tgt := 10) hx dX9_insert_73 (by decide) ?_
                      refine GJ.drop 6 ?_
                      refine GJ.cong ?_ rfl rfl (ih (k + 1, σ_20) ⟨by omega, hFt.trans hFg⟩ (by dsimp only; omega))
                      dsimp only
                      have q1 : (eR T (k + 1) : Int) = if eR T k < mt T k then (mt T k : Int) else (eR T k : Int) := by rw [eR]; split <;> rfl
                      have hW1 : isW T k ∨ ¬ isW T k := Classical.em _
                      rw [q1, kR, oN]
                      rcases hW1 with hW1 | hW1
                      · have q13 : σ_20 70 13 = 1 := by rw [g13, if_pos hW1]
                        rw [if_pos hW1, if_pos hW1, ← g14 hW1]
                        first
                        | (exfalso; omega)
                        | (rw [if_pos (by omega)]; rfl)
                        | (rw [if_neg (by omega)]; rfl)
                      · have q13 : σ_20 70 13 = 0 := by rw [g13, if_neg hW1]
                        rw [if_neg hW1, if_neg hW1]
                        first
                        | (exfalso; omega)
                        | (rw [if_pos (by omega)]; rfl)
                        | (rw [if_neg (by omega)]; rfl))))
       · first
         | (exfalso; omega)
         | (refine gx_iload hx dX9_insert_31 rfl ?_
            refine gx_goto (tgt := 37) hx dX9_insert_33 (by decide) ?_
            refine gx_istore_n hx dX9_insert_37 (Nat.le_of_ble_eq_true rfl) ?_
            
            refine gx_aload_n hx dX9_insert_38 rfl ?_
            refine gx_getI hx flX9_102 dX9_insert_39 (by decide) rfl rfl 13 rfl ?_
            refine gx_if_eq (tgt := 50) hx dX9_insert_42 (by decide) ⟨by omega, by omega⟩ (fun h42 => ?_) (fun h42 => ?_)
            · first
              | (exfalso; omega)
              | (refine gx_iload_n hx dX9_insert_50 rfl ?_
                 refine gx_istore_n hx dX9_insert_51 (Nat.le_of_ble_eq_true rfl) ?_
                 refine gx_aload_n hx dX9_insert_52 rfl ?_
                 refine gx_getI hx flX9_102 dX9_insert_53 (by decide) rfl rfl 13 rfl ?_
                 refine gx_if_eq (tgt := 66) hx dX9_insert_56 (by decide) ⟨by omega, by omega⟩ (fun h56 => ?_) (fun h56 => ?_)
                 · first
                   | (exfalso; omega)
                   | (refine gx_iload hx dX9_insert_66 rfl ?_
                      refine gx_istore hx dX9_insert_68 (Nat.le_of_ble_eq_true rfl) ?_
                      refine gx_iinc hx dX9_insert_70 (Nat.le_of_ble_eq_true rfl) rfl ?_
                      refine gx_goto (tgt := 10) hx dX9_insert_73 (by decide) ?_
                      refine GJ.drop 6 ?_
                      refine GJ.cong ?_ rfl rfl (ih (k + 1, σ_20) ⟨by omega, hFt.trans hFg⟩ (by dsimp only; omega))
                      dsimp only
                      have q1 : (eR T (k + 1) : Int) = if eR T k < mt T k then (mt T k : Int) else (eR T k : Int) := by rw [eR]; split <;> rfl
                      have hW1 : isW T k ∨ ¬ isW T k := Classical.em _
                      rw [q1, kR, oN]
                      rcases hW1 with hW1 | hW1
                      · have q13 : σ_20 70 13 = 1 := by rw [g13, if_pos hW1]
                        rw [if_pos hW1, if_pos hW1, ← g14 hW1]
                        first
                        | (exfalso; omega)
                        | (rw [if_pos (by omega)]; rfl)
                        | (rw [if_neg (by omega)]; rfl)
                      · have q13 : σ_20 70 13 = 0 := by rw [g13, if_neg hW1]
                        rw [if_neg hW1, if_neg hW1]
                        first
                        | (exfalso; omega)
                        | (rw [if_pos (by omega)]; rfl)
                        | (rw [if_neg (by omega)]; rfl))
                 · first
                   | (exfalso; omega)
                   | (refine gx_aload_n hx dX9_insert_59 rfl ?_
                      refine gx_getI hx flX9_106 dX9_insert_60 (by decide) rfl rfl 14 rfl ?_
                      refine gx_goto (tgt := 68) hx dX9_insert_63 (by decide) ?_
                      refine gx_istore hx dX9_insert_68 (Nat.le_of_ble_eq_true rfl) ?_
                      refine gx_iinc hx dX9_insert_70 (Nat.le_of_ble_eq_true rfl) rfl ?_
                      refine gx_goto (tgt := 10) hx dX9_insert_73 (by decide) ?_
                      refine GJ.drop 6 ?_
                      refine GJ.cong ?_ rfl rfl (ih (k + 1, σ_20) ⟨by omega, hFt.trans hFg⟩ (by dsimp only; omega))
                      dsimp only
                      have q1 : (eR T (k + 1) : Int) = if eR T k < mt T k then (mt T k : Int) else (eR T k : Int) := by rw [eR]; split <;> rfl
                      have hW1 : isW T k ∨ ¬ isW T k := Classical.em _
                      rw [q1, kR, oN]
                      rcases hW1 with hW1 | hW1
                      · have q13 : σ_20 70 13 = 1 := by rw [g13, if_pos hW1]
                        rw [if_pos hW1, if_pos hW1, ← g14 hW1]
                        first
                        | (exfalso; omega)
                        | (rw [if_pos (by omega)]; rfl)
                        | (rw [if_neg (by omega)]; rfl)
                      · have q13 : σ_20 70 13 = 0 := by rw [g13, if_neg hW1]
                        rw [if_neg hW1, if_neg hW1]
                        first
                        | (exfalso; omega)
                        | (rw [if_pos (by omega)]; rfl)
                        | (rw [if_neg (by omega)]; rfl)))
            · first
              | (exfalso; omega)
              | (refine gx_iload hx dX9_insert_45 rfl ?_
                 refine gx_goto (tgt := 51) hx dX9_insert_47 (by decide) ?_
                 refine gx_istore_n hx dX9_insert_51 (Nat.le_of_ble_eq_true rfl) ?_
                 refine gx_aload_n hx dX9_insert_52 rfl ?_
                 refine gx_getI hx flX9_102 dX9_insert_53 (by decide) rfl rfl 13 rfl ?_
                 refine gx_if_eq (tgt := 66) hx dX9_insert_56 (by decide) ⟨by omega, by omega⟩ (fun h56 => ?_) (fun h56 => ?_)
                 · first
                   | (exfalso; omega)
                   | (refine gx_iload hx dX9_insert_66 rfl ?_
                      refine gx_istore hx dX9_insert_68 (Nat.le_of_ble_eq_true rfl) ?_
                      refine gx_iinc hx dX9_insert_70 (Nat.le_of_ble_eq_true rfl) rfl ?_
                      refine gx_goto (tgt := 10) hx dX9_insert_73 (by decide) ?_
                      refine GJ.drop 6 ?_
                      refine GJ.cong ?_ rfl rfl (ih (k + 1, σ_20) ⟨by omega, hFt.trans hFg⟩ (by dsimp only; omega))
                      dsimp only
                      have q1 : (eR T (k + 1) : Int) = if eR T k < mt T k then (mt T k : Int) else (eR T k : Int) := by rw [eR]; split <;> rfl
                      have hW1 : isW T k ∨ ¬ isW T k := Classical.em _
                      rw [q1, kR, oN]
                      rcases hW1 with hW1 | hW1
                      · have q13 : σ_20 70 13 = 1 := by rw [g13, if_pos hW1]
                        rw [if_pos hW1, if_pos hW1, ← g14 hW1]
                        first
                        | (exfalso; omega)
                        | (rw [if_pos (by omega)]; rfl)
                        | (rw [if_neg (by omega)]; rfl)
                      · have q13 : σ_20 70 13 = 0 := by rw [g13, if_neg hW1]
                        rw [if_neg hW1, if_neg hW1]
                        first
                        | (exfalso; omega)
                        | (rw [if_pos (by omega)]; rfl)
                        | (rw [if_neg (by omega)]; rfl))
                 · first
                   | (exfalso; omega)
                   | (refine gx_aload_n hx dX9_insert_59 rfl ?_
                      refine gx_getI hx flX9_106 dX9_insert_60 (by decide) rfl rfl 14 rfl ?_
                      refine gx_goto (tgt := 68) hx dX9_insert_63 (by decide) ?_
                      refine gx_istore hx dX9_insert_68 (Nat.le_of_ble_eq_true rfl) ?_
                      refine gx_iinc hx dX9_insert_70 (Nat.le_of_ble_eq_true rfl) rfl ?_
                      refine gx_goto (tgt := 10) hx dX9_insert_73 (by decide) ?_
                      refine GJ.drop 6 ?_
                      refine GJ.cong ?_ rfl rfl (ih (k + 1, σ_20) ⟨by omega, hFt.trans hFg⟩ (by dsimp only; omega))
                      dsimp only
                      have q1 : (eR T (k + 1) : Int) = if eR T k < mt T k then (mt T k : Int) else (eR T k : Int) := by rw [eR]; split <;> rfl
                      have hW1 : isW T k ∨ ¬ isW T k := Classical.em _
                      rw [q1, kR, oN]
                      rcases hW1 with hW1 | hW1
                      · have q13 : σ_20 70 13 = 1 := by rw [g13, if_pos hW1]
                        rw [if_pos hW1, if_pos hW1, ← g14 hW1]
                        first
                        | (exfalso; omega)
                        | (rw [if_pos (by omega)]; rfl)
                        | (rw [if_neg (by omega)]; rfl)
                      · have q13 : σ_20 70 13 = 0 := by rw [g13, if_neg hW1]
                        rw [if_neg hW1, if_neg hW1]
                        first
                        | (exfalso; omega)
                        | (rw [if_pos (by omega)]; rfl)
                        | (rw [if_neg (by omega)]; rfl)))))
