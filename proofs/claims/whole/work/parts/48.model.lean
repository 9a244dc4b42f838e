/-! The reference: its questions -/
set_option maxRecDepth 20000 in
set_option maxHeartbeats 400000 in
theorem c_X9_errorPosition (g : Gm) (l : Launch) {σ : Sg} {A : AS} (hR : MR σ A) : KI g l yX9_errorPosition cX9_errorPosition 1 ((some .int)) (1) 0 0 [.inr 70] σ (MPI (fn (sp_errorPosition A)) σ) := by
  refine startI (own := RX9) (by decide +kernel) rfl (Nat.le_of_ble_eq_true rfl) ?_
  intro X hx _ _ hret
  obtain ⟨P, hs, sv, T, er⟩ := A
  obtain ⟨hM, hH, hS, hT, he1, he2, he3, hN⟩ := id hR
  obtain ⟨hok, hn, hit⟩ := id hM
  have hl40 := hok.1
  refine gx_aload_n hx dX9_errorPosition_0 rfl ?_
  refine gx_getI hx flX9_23 dX9_errorPosition_1 (by decide) rfl rfl 8 rfl ?_
  rw [he1]
  refine gx_iconst hx dX9_errorPosition_4 ?_
  refine gx_icmp_ne (tgt := 16) hx dX9_errorPosition_5 (by decide) ⟨by omega, by omega⟩ ⟨by omega, by omega⟩ (fun h5 => ?_) (fun h5 => ?_)
  · first
    | (exfalso; omega)
    | (refine gx_aload_n hx dX9_errorPosition_16 rfl ?_
       refine gx_aload_n hx dX9_errorPosition_17 rfl ?_
       refine gx_getI hx flX9_23 dX9_errorPosition_18 (by decide) rfl rfl 8 rfl ?_
       rw [he1]
       refine gx_callI hx (c_X9_done _ _) lkX9_90 mwX9_done dX9_errorPosition_21 (by decide) rfl rfl rfl rfl (Nat.le_of_ble_eq_true rfl) (by decide) ⟨by decide, by decide⟩ (fun z_21 σ_21 hz_21 => ?_)
       obtain ⟨e9z, rfl⟩ := hz_21
       rw [e9z]
       refine hret _ _ _ _ _ _ _ (by decide) (by decide) dX9_errorPosition_24 rfl rfl ?_
       first
       | exact ⟨1, (P, hs, sv, T, er), by show sp_errorPosition (P, hs, sv, T, er) = _; rw [sp_errorPosition, if_pos (by omega)], MZ.q hR FR.refl 1 1 rfl⟩
       | exact ⟨0, (P, hs, sv, T, er), by show sp_errorPosition (P, hs, sv, T, er) = _; rw [sp_errorPosition, if_neg (by omega)], MZ.q hR FR.refl 0 0 rfl⟩)
  · first
    | (exfalso; omega)
    | (refine gx_aload_n hx dX9_errorPosition_8 rfl ?_
       refine gx_iconst hx dX9_errorPosition_9 ?_
       refine gx_callI hx (c_X9_fails _ _) lkX9_93 mwX9_fails dX9_errorPosition_10 (by decide) rfl rfl rfl rfl (Nat.le_of_ble_eq_true rfl) (by decide) ⟨by decide, by decide⟩ (fun z_10 σ_10 hz_10 => ?_)
       obtain ⟨rfl, rfl⟩ := hz_10
       refine gx_goto (tgt := 24) hx dX9_errorPosition_13 (by decide) ?_
       refine hret _ _ _ _ _ _ _ (by decide) (by decide) dX9_errorPosition_24 rfl rfl ?_
       first
       | exact ⟨1, (P, hs, sv, T, er), by show sp_errorPosition (P, hs, sv, T, er) = _; rw [sp_errorPosition, if_pos (by omega)], MZ.q hR FR.refl 1 1 rfl⟩
       | exact ⟨0, (P, hs, sv, T, er), by show sp_errorPosition (P, hs, sv, T, er) = _; rw [sp_errorPosition, if_neg (by omega)], MZ.q hR FR.refl 0 0 rfl⟩)
set_option maxRecDepth 20000 in
set_option maxHeartbeats 400000 in
theorem c_X9_remove (g : Gm) (l : Launch) {σ : Sg} {A : AS} {z : Int} (hR : MR σ A) (hz : rg z) : KI g l yX9_remove cX9_remove 2 ((some .int)) (3) 0 0 [.inr 70, .inl z] σ (MPI (fn (sp_remove A z)) σ) := by
  refine startI (own := RX9) (by decide +kernel) rfl (Nat.le_of_ble_eq_true rfl) ?_
  intro X hx _ _ hret
  obtain ⟨P, hs, sv, T, er⟩ := A
  obtain ⟨hM, hH, hS, hT, he1, he2, he3, hN⟩ := id hR
  obtain ⟨hok, hn, hit⟩ := id hM
  have hl40 := hok.1
  obtain ⟨hz1, hz2⟩ := id hz
  refine gx_aload_n hx dX9_remove_0 rfl ?_
  refine gx_iload_n hx dX9_remove_1 rfl ?_
  refine gx_callI hx (c_X9_isItem _ _ hM hz) lkX9_137 mwX9_isItem dX9_remove_2 (by decide) rfl rfl rfl rfl (Nat.le_of_ble_eq_true rfl) (by decide) ⟨by decide, by decide⟩ (fun z_2 σ_2 hz_2 => ?_)
  obtain ⟨e9, rfl⟩ := hz_2
  replace e9 := ite10 e9
  refine gx_if_ne (tgt := 14) hx dX9_remove_5 (by decide) ⟨by omega, by omega⟩ (fun h5 => ?_) (fun h5 => ?_)
  · first
    | (exfalso; omega)
    | (obtain ⟨i, rfl⟩ : ∃ i : Nat, z = (i : Int) := ⟨z.toNat, by omega⟩
       have hi : i < P.length := by omega
       have hin : inI P (i : Int) := by omega
       have hri := hM.rg i
       refine gx_aload_n hx dX9_remove_14 rfl ?_
       refine gx_callV hx (c_X9_remembers _ _ hM hH) lkX9_131 mwX9_remembers dX9_remove_15 (by decide) rfl rfl rfl rfl (Nat.le_of_ble_eq_true rfl) (by decide) ⟨by decide, by decide⟩ (fun σ_15 hz_15 => ?_)
       obtain ⟨hH1, hF1⟩ := hz_15
       have hM1 := hM.fr hF1 rfl
       refine gx_aload_n hx dX9_remove_18 rfl ?_
       refine gx_iload_n hx dX9_remove_19 rfl ?_
       refine gx_callV hx (c_X9_closes _ _ hM1 hi) lkX9_140 mwX9_closes dX9_remove_20 (by decide) rfl rfl rfl rfl (Nat.le_of_ble_eq_true rfl) (by decide) ⟨by decide, by decide⟩ (fun σ_20 hz_20 => ?_)
       obtain ⟨hM2, hF2⟩ := hz_20
       have hH2 := hH1.same (hF2.2 3 rfl) (hF2.1 72 (by decide) rfl)
       have hF := hF1.P72.trans hF2.P71
       refine gx_aload_n hx dX9_remove_23 rfl ?_
       refine gx_aload_n hx dX9_remove_24 rfl ?_
       refine gx_getR hx flX9_7 dX9_remove_25 (by decide) rfl rfl ?_
       refine gx_iconst hx dX9_remove_28 ?_
       refine gx_iald hx dX9_remove_29 (by decide) rfl (by omega) (by omega) (by decide) ?_
       rw [hM2.2.1]
       refine gx_callI hx (c_X9_done _ _) lkX9_90 mwX9_done dX9_remove_30 (by decide) rfl rfl rfl rfl (Nat.le_of_ble_eq_true rfl) (by decide) ⟨by decide, by decide⟩ (fun z_30 σ_30 hz_30 => ?_)
       obtain ⟨rfl, rfl⟩ := hz_30
       refine hret _ _ _ _ _ _ _ (by decide) (by decide) dX9_remove_33 rfl rfl ?_
       rw [show ((P.eraseIdx i).length : Int) = (P.length : Int) - 1 by rw [era_len hi]; omega]
       exact ⟨0, (P.eraseIdx i, psh P hs, sv, T, er), by show sp_remove (P, hs, sv, T, er) (i : Int) = _; rw [sp_remove, if_neg (fun h9 => h9 hin), Int.toNat_natCast], MZ.t (hR.change hM2 hH2 hF) hF.PA 0 0 rfl⟩)
  · first
    | (exfalso; omega)
    | (refine gx_aload_n hx dX9_remove_8 rfl ?_
       refine gx_iconst hx dX9_remove_9 ?_
       refine gx_callI hx (c_X9_fails _ _) lkX9_93 mwX9_fails dX9_remove_10 (by decide) rfl rfl rfl rfl (Nat.le_of_ble_eq_true rfl) (by decide) ⟨by decide, by decide⟩ (fun z_10 σ_10 hz_10 => ?_)
       obtain ⟨rfl, rfl⟩ := hz_10
       refine hret _ _ _ _ _ _ _ (by decide) (by decide) dX9_remove_13 rfl rfl ?_
       exact ⟨1, (P, hs, sv, T, er), by show sp_remove (P, hs, sv, T, er) z = _; rw [sp_remove, if_pos (by omega)], MZ.q hR FR.refl 1 1 rfl⟩)
set_option maxRecDepth 20000 in
set_option maxHeartbeats 400000 in
theorem c_X9_move (g : Gm) (l : Launch) {σ : Sg} {A : AS} {z w : Int} (hR : MR σ A) (hz : rg z) (hw : rg w) : KI g l yX9_move cX9_move 6 ((some .int)) (3) 0 0 [.inr 70, .inl z, .inl w] σ (MPI (fn (sp_move A z w)) σ) := by
  refine startI (own := RX9) (by decide +kernel) rfl (Nat.le_of_ble_eq_true rfl) ?_
  intro X hx _ _ hret
  obtain ⟨P, hs, sv, T, er⟩ := A
  obtain ⟨hM, hH, hS, hT, he1, he2, he3, hN⟩ := id hR
  obtain ⟨hok, hn, hit⟩ := id hM
  have hl40 := hok.1
  obtain ⟨hz1, hz2⟩ := id hz
  obtain ⟨hw1, hw2⟩ := id hw
  refine gx_aload_n hx dX9_move_0 rfl ?_
  refine gx_iload_n hx dX9_move_1 rfl ?_
  refine gx_callI hx (c_X9_isItem _ _ hM hz) lkX9_137 mwX9_isItem dX9_move_2 (by decide) rfl rfl rfl rfl (Nat.le_of_ble_eq_true rfl) (by decide) ⟨by decide, by decide⟩ (fun z_2 σ_2 hz_2 => ?_)
  obtain ⟨e9, rfl⟩ := hz_2
  replace e9 := ite10 e9
  refine gx_if_eq (tgt := 16) hx dX9_move_5 (by decide) ⟨by omega, by omega⟩ (fun h5 => ?_) (fun h5 => ?_)
  · first
    | (exfalso; omega)
    | (refine gx_aload_n hx dX9_move_16 rfl ?_
       refine gx_iconst hx dX9_move_17 ?_
       refine gx_callI hx (c_X9_fails _ _) lkX9_93 mwX9_fails dX9_move_18 (by decide) rfl rfl rfl rfl (Nat.le_of_ble_eq_true rfl) (by decide) ⟨by decide, by decide⟩ (fun z_18 σ_18 hz_18 => ?_)
       obtain ⟨rfl, rfl⟩ := hz_18
       refine hret _ _ _ _ _ _ _ (by decide) (by decide) dX9_move_21 rfl rfl ?_
       first
       | exact ⟨1, (P, hs, sv, T, er), by show sp_move (P, hs, sv, T, er) z w = _; rw [sp_move, if_pos (by omega)], MZ.q hR FR.refl 1 1 rfl⟩
       | exact ⟨1, (P, hs, sv, T, er), by show sp_move (P, hs, sv, T, er) z w = _; rw [sp_move, if_neg (by omega), if_pos (by omega)], MZ.q hR FR.refl 1 1 rfl⟩)
  · first
    | (exfalso; omega)
    | (refine gx_aload_n hx dX9_move_8 rfl ?_
       refine gx_iload_n hx dX9_move_9 rfl ?_
       refine gx_callI hx (c_X9_isItem _ _ hM hw) lkX9_137 mwX9_isItem dX9_move_10 (by decide) rfl rfl rfl rfl (Nat.le_of_ble_eq_true rfl) (by decide) ⟨by decide, by decide⟩ (fun z_10 σ_10 hz_10 => ?_)
       obtain ⟨e8, rfl⟩ := hz_10
       replace e8 := ite10 e8
       refine gx_if_ne (tgt := 22) hx dX9_move_13 (by decide) ⟨by omega, by omega⟩ (fun h13 => ?_) (fun h13 => ?_)
       · first
         | (exfalso; omega)
         | (obtain ⟨i, rfl⟩ : ∃ i : Nat, z = (i : Int) := ⟨z.toNat, by omega⟩
            have hi : i < P.length := by omega
            have hin : inI P (i : Int) := by omega
            have hri := hM.rg i
            obtain ⟨p, rfl⟩ : ∃ p : Nat, w = (p : Int) := ⟨w.toNat, by omega⟩
            have hin2 : inI P (p : Int) := by omega
            refine gx_aload_n hx dX9_move_22 rfl ?_
            refine gx_callV hx (c_X9_remembers _ _ hM hH) lkX9_131 mwX9_remembers dX9_move_23 (by decide) rfl rfl rfl rfl (Nat.le_of_ble_eq_true rfl) (by decide) ⟨by decide, by decide⟩ (fun σ_23 hz_23 => ?_)
            obtain ⟨hH1, hF1⟩ := hz_23
            have hM1 := hM.fr hF1 rfl
            refine gx_aload_n hx dX9_move_26 rfl ?_
            refine gx_iload_n hx dX9_move_27 rfl ?_
            refine gx_callI hx (c_X9_kind (i := i) _ _ hM1 hi) lkX9_53 mwX9_kind dX9_move_28 (by decide) rfl rfl rfl rfl (Nat.le_of_ble_eq_true rfl) (by decide) ⟨by decide, by decide⟩ (fun z_28 σ_28 hz_28 => ?_)
            obtain ⟨rfl, rfl⟩ := hz_28
            refine gx_istore_n hx dX9_move_31 (Nat.le_of_ble_eq_true rfl) ?_
            refine gx_aload_n hx dX9_move_32 rfl ?_
            refine gx_iload_n hx dX9_move_33 rfl ?_
            refine gx_callI hx (c_X9_operand (i := i) _ _ hM1 hi) lkX9_63 mwX9_operand dX9_move_34 (by decide) rfl rfl rfl rfl (Nat.le_of_ble_eq_true rfl) (by decide) ⟨by decide, by decide⟩ (fun z_34 σ_34 hz_34 => ?_)
            obtain ⟨rfl, rfl⟩ := hz_34
            refine gx_istore hx dX9_move_37 (Nat.le_of_ble_eq_true rfl) ?_
            refine gx_aload_n hx dX9_move_39 rfl ?_
            refine gx_iload_n hx dX9_move_40 rfl ?_
            refine gx_callI hx (c_X9_form (i := i) _ _ hM1 hi) lkX9_83 mwX9_form dX9_move_41 (by decide) rfl rfl rfl rfl (Nat.le_of_ble_eq_true rfl) (by decide) ⟨by decide, by decide⟩ (fun z_41 σ_41 hz_41 => ?_)
            obtain ⟨rfl, rfl⟩ := hz_41
            refine gx_istore hx dX9_move_44 (Nat.le_of_ble_eq_true rfl) ?_
            refine gx_aload_n hx dX9_move_46 rfl ?_
            refine gx_iload_n hx dX9_move_47 rfl ?_
            refine gx_callV hx (c_X9_closes _ _ hM1 hi) lkX9_140 mwX9_closes dX9_move_48 (by decide) rfl rfl rfl rfl (Nat.le_of_ble_eq_true rfl) (by decide) ⟨by decide, by decide⟩ (fun σ_48 hz_48 => ?_)
            obtain ⟨hM2, hF2⟩ := hz_48
            have hel := era_len hi
            refine gx_aload_n hx dX9_move_51 rfl ?_
            refine gx_iload_n hx dX9_move_52 rfl ?_
            refine gx_callV hx (c_X9_opens (P := P.eraseIdx i) (p := p) _ _ hM2 (by omega) (by omega)) lkX9_134 mwX9_opens dX9_move_53 (by decide) rfl rfl rfl rfl (Nat.le_of_ble_eq_true rfl) (by decide) ⟨by decide, by decide⟩ (fun σ_53 hz_53 => ?_)
            subst hz_53
            refine gx_aload_n hx dX9_move_56 rfl ?_
            refine gx_iload_n hx dX9_move_57 rfl ?_
            refine gx_iload_n hx dX9_move_58 rfl ?_
            refine gx_iload hx dX9_move_59 rfl ?_
            refine gx_iload hx dX9_move_61 rfl ?_
            refine gx_callV hx (c_X9_puts (z := (p : Int)) _ _ (by omega) (by omega)) lkX9_117 mwX9_puts dX9_move_63 (by decide) rfl rfl rfl rfl (Nat.le_of_ble_eq_true rfl) (by decide) ⟨by decide, by decide⟩ (fun σ_63 hz_63 => ?_)
            subst hz_63
            refine gx_aload_n hx dX9_move_66 rfl ?_
            refine gx_iload_n hx dX9_move_67 rfl ?_
            refine gx_callI hx (c_X9_done _ _) lkX9_90 mwX9_done dX9_move_68 (by decide) rfl rfl rfl rfl (Nat.le_of_ble_eq_true rfl) (by decide) ⟨by decide, by decide⟩ (fun z_68 σ_68 hz_68 => ?_)
            obtain ⟨rfl, rfl⟩ := hz_68
            refine hret _ _ _ _ _ _ _ (by decide) (by decide) dX9_move_71 rfl rfl ?_
            have hokn : okP (insA (P.eraseIdx i) p (kd P i, op P i, fm P i)) := insA_ok (era_ok hok hi) (by omega) (by omega) (hok.2.1 i) (fun h2 => era_lab hok hi h2)
            have hM3 := MP_ins hM2 (show p ≤ (P.eraseIdx i).length by omega) (by omega) hokn rfl
            have hF3 := FR.trans hF2 (FR.trans (opS_FR (n := (P.eraseIdx i).length) (k := p)) (FR.trans (FR.upd (k := 71) (z := 0) (v := ((P.eraseIdx i).length : Int) + 1) (by decide) rfl) (FR.trans (FR.upd (k := 71) (z := 1 + (p : Int)) (v := (kd P i : Int)) (by decide) rfl) (FR.trans (FR.upd (k := 71) (z := 41 + (p : Int)) (v := (op P i : Int)) (by decide) rfl) (FR.upd (k := 71) (z := 81 + (p : Int)) (v := (fm P i : Int)) (by decide) rfl)))))
            have hH3 := hH1.same (hF3.2 3 rfl) (hF3.1 72 (by decide) rfl)
            have hF := hF1.P72.trans hF3.P71
            exact ⟨0, (insA (P.eraseIdx i) p (kd P i, op P i, fm P i), psh P hs, sv, T, er), by show sp_move (P, hs, sv, T, er) (i : Int) (p : Int) = _; rw [sp_move, if_neg (fun h9 => h9 hin), if_neg (fun h9 => h9 hin2), Int.toNat_natCast, Int.toNat_natCast], MZ.t (hR.change hM3 hH3 hF) hF.PA 0 0 rfl⟩)
       · first
         | (exfalso; omega)
         | (refine gx_aload_n hx dX9_move_16 rfl ?_
            refine gx_iconst hx dX9_move_17 ?_
            refine gx_callI hx (c_X9_fails _ _) lkX9_93 mwX9_fails dX9_move_18 (by decide) rfl rfl rfl rfl (Nat.le_of_ble_eq_true rfl) (by decide) ⟨by decide, by decide⟩ (fun z_18 σ_18 hz_18 => ?_)
            obtain ⟨rfl, rfl⟩ := hz_18
            refine hret _ _ _ _ _ _ _ (by decide) (by decide) dX9_move_21 rfl rfl ?_
            first
            | exact ⟨1, (P, hs, sv, T, er), by show sp_move (P, hs, sv, T, er) z w = _; rw [sp_move, if_pos (by omega)], MZ.q hR FR.refl 1 1 rfl⟩
            | exact ⟨1, (P, hs, sv, T, er), by show sp_move (P, hs, sv, T, er) z w = _; rw [sp_move, if_neg (by omega), if_pos (by omega)], MZ.q hR FR.refl 1 1 rfl⟩))
set_option maxRecDepth 20000 in
set_option maxHeartbeats 400000 in
theorem c_X9_item (g : Gm) (l : Launch) {σ : Sg} {A : AS} {z w : Int} (hR : MR σ A) (hz : rg z) (hw : rg w) : KI g l yX9_item cX9_item 3 ((some .int)) (5) 0 0 [.inr 70, .inl z, .inl w] σ (MPI (fn (sp_item A z w)) σ) := by
  refine startI (own := RX9) (by decide +kernel) rfl (Nat.le_of_ble_eq_true rfl) ?_
  intro X hx _ _ hret
  obtain ⟨P, hs, sv, T, er⟩ := A
  obtain ⟨hM, hH, hS, hT, he1, he2, he3, hN⟩ := id hR
  obtain ⟨hok, hn, hit⟩ := id hM
  have hl40 := hok.1
  obtain ⟨hz1, hz2⟩ := id hz
  obtain ⟨hw1, hw2⟩ := id hw
  refine gx_aload_n hx dX9_item_0 rfl ?_
  refine gx_iload_n hx dX9_item_1 rfl ?_
  refine gx_callI hx (c_X9_isItem _ _ hM hz) lkX9_137 mwX9_isItem dX9_item_2 (by decide) rfl rfl rfl rfl (Nat.le_of_ble_eq_true rfl) (by decide) ⟨by decide, by decide⟩ (fun z_2 σ_2 hz_2 => ?_)
  obtain ⟨e9, rfl⟩ := hz_2
  replace e9 := ite10 e9
  refine gx_if_ne (tgt := 14) hx dX9_item_5 (by decide) ⟨by omega, by omega⟩ (fun h5 => ?_) (fun h5 => ?_)
  · first
    | (exfalso; omega)
    | (obtain ⟨i, rfl⟩ : ∃ i : Nat, z = (i : Int) := ⟨z.toNat, by omega⟩
       have hi : i < P.length := by omega
       have hin : inI P (i : Int) := by omega
       have hri := hM.rg i
       refine gx_iload_n hx dX9_item_14 rfl ?_
       refine gx_iconst hx dX9_item_15 ?_
       refine gx_iconst hx dX9_item_16 ?_
       refine gx_callS hx (c_X9_in (v := w) (lo := 0) (hi := 4) _ _ hw ⟨by decide, by decide⟩ ⟨by decide, by decide⟩) lkX9_49 mwX9_in dX9_item_17 rfl rfl (Nat.le_of_ble_eq_true rfl) (by decide) ⟨by decide, by decide⟩ (fun z_17 σ_17 hz_17 => ?_)
       obtain ⟨e8, rfl⟩ := hz_17
       replace e8 := ite10 e8
       refine gx_if_ne (tgt := 29) hx dX9_item_20 (by decide) ⟨by omega, by omega⟩ (fun h20 => ?_) (fun h20 => ?_)
       · first
         | (exfalso; omega)
         | (refine gx_aload_n hx dX9_item_29 rfl ?_
            refine gx_callV hx (c_X9_lays _ _ hM) lkX9_143 mwX9_lays dX9_item_30 (by decide) rfl rfl rfl rfl (Nat.le_of_ble_eq_true rfl) (by decide) ⟨by decide, by decide⟩ (fun σ_30 hz_30 => ?_)
            obtain ⟨hY1, hF1⟩ := hz_30
            have hM1 := hM.fr hF1 rfl
            have hyi := hY1 i (by omega)
            have hyi1 := hY1 (i + 1) (by omega)
            have hsz := aP_s P i
            refine gx_aload_n hx dX9_item_33 rfl ?_
            refine gx_iload_n hx dX9_item_34 rfl ?_
            refine gx_if_ne (tgt := 46) hx dX9_item_35 (by decide) ⟨by omega, by omega⟩ (fun h35 => ?_) (fun h35 => ?_)
            · first
              | (exfalso; omega)
              | (refine gx_iload_n hx dX9_item_46 rfl ?_
                 refine gx_iconst hx dX9_item_47 ?_
                 refine gx_icmp_ne (tgt := 59) hx dX9_item_48 (by decide) ⟨by omega, by omega⟩ ⟨by omega, by omega⟩ (fun h48 => ?_) (fun h48 => ?_)
                 · first
                   | (exfalso; omega)
                   | (refine gx_iload_n hx dX9_item_59 rfl ?_
                      refine gx_iconst hx dX9_item_60 ?_
                      refine gx_icmp_ne (tgt := 72) hx dX9_item_61 (by decide) ⟨by omega, by omega⟩ ⟨by omega, by omega⟩ (fun h61 => ?_) (fun h61 => ?_)
                      · first
                        | (exfalso; omega)
                        | (refine gx_iload_n hx dX9_item_72 rfl ?_
                           refine gx_iconst hx dX9_item_73 ?_
                           refine gx_icmp_ne (tgt := 95) hx dX9_item_74 (by decide) ⟨by omega, by omega⟩ ⟨by omega, by omega⟩ (fun h74 => ?_) (fun h74 => ?_)
                           · first
                             | (exfalso; omega)
                             | (refine gx_aload_n hx dX9_item_95 rfl ?_
                                refine gx_getR hx flX9_27 dX9_item_96 (by decide) rfl rfl ?_
                                refine gx_iload_n hx dX9_item_99 rfl ?_
                                refine gx_iald hx dX9_item_100 (by decide) rfl (by omega) (by omega) (by decide) ?_
                                refine gx_callI hx (c_X9_done _ _) lkX9_90 mwX9_done dX9_item_101 (by decide) rfl rfl rfl rfl (Nat.le_of_ble_eq_true rfl) (by decide) ⟨by decide, by decide⟩ (fun z_101 σ_101 hz_101 => ?_)
                                obtain ⟨rfl, rfl⟩ := hz_101
                                refine hret _ _ _ _ _ _ _ (by decide) (by decide) dX9_item_104 rfl rfl ?_
                                refine ⟨0, (P, hs, sv, T, er), ?_, MZ.q hR hF1.S2 0 0 rfl⟩
                                show sp_item (P, hs, sv, T, er) (i : Int) w = _
                                rw [sp_item, if_neg (fun h9 => h9 hin), if_neg (by omega), Int.toNat_natCast]
                                refine Prod.ext rfl (Prod.ext ?_ rfl)
                                show itV P i w = _
                                unfold itV
                                dsimp only
                                (repeat' split) <;> omega)
                           · first
                             | (exfalso; omega)
                             | (refine gx_aload_n hx dX9_item_77 rfl ?_
                                refine gx_getR hx flX9_27 dX9_item_78 (by decide) rfl rfl ?_
                                refine gx_iload_n hx dX9_item_81 rfl ?_
                                refine gx_iconst hx dX9_item_82 ?_
                                refine gx_iadd hx dX9_item_83 ?_
                                rw [show (i : Int) + 1 = ((i + 1 : Nat) : Int) by omega]
                                refine gx_iald hx dX9_item_84 (by decide) rfl (by omega) (by omega) (by decide) ?_
                                refine gx_aload_n hx dX9_item_85 rfl ?_
                                refine gx_getR hx flX9_27 dX9_item_86 (by decide) rfl rfl ?_
                                refine gx_iload_n hx dX9_item_89 rfl ?_
                                refine gx_iald hx dX9_item_90 (by decide) rfl (by omega) (by omega) (by decide) ?_
                                refine gx_isub hx dX9_item_91 ?_
                                refine gx_goto (tgt := 101) hx dX9_item_92 (by decide) ?_
                                refine gx_callI hx (c_X9_done _ _) lkX9_90 mwX9_done dX9_item_101 (by decide) rfl rfl rfl rfl (Nat.le_of_ble_eq_true rfl) (by decide) ⟨by decide, by decide⟩ (fun z_101 σ_101 hz_101 => ?_)
                                obtain ⟨rfl, rfl⟩ := hz_101
                                refine hret _ _ _ _ _ _ _ (by decide) (by decide) dX9_item_104 rfl rfl ?_
                                refine ⟨0, (P, hs, sv, T, er), ?_, MZ.q hR hF1.S2 0 0 rfl⟩
                                show sp_item (P, hs, sv, T, er) (i : Int) w = _
                                rw [sp_item, if_neg (fun h9 => h9 hin), if_neg (by omega), Int.toNat_natCast]
                                refine Prod.ext rfl (Prod.ext ?_ rfl)
                                show itV P i w = _
                                unfold itV
                                dsimp only
                                (repeat' split) <;> omega))
                      · first
                        | (exfalso; omega)
                        | (refine gx_aload_n hx dX9_item_64 rfl ?_
                           refine gx_iload_n hx dX9_item_65 rfl ?_
                           refine gx_callI hx (c_X9_form (i := i) _ _ hM1 hi) lkX9_83 mwX9_form dX9_item_66 (by decide) rfl rfl rfl rfl (Nat.le_of_ble_eq_true rfl) (by decide) ⟨by decide, by decide⟩ (fun z_66 σ_66 hz_66 => ?_)
                           obtain ⟨rfl, rfl⟩ := hz_66
                           refine gx_goto (tgt := 101) hx dX9_item_69 (by decide) ?_
                           refine gx_callI hx (c_X9_done _ _) lkX9_90 mwX9_done dX9_item_101 (by decide) rfl rfl rfl rfl (Nat.le_of_ble_eq_true rfl) (by decide) ⟨by decide, by decide⟩ (fun z_101 σ_101 hz_101 => ?_)
                           obtain ⟨rfl, rfl⟩ := hz_101
                           refine hret _ _ _ _ _ _ _ (by decide) (by decide) dX9_item_104 rfl rfl ?_
                           refine ⟨0, (P, hs, sv, T, er), ?_, MZ.q hR hF1.S2 0 0 rfl⟩
                           show sp_item (P, hs, sv, T, er) (i : Int) w = _
                           rw [sp_item, if_neg (fun h9 => h9 hin), if_neg (by omega), Int.toNat_natCast]
                           refine Prod.ext rfl (Prod.ext ?_ rfl)
                           show itV P i w = _
                           unfold itV
                           dsimp only
                           (repeat' split) <;> omega))
                 · first
                   | (exfalso; omega)
                   | (refine gx_aload_n hx dX9_item_51 rfl ?_
                      refine gx_iload_n hx dX9_item_52 rfl ?_
                      refine gx_callI hx (c_X9_operand (i := i) _ _ hM1 hi) lkX9_63 mwX9_operand dX9_item_53 (by decide) rfl rfl rfl rfl (Nat.le_of_ble_eq_true rfl) (by decide) ⟨by decide, by decide⟩ (fun z_53 σ_53 hz_53 => ?_)
                      obtain ⟨rfl, rfl⟩ := hz_53
                      refine gx_goto (tgt := 101) hx dX9_item_56 (by decide) ?_
                      refine gx_callI hx (c_X9_done _ _) lkX9_90 mwX9_done dX9_item_101 (by decide) rfl rfl rfl rfl (Nat.le_of_ble_eq_true rfl) (by decide) ⟨by decide, by decide⟩ (fun z_101 σ_101 hz_101 => ?_)
                      obtain ⟨rfl, rfl⟩ := hz_101
                      refine hret _ _ _ _ _ _ _ (by decide) (by decide) dX9_item_104 rfl rfl ?_
                      refine ⟨0, (P, hs, sv, T, er), ?_, MZ.q hR hF1.S2 0 0 rfl⟩
                      show sp_item (P, hs, sv, T, er) (i : Int) w = _
                      rw [sp_item, if_neg (fun h9 => h9 hin), if_neg (by omega), Int.toNat_natCast]
                      refine Prod.ext rfl (Prod.ext ?_ rfl)
                      show itV P i w = _
                      unfold itV
                      dsimp only
                      (repeat' split) <;> omega))
            · first
              | (exfalso; omega)
              | (refine gx_aload_n hx dX9_item_38 rfl ?_
                 refine gx_iload_n hx dX9_item_39 rfl ?_
                 refine gx_callI hx (c_X9_kind (i := i) _ _ hM1 hi) lkX9_53 mwX9_kind dX9_item_40 (by decide) rfl rfl rfl rfl (Nat.le_of_ble_eq_true rfl) (by decide) ⟨by decide, by decide⟩ (fun z_40 σ_40 hz_40 => ?_)
                 obtain ⟨rfl, rfl⟩ := hz_40
                 refine gx_goto (tgt := 101) hx dX9_item_43 (by decide) ?_
                 refine gx_callI hx (c_X9_done _ _) lkX9_90 mwX9_done dX9_item_101 (by decide) rfl rfl rfl rfl (Nat.le_of_ble_eq_true rfl) (by decide) ⟨by decide, by decide⟩ (fun z_101 σ_101 hz_101 => ?_)
                 obtain ⟨rfl, rfl⟩ := hz_101
                 refine hret _ _ _ _ _ _ _ (by decide) (by decide) dX9_item_104 rfl rfl ?_
                 refine ⟨0, (P, hs, sv, T, er), ?_, MZ.q hR hF1.S2 0 0 rfl⟩
                 show sp_item (P, hs, sv, T, er) (i : Int) w = _
                 rw [sp_item, if_neg (fun h9 => h9 hin), if_neg (by omega), Int.toNat_natCast]
                 refine Prod.ext rfl (Prod.ext ?_ rfl)
                 show itV P i w = _
                 unfold itV
                 dsimp only
                 (repeat' split) <;> omega))
       · first
         | (exfalso; omega)
         | (refine gx_aload_n hx dX9_item_23 rfl ?_
            refine gx_iconst hx dX9_item_24 ?_
            refine gx_callI hx (c_X9_fails _ _) lkX9_93 mwX9_fails dX9_item_25 (by decide) rfl rfl rfl rfl (Nat.le_of_ble_eq_true rfl) (by decide) ⟨by decide, by decide⟩ (fun z_25 σ_25 hz_25 => ?_)
            obtain ⟨rfl, rfl⟩ := hz_25
            refine hret _ _ _ _ _ _ _ (by decide) (by decide) dX9_item_28 rfl rfl ?_
            exact ⟨2, (P, hs, sv, T, er), by show sp_item (P, hs, sv, T, er) (i : Int) w = _; rw [sp_item, if_neg (fun h9 => h9 hin), if_pos (by omega)], MZ.q hR FR.refl 2 2 rfl⟩))
  · first
    | (exfalso; omega)
    | (refine gx_aload_n hx dX9_item_8 rfl ?_
       refine gx_iconst hx dX9_item_9 ?_
       refine gx_callI hx (c_X9_fails _ _) lkX9_93 mwX9_fails dX9_item_10 (by decide) rfl rfl rfl rfl (Nat.le_of_ble_eq_true rfl) (by decide) ⟨by decide, by decide⟩ (fun z_10 σ_10 hz_10 => ?_)
       obtain ⟨rfl, rfl⟩ := hz_10
       refine hret _ _ _ _ _ _ _ (by decide) (by decide) dX9_item_13 rfl rfl ?_
       exact ⟨1, (P, hs, sv, T, er), by show sp_item (P, hs, sv, T, er) z w = _; rw [sp_item, if_pos (by omega)], MZ.q hR FR.refl 1 1 rfl⟩)
set_option maxRecDepth 20000 in
set_option maxHeartbeats 400000 in
theorem c_X9_nameSize (g : Gm) (l : Launch) {σ : Sg} {k : Nat} (hN : MN σ) (hk : k < 8) : KI g l yX9_nameSize cX9_nameSize 3 ((some .int)) (0) 0 0 [.inr 70, .inl (k : Int)] σ (fun r σ' => r = (nmL k : Int) ∧ σ = σ') := by
  refine startI (own := RX9) (by decide +kernel) rfl (Nat.le_of_ble_eq_true rfl) ?_
  intro X hx _ _ hret
  have hge := nm_ge k hk
  have hle := nm_le k (by omega)
  refine gx_bipush hx dX9_nameSize_0 (by decide) ?_
  refine gx_istore_n hx dX9_nameSize_2 (Nat.le_of_ble_eq_true rfl) ?_
  refine gx_loop (α := Nat) (fun n => nmL k ≤ n ∧ n ≤ 6) (fun n => n) (fun n => [some (.inr 70), some (.inl (k : Int)), some (.inl (n : Int))]) (fun _ => []) (fun _ => σ) ?_ 6 ⟨hle, Nat.le_refl _⟩
  rintro n ⟨hn1, hn2⟩ ih
  refine gx_aload_n hx dX9_nameSize_3 rfl ?_
  refine gx_getR hx flX9_33 dX9_nameSize_4 (by decide) rfl rfl ?_
  refine gx_bipush hx dX9_nameSize_7 (by decide) ?_
  refine gx_iload_n hx dX9_nameSize_9 rfl ?_
  refine gx_imul hx dX9_nameSize_10 ?_
  refine gx_iload_n hx dX9_nameSize_11 rfl ?_
  refine gx_iadd hx dX9_nameSize_12 ?_
  refine gx_iconst hx dX9_nameSize_13 ?_
  refine gx_isub hx dX9_nameSize_14 ?_
  refine gx_iald hx dX9_nameSize_15 (by decide) rfl (by omega) (by omega) (by decide) ?_
  obtain ⟨m, rfl⟩ : ∃ m, n = m + 1 := ⟨n - 1, by omega⟩
  have hNm := hN k m hk (by omega)
  rw [show 6 * (k : Int) + ((m + 1 : Nat) : Int) - 1 = 6 * (k : Int) + (m : Int) by omega, hNm]
  have hsp := nmA_sp k hk m (by omega)
  have hlt := nmA_lt k hk m (by omega)
  refine gx_bipush hx dX9_nameSize_16 (by decide) ?_
  refine gx_icmp_ne (tgt := 27) hx dX9_nameSize_18 (by decide) ⟨by omega, by omega⟩ ⟨by omega, by omega⟩ (fun h18 => ?_) (fun h18 => ?_)
  · first
    | (exfalso; omega)
    | (refine gx_iload_n hx dX9_nameSize_27 rfl ?_
       refine hret _ _ _ _ _ _ _ (by decide) (by decide) dX9_nameSize_28 rfl rfl ?_
       exact ⟨by omega, rfl⟩)
  · first
    | (exfalso; omega)
    | (refine gx_iinc hx dX9_nameSize_21 (Nat.le_of_ble_eq_true rfl) rfl ?_
       refine gx_goto (tgt := 3) hx dX9_nameSize_24 (by decide) ?_
       refine GJ.cong (by rw [show (m : Int) = ((m + 1 : Nat) : Int) + -1 by omega]; rfl) rfl rfl (ih m ⟨by omega, by omega⟩ (by omega)))
set_option maxRecDepth 20000 in
set_option maxHeartbeats 400000 in
theorem c_X9_nameCharacter (g : Gm) (l : Launch) {σ : Sg} {A : AS} {z w : Int} (hR : MR σ A) (hz : rg z) (hw : rg w) : KI g l yX9_nameCharacter cX9_nameCharacter 3 ((some .char)) (2) 0 0 [.inr 70, .inl z, .inl w] σ (MPI (fn (sp_nameCharacter A z w)) σ) := by
  refine startI (own := RX9) (by decide +kernel) rfl (Nat.le_of_ble_eq_true rfl) ?_
  intro X hx _ _ hret
  obtain ⟨P, hs, sv, T, er⟩ := A
  obtain ⟨hM, hH, hS, hT, he1, he2, he3, hN⟩ := id hR
  obtain ⟨hok, hn, hit⟩ := id hM
  have hl40 := hok.1
  obtain ⟨hz1, hz2⟩ := id hz
  obtain ⟨hw1, hw2⟩ := id hw
  refine gx_aload_n hx dX9_nameCharacter_0 rfl ?_
  refine gx_aload_n hx dX9_nameCharacter_1 rfl ?_
  refine gx_iload_n hx dX9_nameCharacter_2 rfl ?_
  refine gx_callI hx (c_X9_isItem _ _ hM hz) lkX9_137 mwX9_isItem dX9_nameCharacter_3 (by decide) rfl rfl rfl rfl (Nat.le_of_ble_eq_true rfl) (by decide) ⟨by decide, by decide⟩ (fun z_3 σ_3 hz_3 => ?_)
  obtain ⟨e9, rfl⟩ := hz_3
  replace e9 := ite10 e9
  refine gx_if_ne (tgt := 13) hx dX9_nameCharacter_6 (by decide) ⟨by omega, by omega⟩ (fun h6 => ?_) (fun h6 => ?_)
  · first
    | (exfalso; omega)
    | (refine gx_iconst hx dX9_nameCharacter_13 ?_
       refine gx_put hx fpX9_46 dX9_nameCharacter_14 (by decide) rfl rfl rfl rfl 0 rfl ?_
       refine gx_aload_n hx dX9_nameCharacter_17 rfl ?_
       refine gx_getI hx flX9_46 dX9_nameCharacter_18 (by decide) rfl rfl 0 rfl ?_
       rw [upd2_at]
       refine gx_if_eq (tgt := 26) hx dX9_nameCharacter_21 (by decide) ⟨by omega, by omega⟩ (fun h21 => ?_) (fun h21 => ?_)
       · first
         | (exfalso; omega)
         | (obtain ⟨i, rfl⟩ : ∃ i : Nat, z = (i : Int) := ⟨z.toNat, by omega⟩
            have hi : i < P.length := by omega
            have hin : inI P (i : Int) := by omega
            have hri := hM.rg i
            have hM1 : MP (upd2 σ 70 0 0) P := hM.same (upd2_other 71 (by decide))
            refine gx_aload_n hx dX9_nameCharacter_26 rfl ?_
            refine gx_iload_n hx dX9_nameCharacter_27 rfl ?_
            refine gx_iconst hx dX9_nameCharacter_28 ?_
            refine gx_aload_n hx dX9_nameCharacter_29 rfl ?_
            refine gx_aload_n hx dX9_nameCharacter_30 rfl ?_
            refine gx_iload_n hx dX9_nameCharacter_31 rfl ?_
            refine gx_callI hx (c_X9_kind (i := i) _ _ hM1 hi) lkX9_53 mwX9_kind dX9_nameCharacter_32 (by decide) rfl rfl rfl rfl (Nat.le_of_ble_eq_true rfl) (by decide) ⟨by decide, by decide⟩ (fun z_32 σ_32 hz_32 => ?_)
            obtain ⟨rfl, rfl⟩ := hz_32
            refine gx_callI hx (c_X9_nameSize (k := kd P i) _ _ (hN.same (upd2_other 77 (by decide))) hri.1) lkX9_99 mwX9_nameSize dX9_nameCharacter_35 (by decide) rfl rfl rfl rfl (Nat.le_of_ble_eq_true rfl) (by decide) ⟨by decide, by decide⟩ (fun z_35 σ_35 hz_35 => ?_)
            obtain ⟨rfl, rfl⟩ := hz_35
            have hnl := nm_le (kd P i) (by omega)
            refine gx_iconst hx dX9_nameCharacter_38 ?_
            refine gx_isub hx dX9_nameCharacter_39 ?_
            refine gx_callS hx (c_X9_in (v := w) (lo := 0) (hi := (nmL (kd P i) : Int) - 1) _ _ hw ⟨by decide, by decide⟩ ⟨by omega, by omega⟩) lkX9_49 mwX9_in dX9_nameCharacter_40 rfl rfl (Nat.le_of_ble_eq_true rfl) (by decide) ⟨by decide, by decide⟩ (fun z_40 σ_40 hz_40 => ?_)
            obtain ⟨e8, rfl⟩ := hz_40
            replace e8 := ite10 e8
            refine gx_if_eq (tgt := 50) hx dX9_nameCharacter_43 (by decide) ⟨by omega, by omega⟩ (fun h43 => ?_) (fun h43 => ?_)
            · first
              | (exfalso; omega)
              | (refine gx_iconst hx dX9_nameCharacter_50 ?_
                 refine gx_put hx fpX9_46 dX9_nameCharacter_51 (by decide) rfl rfl rfl rfl 0 rfl ?_
                 refine gx_aload_n hx dX9_nameCharacter_54 rfl ?_
                 refine gx_getI hx flX9_46 dX9_nameCharacter_55 (by decide) rfl rfl 0 rfl ?_
                 rw [upd2_at]
                 refine gx_if_eq (tgt := 65) hx dX9_nameCharacter_58 (by decide) ⟨by omega, by omega⟩ (fun h58 => ?_) (fun h58 => ?_)
                 · first
                   | (exfalso; omega)
                   | (obtain ⟨n, rfl⟩ : ∃ n : Nat, w = (n : Int) := ⟨w.toNat, by omega⟩
                      have hM2 : MP (upd2 (upd2 σ 70 0 0) 70 0 0) P := hM1.same (upd2_other 71 (by decide))
                      refine gx_aload_n hx dX9_nameCharacter_65 rfl ?_
                      refine gx_getR hx flX9_33 dX9_nameCharacter_66 (by decide) rfl rfl ?_
                      refine gx_bipush hx dX9_nameCharacter_69 (by decide) ?_
                      refine gx_aload_n hx dX9_nameCharacter_71 rfl ?_
                      refine gx_iload_n hx dX9_nameCharacter_72 rfl ?_
                      refine gx_callI hx (c_X9_kind (i := i) _ _ hM2 hi) lkX9_53 mwX9_kind dX9_nameCharacter_73 (by decide) rfl rfl rfl rfl (Nat.le_of_ble_eq_true rfl) (by decide) ⟨by decide, by decide⟩ (fun z_73 σ_73 hz_73 => ?_)
                      obtain ⟨rfl, rfl⟩ := hz_73
                      refine gx_imul hx dX9_nameCharacter_76 ?_
                      refine gx_iload_n hx dX9_nameCharacter_77 rfl ?_
                      refine gx_iadd hx dX9_nameCharacter_78 ?_
                      refine gx_iald hx dX9_nameCharacter_79 (by decide) rfl (by omega) (by omega) (by decide) ?_
                      rw [show upd2 (upd2 σ 70 0 0) 70 0 0 77 (6 * (kd P i : Int) + (n : Int)) = (nmC (kd P i) n : Int) by rw [upd2_c (by decide), upd2_c (by decide), hN _ _ hri.1 (by omega), nmA_in (by omega)]]
                      obtain ⟨-, nc1, nc2⟩ := nm_byt (kd P i) (by omega) n (by omega)
                      refine gx_i2c hx dX9_nameCharacter_80 (i2c255 _ (by omega)) ?_
                      refine hret _ _ _ _ _ _ _ (by decide) (by decide) dX9_nameCharacter_81 rfl (by first | rfl | exact nar_c _ (by omega)) ?_
                      first
                      | exact ⟨2, (P, hs, sv, T, er), by show sp_nameCharacter (P, hs, sv, T, er) (i : Int) w = _; rw [sp_nameCharacter, if_neg (fun h9 => h9 hin), Int.toNat_natCast, if_pos (by omega)], MZ.q hR (FR.updF rfl) 2 2 rfl⟩
                      | exact ⟨0, (P, hs, sv, T, er), by show sp_nameCharacter (P, hs, sv, T, er) (i : Int) (n : Int) = _; rw [sp_nameCharacter, if_neg (fun h9 => h9 hin), Int.toNat_natCast, if_neg (by omega), Int.toNat_natCast], MZ.q hR (FR.updF rfl) 0 0 rfl⟩)
                 · first
                   | (exfalso; omega)
                   | (refine gx_iconst hx dX9_nameCharacter_61 ?_
                      refine gx_goto (tgt := 81) hx dX9_nameCharacter_62 (by decide) ?_
                      refine hret _ _ _ _ _ _ _ (by decide) (by decide) dX9_nameCharacter_81 rfl (by first | rfl | exact nar_c _ (by omega)) ?_
                      first
                      | exact ⟨2, (P, hs, sv, T, er), by show sp_nameCharacter (P, hs, sv, T, er) (i : Int) w = _; rw [sp_nameCharacter, if_neg (fun h9 => h9 hin), Int.toNat_natCast, if_pos (by omega)], MZ.q hR (FR.updF rfl) 2 2 rfl⟩
                      | exact ⟨0, (P, hs, sv, T, er), by show sp_nameCharacter (P, hs, sv, T, er) (i : Int) (n : Int) = _; rw [sp_nameCharacter, if_neg (fun h9 => h9 hin), Int.toNat_natCast, if_neg (by omega), Int.toNat_natCast], MZ.q hR (FR.updF rfl) 0 0 rfl⟩))
            · first
              | (exfalso; omega)
              | (refine gx_iconst hx dX9_nameCharacter_46 ?_
                 refine gx_goto (tgt := 51) hx dX9_nameCharacter_47 (by decide) ?_
                 refine gx_put hx fpX9_46 dX9_nameCharacter_51 (by decide) rfl rfl rfl rfl 0 rfl ?_
                 refine gx_aload_n hx dX9_nameCharacter_54 rfl ?_
                 refine gx_getI hx flX9_46 dX9_nameCharacter_55 (by decide) rfl rfl 0 rfl ?_
                 rw [upd2_at]
                 refine gx_if_eq (tgt := 65) hx dX9_nameCharacter_58 (by decide) ⟨by omega, by omega⟩ (fun h58 => ?_) (fun h58 => ?_)
                 · first
                   | (exfalso; omega)
                   | (obtain ⟨n, rfl⟩ : ∃ n : Nat, w = (n : Int) := ⟨w.toNat, by omega⟩
                      have hM2 : MP (upd2 (upd2 σ 70 0 0) 70 0 0) P := hM1.same (upd2_other 71 (by decide))
                      refine gx_aload_n hx dX9_nameCharacter_65 rfl ?_
                      refine gx_getR hx flX9_33 dX9_nameCharacter_66 (by decide) rfl rfl ?_
                      refine gx_bipush hx dX9_nameCharacter_69 (by decide) ?_
                      refine gx_aload_n hx dX9_nameCharacter_71 rfl ?_
                      refine gx_iload_n hx dX9_nameCharacter_72 rfl ?_
                      refine gx_callI hx (c_X9_kind (i := i) _ _ hM2 hi) lkX9_53 mwX9_kind dX9_nameCharacter_73 (by decide) rfl rfl rfl rfl (Nat.le_of_ble_eq_true rfl) (by decide) ⟨by decide, by decide⟩ (fun z_73 σ_73 hz_73 => ?_)
                      obtain ⟨rfl, rfl⟩ := hz_73
                      refine gx_imul hx dX9_nameCharacter_76 ?_
                      refine gx_iload_n hx dX9_nameCharacter_77 rfl ?_
                      refine gx_iadd hx dX9_nameCharacter_78 ?_
                      refine gx_iald hx dX9_nameCharacter_79 (by decide) rfl (by omega) (by omega) (by decide) ?_
                      rw [show upd2 (upd2 σ 70 0 0) 70 0 0 77 (6 * (kd P i : Int) + (n : Int)) = (nmC (kd P i) n : Int) by rw [upd2_c (by decide), upd2_c (by decide), hN _ _ hri.1 (by omega), nmA_in (by omega)]]
                      obtain ⟨-, nc1, nc2⟩ := nm_byt (kd P i) (by omega) n (by omega)
                      refine gx_i2c hx dX9_nameCharacter_80 (i2c255 _ (by omega)) ?_
                      refine hret _ _ _ _ _ _ _ (by decide) (by decide) dX9_nameCharacter_81 rfl (by first | rfl | exact nar_c _ (by omega)) ?_
                      first
                      | exact ⟨2, (P, hs, sv, T, er), by show sp_nameCharacter (P, hs, sv, T, er) (i : Int) w = _; rw [sp_nameCharacter, if_neg (fun h9 => h9 hin), Int.toNat_natCast, if_pos (by omega)], MZ.q hR (FR.updF rfl) 2 2 rfl⟩
                      | exact ⟨0, (P, hs, sv, T, er), by show sp_nameCharacter (P, hs, sv, T, er) (i : Int) (n : Int) = _; rw [sp_nameCharacter, if_neg (fun h9 => h9 hin), Int.toNat_natCast, if_neg (by omega), Int.toNat_natCast], MZ.q hR (FR.updF rfl) 0 0 rfl⟩)
                 · first
                   | (exfalso; omega)
                   | (refine gx_iconst hx dX9_nameCharacter_61 ?_
                      refine gx_goto (tgt := 81) hx dX9_nameCharacter_62 (by decide) ?_
                      refine hret _ _ _ _ _ _ _ (by decide) (by decide) dX9_nameCharacter_81 rfl (by first | rfl | exact nar_c _ (by omega)) ?_
                      first
                      | exact ⟨2, (P, hs, sv, T, er), by show sp_nameCharacter (P, hs, sv, T, er) (i : Int) w = _; rw [sp_nameCharacter, if_neg (fun h9 => h9 hin), Int.toNat_natCast, if_pos (by omega)], MZ.q hR (FR.updF rfl) 2 2 rfl⟩
                      | exact ⟨0, (P, hs, sv, T, er), by show sp_nameCharacter (P, hs, sv, T, er) (i : Int) (n : Int) = _; rw [sp_nameCharacter, if_neg (fun h9 => h9 hin), Int.toNat_natCast, if_neg (by omega), Int.toNat_natCast], MZ.q hR (FR.updF rfl) 0 0 rfl⟩)))
       · first
         | (exfalso; omega)
         | (refine gx_iconst hx dX9_nameCharacter_24 ?_
            refine hret _ _ _ _ _ _ _ (by decide) (by decide) dX9_nameCharacter_25 rfl rfl ?_
            exact ⟨1, (P, hs, sv, T, er), by show sp_nameCharacter (P, hs, sv, T, er) z w = _; rw [sp_nameCharacter, if_pos (by omega)], MZ.q hR FR.refl 1 1 rfl⟩))
  · first
    | (exfalso; omega)
    | (refine gx_iconst hx dX9_nameCharacter_9 ?_
       refine gx_goto (tgt := 14) hx dX9_nameCharacter_10 (by decide) ?_
       refine gx_put hx fpX9_46 dX9_nameCharacter_14 (by decide) rfl rfl rfl rfl 0 rfl ?_
       refine gx_aload_n hx dX9_nameCharacter_17 rfl ?_
       refine gx_getI hx flX9_46 dX9_nameCharacter_18 (by decide) rfl rfl 0 rfl ?_
       rw [upd2_at]
       refine gx_if_eq (tgt := 26) hx dX9_nameCharacter_21 (by decide) ⟨by omega, by omega⟩ (fun h21 => ?_) (fun h21 => ?_)
       · first
         | (exfalso; omega)
         | (obtain ⟨i, rfl⟩ : ∃ i : Nat, z = (i : Int) := ⟨z.toNat, by omega⟩
            have hi : i < P.length := by omega
            have hin : inI P (i : Int) := by omega
            have hri := hM.rg i
            have hM1 : MP (upd2 σ 70 0 0) P := hM.same (upd2_other 71 (by decide))
            refine gx_aload_n hx dX9_nameCharacter_26 rfl ?_
            refine gx_iload_n hx dX9_nameCharacter_27 rfl ?_
            refine gx_iconst hx dX9_nameCharacter_28 ?_
            refine gx_aload_n hx dX9_nameCharacter_29 rfl ?_
            refine gx_aload_n hx dX9_nameCharacter_30 rfl ?_
            refine gx_iload_n hx dX9_nameCharacter_31 rfl ?_
            refine gx_callI hx (c_X9_kind (i := i) _ _ hM1 hi) lkX9_53 mwX9_kind dX9_nameCharacter_32 (by decide) rfl rfl rfl rfl (Nat.le_of_ble_eq_true rfl) (by decide) ⟨by decide, by decide⟩ (fun z_32 σ_32 hz_32 => ?_)
            obtain ⟨rfl, rfl⟩ := hz_32
            refine gx_callI hx (c_X9_nameSize (k := kd P i) _ _ (hN.same (upd2_other 77 (by decide))) hri.1) lkX9_99 mwX9_nameSize dX9_nameCharacter_35 (by decide) rfl rfl rfl rfl (Nat.le_of_ble_eq_true rfl) (by decide) ⟨by decide, by decide⟩ (fun z_35 σ_35 hz_35 => ?_)
            obtain ⟨rfl, rfl⟩ := hz_35
            have hnl := nm_le (kd P i) (by omega)
            refine gx_iconst hx dX9_nameCharacter_38 ?_
            refine gx_isub hx dX9_nameCharacter_39 ?_
            refine gx_callS hx (c_X9_in (v := w) (lo := 0) (hi := (nmL (kd P i) : Int) - 1) _ _ hw ⟨by decide, by decide⟩ ⟨by omega, by omega⟩) lkX9_49 mwX9_in dX9_nameCharacter_40 rfl rfl (Nat.le_of_ble_eq_true rfl) (by decide) ⟨by decide, by decide⟩ (fun z_40 σ_40 hz_40 => ?_)
            obtain ⟨e8, rfl⟩ := hz_40
            replace e8 := ite10 e8
            refine gx_if_eq (tgt := 50) hx dX9_nameCharacter_43 (by decide) ⟨by omega, by omega⟩ (fun h43 => ?_) (fun h43 => ?_)
            · first
              | (exfalso; omega)
              | (refine gx_iconst hx dX9_nameCharacter_50 ?_
                 refine gx_put hx fpX9_46 dX9_nameCharacter_51 (by decide) rfl rfl rfl rfl 0 rfl ?_
                 refine gx_aload_n hx dX9_nameCharacter_54 rfl ?_
                 refine gx_getI hx flX9_46 dX9_nameCharacter_55 (by decide) rfl rfl 0 rfl ?_
                 rw [upd2_at]
                 refine gx_if_eq (tgt := 65) hx dX9_nameCharacter_58 (by decide) ⟨by omega, by omega⟩ (fun h58 => ?_) (fun h58 => ?_)
                 · first
                   | (exfalso; omega)
                   | (obtain ⟨n, rfl⟩ : ∃ n : Nat, w = (n : Int) := ⟨w.toNat, by omega⟩
                      have hM2 : MP (upd2 (upd2 σ 70 0 0) 70 0 0) P := hM1.same (upd2_other 71 (by decide))
                      refine gx_aload_n hx dX9_nameCharacter_65 rfl ?_
                      refine gx_getR hx flX9_33 dX9_nameCharacter_66 (by decide) rfl rfl ?_
                      refine gx_bipush hx dX9_nameCharacter_69 (by decide) ?_
                      refine gx_aload_n hx dX9_nameCharacter_71 rfl ?_
                      refine gx_iload_n hx dX9_nameCharacter_72 rfl ?_
                      refine gx_callI hx (c_X9_kind (i := i) _ _ hM2 hi) lkX9_53 mwX9_kind dX9_nameCharacter_73 (by decide) rfl rfl rfl rfl (Nat.le_of_ble_eq_true rfl) (by decide) ⟨by decide, by decide⟩ (fun z_73 σ_73 hz_73 => ?_)
                      obtain ⟨rfl, rfl⟩ := hz_73
                      refine gx_imul hx dX9_nameCharacter_76 ?_
                      refine gx_iload_n hx dX9_nameCharacter_77 rfl ?_
                      refine gx_iadd hx dX9_nameCharacter_78 ?_
                      refine gx_iald hx dX9_nameCharacter_79 (by decide) rfl (by omega) (by omega) (by decide) ?_
                      rw [show upd2 (upd2 σ 70 0 0) 70 0 0 77 (6 * (kd P i : Int) + (n : Int)) = (nmC (kd P i) n : Int) by rw [upd2_c (by decide), upd2_c (by decide), hN _ _ hri.1 (by omega), nmA_in (by omega)]]
                      obtain ⟨-, nc1, nc2⟩ := nm_byt (kd P i) (by omega) n (by omega)
                      refine gx_i2c hx dX9_nameCharacter_80 (i2c255 _ (by omega)) ?_
                      refine hret _ _ _ _ _ _ _ (by decide) (by decide) dX9_nameCharacter_81 rfl (by first | rfl | exact nar_c _ (by omega)) ?_
                      first
                      | exact ⟨2, (P, hs, sv, T, er), by show sp_nameCharacter (P, hs, sv, T, er) (i : Int) w = _; rw [sp_nameCharacter, if_neg (fun h9 => h9 hin), Int.toNat_natCast, if_pos (by omega)], MZ.q hR (FR.updF rfl) 2 2 rfl⟩
                      | exact ⟨0, (P, hs, sv, T, er), by show sp_nameCharacter (P, hs, sv, T, er) (i : Int) (n : Int) = _; rw [sp_nameCharacter, if_neg (fun h9 => h9 hin), Int.toNat_natCast, if_neg (by omega), Int.toNat_natCast], MZ.q hR (FR.updF rfl) 0 0 rfl⟩)
                 · first
                   | (exfalso; omega)
                   | (refine gx_iconst hx dX9_nameCharacter_61 ?_
                      refine gx_goto (tgt := 81) hx dX9_nameCharacter_62 (by decide) ?_
                      refine hret _ _ _ _ _ _ _ (by decide) (by decide) dX9_nameCharacter_81 rfl (by first | rfl | exact nar_c _ (by omega)) ?_
                      first
                      | exact ⟨2, (P, hs, sv, T, er), by show sp_nameCharacter (P, hs, sv, T, er) (i : Int) w = _; rw [sp_nameCharacter, if_neg (fun h9 => h9 hin), Int.toNat_natCast, if_pos (by omega)], MZ.q hR (FR.updF rfl) 2 2 rfl⟩
                      | exact ⟨0, (P, hs, sv, T, er), by show sp_nameCharacter (P, hs, sv, T, er) (i : Int) (n : Int) = _; rw [sp_nameCharacter, if_neg (fun h9 => h9 hin), Int.toNat_natCast, if_neg (by omega), Int.toNat_natCast], MZ.q hR (FR.updF rfl) 0 0 rfl⟩))
            · first
              | (exfalso; omega)
              | (refine gx_iconst hx dX9_nameCharacter_46 ?_
                 refine gx_goto (tgt := 51) hx dX9_nameCharacter_47 (by decide) ?_
                 refine gx_put hx fpX9_46 dX9_nameCharacter_51 (by decide) rfl rfl rfl rfl 0 rfl ?_
                 refine gx_aload_n hx dX9_nameCharacter_54 rfl ?_
                 refine gx_getI hx flX9_46 dX9_nameCharacter_55 (by decide) rfl rfl 0 rfl ?_
                 rw [upd2_at]
                 refine gx_if_eq (tgt := 65) hx dX9_nameCharacter_58 (by decide) ⟨by omega, by omega⟩ (fun h58 => ?_) (fun h58 => ?_)
                 · first
                   | (exfalso; omega)
                   | (obtain ⟨n, rfl⟩ : ∃ n : Nat, w = (n : Int) := ⟨w.toNat, by omega⟩
                      have hM2 : MP (upd2 (upd2 σ 70 0 0) 70 0 0) P := hM1.same (upd2_other 71 (by decide))
                      refine gx_aload_n hx dX9_nameCharacter_65 rfl ?_
                      refine gx_getR hx flX9_33 dX9_nameCharacter_66 (by decide) rfl rfl ?_
                      refine gx_bipush hx dX9_nameCharacter_69 (by decide) ?_
                      refine gx_aload_n hx dX9_nameCharacter_71 rfl ?_
                      refine gx_iload_n hx dX9_nameCharacter_72 rfl ?_
                      refine gx_callI hx (c_X9_kind (i := i) _ _ hM2 hi) lkX9_53 mwX9_kind dX9_nameCharacter_73 (by decide) rfl rfl rfl rfl (Nat.le_of_ble_eq_true rfl) (by decide) ⟨by decide, by decide⟩ (fun z_73 σ_73 hz_73 => ?_)
                      obtain ⟨rfl, rfl⟩ := hz_73
                      refine gx_imul hx dX9_nameCharacter_76 ?_
                      refine gx_iload_n hx dX9_nameCharacter_77 rfl ?_
                      refine gx_iadd hx dX9_nameCharacter_78 ?_
                      refine gx_iald hx dX9_nameCharacter_79 (by decide) rfl (by omega) (by omega) (by decide) ?_
                      rw [show upd2 (upd2 σ 70 0 0) 70 0 0 77 (6 * (kd P i : Int) + (n : Int)) = (nmC (kd P i) n : Int) by rw [upd2_c (by decide), upd2_c (by decide), hN _ _ hri.1 (by omega), nmA_in (by omega)]]
                      obtain ⟨-, nc1, nc2⟩ := nm_byt (kd P i) (by omega) n (by omega)
                      refine gx_i2c hx dX9_nameCharacter_80 (i2c255 _ (by omega)) ?_
                      refine hret _ _ _ _ _ _ _ (by decide) (by decide) dX9_nameCharacter_81 rfl (by first | rfl | exact nar_c _ (by omega)) ?_
                      first
                      | exact ⟨2, (P, hs, sv, T, er), by show sp_nameCharacter (P, hs, sv, T, er) (i : Int) w = _; rw [sp_nameCharacter, if_neg (fun h9 => h9 hin), Int.toNat_natCast, if_pos (by omega)], MZ.q hR (FR.updF rfl) 2 2 rfl⟩
                      | exact ⟨0, (P, hs, sv, T, er), by show sp_nameCharacter (P, hs, sv, T, er) (i : Int) (n : Int) = _; rw [sp_nameCharacter, if_neg (fun h9 => h9 hin), Int.toNat_natCast, if_neg (by omega), Int.toNat_natCast], MZ.q hR (FR.updF rfl) 0 0 rfl⟩)
                 · first
                   | (exfalso; omega)
                   | (refine gx_iconst hx dX9_nameCharacter_61 ?_
                      refine gx_goto (tgt := 81) hx dX9_nameCharacter_62 (by decide) ?_
                      refine hret _ _ _ _ _ _ _ (by decide) (by decide) dX9_nameCharacter_81 rfl (by first | rfl | exact nar_c _ (by omega)) ?_
                      first
                      | exact ⟨2, (P, hs, sv, T, er), by show sp_nameCharacter (P, hs, sv, T, er) (i : Int) w = _; rw [sp_nameCharacter, if_neg (fun h9 => h9 hin), Int.toNat_natCast, if_pos (by omega)], MZ.q hR (FR.updF rfl) 2 2 rfl⟩
                      | exact ⟨0, (P, hs, sv, T, er), by show sp_nameCharacter (P, hs, sv, T, er) (i : Int) (n : Int) = _; rw [sp_nameCharacter, if_neg (fun h9 => h9 hin), Int.toNat_natCast, if_neg (by omega), Int.toNat_natCast], MZ.q hR (FR.updF rfl) 0 0 rfl⟩)))
       · first
         | (exfalso; omega)
         | (refine gx_iconst hx dX9_nameCharacter_24 ?_
            refine hret _ _ _ _ _ _ _ (by decide) (by decide) dX9_nameCharacter_25 rfl rfl ?_
            exact ⟨1, (P, hs, sv, T, er), by show sp_nameCharacter (P, hs, sv, T, er) z w = _; rw [sp_nameCharacter, if_pos (by omega)], MZ.q hR FR.refl 1 1 rfl⟩))
set_option maxRecDepth 20000 in
set_option maxHeartbeats 400000 in
theorem c_X9_setForm (g : Gm) (l : Launch) {σ : Sg} {A : AS} {z w : Int} (hR : MR σ A) (hz : rg z) (hw : rg w) : KI g l yX9_setForm cX9_setForm 4 ((some .int)) (3) 0 0 [.inr 70, .inl z, .inl w] σ (MPI (fn (sp_setForm A z w)) σ) := by
  refine startI (own := RX9) (by decide +kernel) rfl (Nat.le_of_ble_eq_true rfl) ?_
  intro X hx _ _ hret
  obtain ⟨P, hs, sv, T, er⟩ := A
  obtain ⟨hM, hH, hS, hT, he1, he2, he3, hN⟩ := id hR
  obtain ⟨hok, hn, hit⟩ := id hM
  have hl40 := hok.1
  obtain ⟨hz1, hz2⟩ := id hz
  obtain ⟨hw1, hw2⟩ := id hw
  refine gx_aload_n hx dX9_setForm_0 rfl ?_
  refine gx_iload_n hx dX9_setForm_1 rfl ?_
  refine gx_callI hx (c_X9_isItem _ _ hM hz) lkX9_137 mwX9_isItem dX9_setForm_2 (by decide) rfl rfl rfl rfl (Nat.le_of_ble_eq_true rfl) (by decide) ⟨by decide, by decide⟩ (fun z_2 σ_2 hz_2 => ?_)
  obtain ⟨e9, rfl⟩ := hz_2
  replace e9 := ite10 e9
  refine gx_if_ne (tgt := 14) hx dX9_setForm_5 (by decide) ⟨by omega, by omega⟩ (fun h5 => ?_) (fun h5 => ?_)
  · first
    | (exfalso; omega)
    | (obtain ⟨i, rfl⟩ : ∃ i : Nat, z = (i : Int) := ⟨z.toNat, by omega⟩
       have hi : i < P.length := by omega
       have hin : inI P (i : Int) := by omega
       have hri := hM.rg i
       refine gx_aload_n hx dX9_setForm_14 rfl ?_
       refine gx_iload_n hx dX9_setForm_15 rfl ?_
       refine gx_callI hx (c_X9_isTransfer (i := i) _ _ hM hi) lkX9_146 mwX9_isTransfer dX9_setForm_16 (by decide) rfl rfl rfl rfl (Nat.le_of_ble_eq_true rfl) (by decide) ⟨by decide, by decide⟩ (fun z_16 σ_16 hz_16 => ?_)
       obtain ⟨e8, rfl⟩ := hz_16
       replace e8 := ite10 e8
       refine gx_if_eq (tgt := 31) hx dX9_setForm_19 (by decide) ⟨by omega, by omega⟩ (fun h19 => ?_) (fun h19 => ?_)
       · first
         | (exfalso; omega)
         | (refine gx_aload_n hx dX9_setForm_31 rfl ?_
            refine gx_iconst hx dX9_setForm_32 ?_
            refine gx_callI hx (c_X9_fails _ _) lkX9_93 mwX9_fails dX9_setForm_33 (by decide) rfl rfl rfl rfl (Nat.le_of_ble_eq_true rfl) (by decide) ⟨by decide, by decide⟩ (fun z_33 σ_33 hz_33 => ?_)
            obtain ⟨rfl, rfl⟩ := hz_33
            refine hret _ _ _ _ _ _ _ (by decide) (by decide) dX9_setForm_36 rfl rfl ?_
            first
            | exact ⟨2, (P, hs, sv, T, er), by show sp_setForm (P, hs, sv, T, er) (i : Int) w = _; rw [sp_setForm, if_neg (fun h9 => h9 hin), Int.toNat_natCast, if_pos (by omega)], MZ.q hR FR.refl 2 2 rfl⟩
            | exact ⟨2, (P, hs, sv, T, er), by show sp_setForm (P, hs, sv, T, er) (i : Int) w = _; rw [sp_setForm, if_neg (fun h9 => h9 hin), Int.toNat_natCast, if_neg (by omega), if_pos (by omega)], MZ.q hR FR.refl 2 2 rfl⟩)
       · first
         | (exfalso; omega)
         | (refine gx_iload_n hx dX9_setForm_22 rfl ?_
            refine gx_iconst hx dX9_setForm_23 ?_
            refine gx_iconst hx dX9_setForm_24 ?_
            refine gx_callS hx (c_X9_in (v := w) (lo := 0) (hi := 2) _ _ hw ⟨by decide, by decide⟩ ⟨by decide, by decide⟩) lkX9_49 mwX9_in dX9_setForm_25 rfl rfl (Nat.le_of_ble_eq_true rfl) (by decide) ⟨by decide, by decide⟩ (fun z_25 σ_25 hz_25 => ?_)
            obtain ⟨e7, rfl⟩ := hz_25
            replace e7 := ite10 e7
            refine gx_if_ne (tgt := 37) hx dX9_setForm_28 (by decide) ⟨by omega, by omega⟩ (fun h28 => ?_) (fun h28 => ?_)
            · first
              | (exfalso; omega)
              | (obtain ⟨f, rfl⟩ : ∃ f : Nat, w = (f : Int) := ⟨w.toNat, by omega⟩
                 have ht : isT P i := by omega
                 refine gx_aload_n hx dX9_setForm_37 rfl ?_
                 refine gx_callV hx (c_X9_remembers _ _ hM hH) lkX9_131 mwX9_remembers dX9_setForm_38 (by decide) rfl rfl rfl rfl (Nat.le_of_ble_eq_true rfl) (by decide) ⟨by decide, by decide⟩ (fun σ_38 hz_38 => ?_)
                 obtain ⟨hH1, hF1⟩ := hz_38
                 have hM1 := hM.fr hF1 rfl
                 refine gx_aload_n hx dX9_setForm_41 rfl ?_
                 refine gx_iload_n hx dX9_setForm_42 rfl ?_
                 refine gx_callI hx (c_X9_form (i := i) _ _ hM1 hi) lkX9_83 mwX9_form dX9_setForm_43 (by decide) rfl rfl rfl rfl (Nat.le_of_ble_eq_true rfl) (by decide) ⟨by decide, by decide⟩ (fun z_43 σ_43 hz_43 => ?_)
                 obtain ⟨rfl, rfl⟩ := hz_43
                 refine gx_istore_n hx dX9_setForm_46 (Nat.le_of_ble_eq_true rfl) ?_
                 refine gx_aload_n hx dX9_setForm_47 rfl ?_
                 refine gx_iload_n hx dX9_setForm_48 rfl ?_
                 refine gx_iload_n hx dX9_setForm_49 rfl ?_
                 refine gx_callV hx (c_X9_forms (z := (i : Int)) (v := (f : Int)) _ _ (by omega) (by omega)) lkX9_113 mwX9_forms dX9_setForm_50 (by decide) rfl rfl rfl rfl (Nat.le_of_ble_eq_true rfl) (by decide) ⟨by decide, by decide⟩ (fun σ_50 hz_50 => ?_)
                 subst hz_50
                 refine gx_aload_n hx dX9_setForm_53 rfl ?_
                 refine gx_iload_n hx dX9_setForm_54 rfl ?_
                 refine gx_callI hx (c_X9_done _ _) lkX9_90 mwX9_done dX9_setForm_55 (by decide) rfl rfl rfl rfl (Nat.le_of_ble_eq_true rfl) (by decide) ⟨by decide, by decide⟩ (fun z_55 σ_55 hz_55 => ?_)
                 obtain ⟨rfl, rfl⟩ := hz_55
                 refine hret _ _ _ _ _ _ _ (by decide) (by decide) dX9_setForm_58 rfl rfl ?_
                 have hM2 := MP_stF (f := f) hM1 hi (stF_ok hok (by omega) (by omega))
                 have hF2 := FR.trans hF1.P72 (FR.P71 (FR.upd (k := 71) (z := 81 + (i : Int)) (v := (f : Int)) (by decide) rfl))
                 have hH2 : MH _ _ := hH1.same (τ := upd2 σ_38 71 (81 + (i : Int)) (f : Int)) (upd2_c (by decide)) (upd2_other 72 (by decide))
                 exact ⟨0, (stF P i f, psh P hs, sv, T, er), by show sp_setForm (P, hs, sv, T, er) (i : Int) (f : Int) = _; rw [sp_setForm, if_neg (fun h9 => h9 hin), Int.toNat_natCast, if_neg (by omega), if_neg (by omega), Int.toNat_natCast], MZ.t (hR.change hM2 hH2 hF2) hF2.PA 0 0 rfl⟩)
            · first
              | (exfalso; omega)
              | (refine gx_aload_n hx dX9_setForm_31 rfl ?_
                 refine gx_iconst hx dX9_setForm_32 ?_
                 refine gx_callI hx (c_X9_fails _ _) lkX9_93 mwX9_fails dX9_setForm_33 (by decide) rfl rfl rfl rfl (Nat.le_of_ble_eq_true rfl) (by decide) ⟨by decide, by decide⟩ (fun z_33 σ_33 hz_33 => ?_)
                 obtain ⟨rfl, rfl⟩ := hz_33
                 refine hret _ _ _ _ _ _ _ (by decide) (by decide) dX9_setForm_36 rfl rfl ?_
                 first
                 | exact ⟨2, (P, hs, sv, T, er), by show sp_setForm (P, hs, sv, T, er) (i : Int) w = _; rw [sp_setForm, if_neg (fun h9 => h9 hin), Int.toNat_natCast, if_pos (by omega)], MZ.q hR FR.refl 2 2 rfl⟩
                 | exact ⟨2, (P, hs, sv, T, er), by show sp_setForm (P, hs, sv, T, er) (i : Int) w = _; rw [sp_setForm, if_neg (fun h9 => h9 hin), Int.toNat_natCast, if_neg (by omega), if_pos (by omega)], MZ.q hR FR.refl 2 2 rfl⟩)))
  · first
    | (exfalso; omega)
    | (refine gx_aload_n hx dX9_setForm_8 rfl ?_
       refine gx_iconst hx dX9_setForm_9 ?_
       refine gx_callI hx (c_X9_fails _ _) lkX9_93 mwX9_fails dX9_setForm_10 (by decide) rfl rfl rfl rfl (Nat.le_of_ble_eq_true rfl) (by decide) ⟨by decide, by decide⟩ (fun z_10 σ_10 hz_10 => ?_)
       obtain ⟨rfl, rfl⟩ := hz_10
       refine hret _ _ _ _ _ _ _ (by decide) (by decide) dX9_setForm_13 rfl rfl ?_
       exact ⟨1, (P, hs, sv, T, er), by show sp_setForm (P, hs, sv, T, er) z w = _; rw [sp_setForm, if_pos (by omega)], MZ.q hR FR.refl 1 1 rfl⟩)
set_option maxRecDepth 20000 in
set_option maxHeartbeats 400000 in
theorem c_X9_totalSize (g : Gm) (l : Launch) {σ : Sg} {A : AS} (hR : MR σ A) : KI g l yX9_totalSize cX9_totalSize 1 ((some .int)) (5) 0 0 [.inr 70] σ (MPI (fn (sp_totalSize A)) σ) := by
  refine startI (own := RX9) (by decide +kernel) rfl (Nat.le_of_ble_eq_true rfl) ?_
  intro X hx _ _ hret
  obtain ⟨P, hs, sv, T, er⟩ := A
  obtain ⟨hM, hH, hS, hT, he1, he2, he3, hN⟩ := id hR
  obtain ⟨hok, hn, hit⟩ := id hM
  have hl40 := hok.1
  refine gx_aload_n hx dX9_totalSize_0 rfl ?_
  refine gx_callV hx (c_X9_lays _ _ hM) lkX9_143 mwX9_lays dX9_totalSize_1 (by decide) rfl rfl rfl rfl (Nat.le_of_ble_eq_true rfl) (by decide) ⟨by decide, by decide⟩ (fun σ_1 hz_1 => ?_)
  obtain ⟨hY1, hF1⟩ := hz_1
  have hM1 := hM.fr hF1 rfl
  refine gx_aload_n hx dX9_totalSize_4 rfl ?_
  refine gx_aload_n hx dX9_totalSize_5 rfl ?_
  refine gx_callI hx (c_X9_total _ _ hM1 hY1) lkX9_149 mwX9_total dX9_totalSize_6 (by decide) rfl rfl rfl rfl (Nat.le_of_ble_eq_true rfl) (by decide) ⟨by decide, by decide⟩ (fun z_6 σ_6 hz_6 => ?_)
  obtain ⟨rfl, hF2⟩ := hz_6
  refine gx_callI hx (c_X9_done _ _) lkX9_90 mwX9_done dX9_totalSize_9 (by decide) rfl rfl rfl rfl (Nat.le_of_ble_eq_true rfl) (by decide) ⟨by decide, by decide⟩ (fun z_9 σ_9 hz_9 => ?_)
  obtain ⟨rfl, rfl⟩ := hz_9
  refine hret _ _ _ _ _ _ _ (by decide) (by decide) dX9_totalSize_12 rfl rfl ?_
  exact ⟨0, (P, hs, sv, T, er), rfl, MZ.q hR (hF1.S2.trans hF2.S1) 0 0 rfl⟩
set_option maxRecDepth 20000 in
set_option maxHeartbeats 400000 in
theorem c_X9_padding (g : Gm) (l : Launch) {σ : Sg} {A : AS} (hR : MR σ A) : KI g l yX9_padding cX9_padding 4 ((some .int)) (5) 0 0 [.inr 70] σ (MPI (fn (sp_padding A)) σ) := by
  refine startI (own := RX9) (by decide +kernel) rfl (Nat.le_of_ble_eq_true rfl) ?_
  intro X hx _ _ hret
  obtain ⟨P, hs, sv, T, er⟩ := A
  obtain ⟨hM, hH, hS, hT, he1, he2, he3, hN⟩ := id hR
  obtain ⟨hok, hn, hit⟩ := id hM
  have hl40 := hok.1
  refine gx_aload_n hx dX9_padding_0 rfl ?_
  refine gx_callV hx (c_X9_lays _ _ hM) lkX9_143 mwX9_lays dX9_padding_1 (by decide) rfl rfl rfl rfl (Nat.le_of_ble_eq_true rfl) (by decide) ⟨by decide, by decide⟩ (fun σ_1 hz_1 => ?_)
  obtain ⟨hY1, hF1⟩ := hz_1
  have hM1 := hM.fr hF1 rfl
  refine gx_iconst hx dX9_padding_4 ?_
  refine gx_istore_n hx dX9_padding_5 (Nat.le_of_ble_eq_true rfl) ?_
  refine gx_iconst hx dX9_padding_6 ?_
  refine gx_istore_n hx dX9_padding_7 (Nat.le_of_ble_eq_true rfl) ?_
  refine gx_loop (α := Nat × Sg) (fun x => x.1 ≤ P.length + 1 ∧ FR σ_1 x.2 c1 f1) (fun x => P.length + 1 - x.1) (fun x => [some (.inr 70), some (.inl ((alS P x.1 + poS P x.1 : Nat) : Int)), some (.inl (x.1 : Int)), none]) (fun _ => []) (fun x => x.2) ?_ (0, σ_1) ⟨Nat.zero_le _, FR.refl⟩
  rintro ⟨i, τ⟩ ⟨hin, hF2⟩ ih
  dsimp only at hin hF2 ih ⊢
  have hM2 := hM1.fr hF2 rfl
  have hY2 := hY1.fr hF2 rfl
  have hri := hM.rg i
  have hout := fun h : P.length ≤ i => (ok_out (P := P) h).1
  have hale := alS_le hok i
  have hple := poS_le P i
  refine gx_iload_n hx dX9_padding_8 rfl ?_
  refine gx_aload_n hx dX9_padding_9 rfl ?_
  refine gx_getR hx flX9_7 dX9_padding_10 (by decide) rfl rfl ?_
  refine gx_iconst hx dX9_padding_13 ?_
  refine gx_iald hx dX9_padding_14 (by decide) rfl (by omega) (by omega) (by decide) ?_
  rw [hM2.2.1]
  refine gx_icmp_gt (tgt := 97) hx dX9_padding_15 (by decide) ⟨by omega, by omega⟩ ⟨by omega, by omega⟩ (fun h15 => ?_) (fun h15 => ?_)
  · first
    | (exfalso; omega)
    | (refine gx_aload_n hx dX9_padding_97 rfl ?_
       refine gx_iload_n hx dX9_padding_98 rfl ?_
       refine gx_callI hx (c_X9_done _ _) lkX9_90 mwX9_done dX9_padding_99 (by decide) rfl rfl rfl rfl (Nat.le_of_ble_eq_true rfl) (by decide) ⟨by decide, by decide⟩ (fun z_99 σ_99 hz_99 => ?_)
       obtain ⟨rfl, rfl⟩ := hz_99
       refine hret _ _ _ _ _ _ _ (by decide) (by decide) dX9_padding_102 rfl rfl ?_
       have ei : i = P.length + 1 := by omega
       subst ei
       refine ⟨0, (P, hs, sv, T, er), ?_, MZ.q hR (hF1.S2.trans hF2.S1) 0 0 rfl⟩
       show sp_padding (P, hs, sv, T, er) = _
       rw [sp_padding, show alS P (P.length + 1) = alS P P.length by rw [alS, if_neg (by rw [(ok_out (P := P) (Nat.le_refl _)).1]; decide)]; rfl])
  · first
    | (exfalso; omega)
    | (refine gx_iload_n hx dX9_padding_18 rfl ?_
       refine gx_aload_n hx dX9_padding_19 rfl ?_
       refine gx_getR hx flX9_7 dX9_padding_20 (by decide) rfl rfl ?_
       refine gx_iconst hx dX9_padding_23 ?_
       refine gx_iald hx dX9_padding_24 (by decide) rfl (by omega) (by omega) (by decide) ?_
       rw [hM2.2.1]
       have hab := aPb hok (show i ≤ P.length by omega)
       have hyi := hY2 i (by omega)
       refine gx_icmp_eq (tgt := 38) hx dX9_padding_25 (by decide) ⟨by omega, by omega⟩ ⟨by omega, by omega⟩ (fun h25 => ?_) (fun h25 => ?_)
       · first
         | (exfalso; omega)
         | (refine gx_aload_n hx dX9_padding_38 rfl ?_
            refine gx_iload_n hx dX9_padding_39 rfl ?_
            refine gx_aload_n hx dX9_padding_40 rfl ?_
            refine gx_getR hx flX9_27 dX9_padding_41 (by decide) rfl rfl ?_
            refine gx_iload_n hx dX9_padding_44 rfl ?_
            refine gx_iald hx dX9_padding_45 (by decide) rfl (by omega) (by omega) (by decide) ?_
            rw [hyi]
            refine gx_callI hx (c_X9_poolSize (q := i) (a := aP P i) _ _ hM2 (by omega) (by omega)) lkX9_80 mwX9_poolSize dX9_padding_46 (by decide) rfl rfl rfl rfl (Nat.le_of_ble_eq_true rfl) (by decide) ⟨by decide, by decide⟩ (fun z_46 σ_46 hz_46 => ?_)
            obtain ⟨rfl, hV3, hF3⟩ := hz_46
            have hps := plSz_ge (vals P i).length (aP P i)
            refine gx_istore_n hx dX9_padding_49 (Nat.le_of_ble_eq_true rfl) ?_
            refine gx_iload_n hx dX9_padding_50 rfl ?_
            refine gx_iload_n hx dX9_padding_51 rfl ?_
            refine gx_iconst hx dX9_padding_52 ?_
            refine gx_aload_n hx dX9_padding_53 rfl ?_
            refine gx_getI hx flX9_60 dX9_padding_54 (by decide) rfl rfl 11 rfl ?_
            rw [hV3.1]
            refine gx_imul hx dX9_padding_57 ?_
            refine gx_isub hx dX9_padding_58 ?_
            refine gx_iadd hx dX9_padding_59 ?_
            refine gx_istore_n hx dX9_padding_60 (Nat.le_of_ble_eq_true rfl) ?_
            refine gx_goto (tgt := 91) hx dX9_padding_61 (by decide) ?_
            refine gx_iinc hx dX9_padding_91 (Nat.le_of_ble_eq_true rfl) rfl ?_
            refine gx_goto (tgt := 8) hx dX9_padding_94 (by decide) ?_
            refine GJ.drop 3 ?_
            first
            | (refine GJ.cong ?_ rfl rfl (ih (i + 1, σ_46) ⟨by omega, hF2.trans hF3⟩ (by dsimp only; omega))
               have h7 : kd P i = 7 := by
                 rcases Nat.lt_or_ge i P.length with h | h
                 · omega
                 · exact hout h
               dsimp only
               rw [show ((alS P (i + 1) + poS P (i + 1) : Nat) : Int) = ((alS P i + poS P i : Nat) : Int) + ((plSz (vals P i).length (aP P i) : Int) - 4 * ((vals P i).length : Int)) by
                 rw [alS, poS, if_neg (by omega), if_pos h7]; omega]
               rfl)
            | (refine GJ.cong ?_ rfl rfl (ih (i + 1, τ) ⟨by omega, hF2⟩ (by dsimp only; omega))
               dsimp only
               first
               | (rw [show ((alS P (i + 1) + poS P (i + 1) : Nat) : Int) = ((alS P i + poS P i : Nat) : Int) + ((aP P (i + 1) : Int) - (aP P i : Int)) by
                    rw [alS, poS, if_pos (by omega), if_neg (by omega)]; omega]
                  rfl)
               | (rw [show ((alS P (i + 1) + poS P (i + 1) : Nat) : Int) = ((alS P i + poS P i : Nat) : Int) by
                    rw [alS, poS, if_neg (by omega), if_neg (by omega)]; omega]
                  rfl)))
       · first
         | (exfalso; omega)
         | (refine gx_aload_n hx dX9_padding_28 rfl ?_
            refine gx_iload_n hx dX9_padding_29 rfl ?_
            refine gx_callI hx (c_X9_kind (i := i) _ _ hM2 (by omega)) lkX9_53 mwX9_kind dX9_padding_30 (by decide) rfl rfl rfl rfl (Nat.le_of_ble_eq_true rfl) (by decide) ⟨by decide, by decide⟩ (fun z_30 σ_30 hz_30 => ?_)
            obtain ⟨rfl, rfl⟩ := hz_30
            refine gx_bipush hx dX9_padding_33 (by decide) ?_
            refine gx_icmp_ne (tgt := 64) hx dX9_padding_35 (by decide) ⟨by omega, by omega⟩ ⟨by omega, by omega⟩ (fun h35 => ?_) (fun h35 => ?_)
            · first
              | (exfalso; omega)
              | (refine gx_aload_n hx dX9_padding_64 rfl ?_
                 refine gx_iload_n hx dX9_padding_65 rfl ?_
                 refine gx_callI hx (c_X9_kind (i := i) _ _ hM2 (by omega)) lkX9_53 mwX9_kind dX9_padding_66 (by decide) rfl rfl rfl rfl (Nat.le_of_ble_eq_true rfl) (by decide) ⟨by decide, by decide⟩ (fun z_66 σ_66 hz_66 => ?_)
                 obtain ⟨rfl, rfl⟩ := hz_66
                 refine gx_iconst hx dX9_padding_69 ?_
                 refine gx_icmp_ne (tgt := 91) hx dX9_padding_70 (by decide) ⟨by omega, by omega⟩ ⟨by omega, by omega⟩ (fun h70 => ?_) (fun h70 => ?_)
                 · first
                   | (exfalso; omega)
                   | (refine gx_iinc hx dX9_padding_91 (Nat.le_of_ble_eq_true rfl) rfl ?_
                      refine gx_goto (tgt := 8) hx dX9_padding_94 (by decide) ?_
                      refine GJ.drop 3 ?_
                      first
                      | (refine GJ.cong ?_ rfl rfl (ih (i + 1, σ_46) ⟨by omega, hF2.trans hF3⟩ (by dsimp only; omega))
                         have h7 : kd P i = 7 := by
                           rcases Nat.lt_or_ge i P.length with h | h
                           · omega
                           · exact hout h
                         dsimp only
                         rw [show ((alS P (i + 1) + poS P (i + 1) : Nat) : Int) = ((alS P i + poS P i : Nat) : Int) + ((plSz (vals P i).length (aP P i) : Int) - 4 * ((vals P i).length : Int)) by
                           rw [alS, poS, if_neg (by omega), if_pos h7]; omega]
                         rfl)
                      | (refine GJ.cong ?_ rfl rfl (ih (i + 1, τ) ⟨by omega, hF2⟩ (by dsimp only; omega))
                         dsimp only
                         first
                         | (rw [show ((alS P (i + 1) + poS P (i + 1) : Nat) : Int) = ((alS P i + poS P i : Nat) : Int) + ((aP P (i + 1) : Int) - (aP P i : Int)) by
                              rw [alS, poS, if_pos (by omega), if_neg (by omega)]; omega]
                            rfl)
                         | (rw [show ((alS P (i + 1) + poS P (i + 1) : Nat) : Int) = ((alS P i + poS P i : Nat) : Int) by
                              rw [alS, poS, if_neg (by omega), if_neg (by omega)]; omega]
                            rfl)))
                 · first
                   | (exfalso; omega)
                   | (refine gx_iload_n hx dX9_padding_73 rfl ?_
                      refine gx_aload_n hx dX9_padding_74 rfl ?_
                      refine gx_getR hx flX9_27 dX9_padding_75 (by decide) rfl rfl ?_
                      refine gx_iload_n hx dX9_padding_78 rfl ?_
                      refine gx_iconst hx dX9_padding_79 ?_
                      refine gx_iadd hx dX9_padding_80 ?_
                      rw [show (i : Int) + 1 = ((i + 1 : Nat) : Int) by omega]
                      refine gx_iald hx dX9_padding_81 (by decide) rfl (by omega) (by omega) (by decide) ?_
                      rw [hY2 (i + 1) (by omega)]
                      have hsz := aP_s P i
                      refine gx_aload_n hx dX9_padding_82 rfl ?_
                      refine gx_getR hx flX9_27 dX9_padding_83 (by decide) rfl rfl ?_
                      refine gx_iload_n hx dX9_padding_86 rfl ?_
                      refine gx_iald hx dX9_padding_87 (by decide) rfl (by omega) (by omega) (by decide) ?_
                      rw [hyi]
                      refine gx_isub hx dX9_padding_88 ?_
                      refine gx_iadd hx dX9_padding_89 ?_
                      refine gx_istore_n hx dX9_padding_90 (Nat.le_of_ble_eq_true rfl) ?_
                      refine gx_iinc hx dX9_padding_91 (Nat.le_of_ble_eq_true rfl) rfl ?_
                      refine gx_goto (tgt := 8) hx dX9_padding_94 (by decide) ?_
                      refine GJ.drop 3 ?_
                      first
                      | (refine GJ.cong ?_ rfl rfl (ih (i + 1, σ_46) ⟨by omega, hF2.trans hF3⟩ (by dsimp only; omega))
                         have h7 : kd P i = 7 := by
                           rcases Nat.lt_or_ge i P.length with h | h
                           · omega
                           · exact hout h
                         dsimp only
                         rw [show ((alS P (i + 1) + poS P (i + 1) : Nat) : Int) = ((alS P i + poS P i : Nat) : Int) + ((plSz (vals P i).length (aP P i) : Int) - 4 * ((vals P i).length : Int)) by
                           rw [alS, poS, if_neg (by omega), if_pos h7]; omega]
                         rfl)
                      | (refine GJ.cong ?_ rfl rfl (ih (i + 1, τ) ⟨by omega, hF2⟩ (by dsimp only; omega))
                         dsimp only
                         first
                         | (rw [show ((alS P (i + 1) + poS P (i + 1) : Nat) : Int) = ((alS P i + poS P i : Nat) : Int) + ((aP P (i + 1) : Int) - (aP P i : Int)) by
                              rw [alS, poS, if_pos (by omega), if_neg (by omega)]; omega]
                            rfl)
                         | (rw [show ((alS P (i + 1) + poS P (i + 1) : Nat) : Int) = ((alS P i + poS P i : Nat) : Int) by
                              rw [alS, poS, if_neg (by omega), if_neg (by omega)]; omega]
                            rfl))))
            · first
              | (exfalso; omega)
              | (refine gx_aload_n hx dX9_padding_38 rfl ?_
                 refine gx_iload_n hx dX9_padding_39 rfl ?_
                 refine gx_aload_n hx dX9_padding_40 rfl ?_
                 refine gx_getR hx flX9_27 dX9_padding_41 (by decide) rfl rfl ?_
                 refine gx_iload_n hx dX9_padding_44 rfl ?_
                 refine gx_iald hx dX9_padding_45 (by decide) rfl (by omega) (by omega) (by decide) ?_
                 rw [hyi]
                 refine gx_callI hx (c_X9_poolSize (q := i) (a := aP P i) _ _ hM2 (by omega) (by omega)) lkX9_80 mwX9_poolSize dX9_padding_46 (by decide) rfl rfl rfl rfl (Nat.le_of_ble_eq_true rfl) (by decide) ⟨by decide, by decide⟩ (fun z_46 σ_46 hz_46 => ?_)
                 obtain ⟨rfl, hV3, hF3⟩ := hz_46
                 have hps := plSz_ge (vals P i).length (aP P i)
                 refine gx_istore_n hx dX9_padding_49 (Nat.le_of_ble_eq_true rfl) ?_
                 refine gx_iload_n hx dX9_padding_50 rfl ?_
                 refine gx_iload_n hx dX9_padding_51 rfl ?_
                 refine gx_iconst hx dX9_padding_52 ?_
                 refine gx_aload_n hx dX9_padding_53 rfl ?_
                 refine gx_getI hx flX9_60 dX9_padding_54 (by decide) rfl rfl 11 rfl ?_
                 rw [hV3.1]
                 refine gx_imul hx dX9_padding_57 ?_
                 refine gx_isub hx dX9_padding_58 ?_
                 refine gx_iadd hx dX9_padding_59 ?_
                 refine gx_istore_n hx dX9_padding_60 (Nat.le_of_ble_eq_true rfl) ?_
                 refine gx_goto (tgt := 91) hx dX9_padding_61 (by decide) ?_
                 refine gx_iinc hx dX9_padding_91 (Nat.le_of_ble_eq_true rfl) rfl ?_
                 refine gx_goto (tgt := 8) hx dX9_padding_94 (by decide) ?_
                 refine GJ.drop 3 ?_
                 first
                 | (refine GJ.cong ?_ rfl rfl (ih (i + 1, σ_46) ⟨by omega, hF2.trans hF3⟩ (by dsimp only; omega))
                    have h7 : kd P i = 7 := by
                      rcases Nat.lt_or_ge i P.length with h | h
                      · omega
                      · exact hout h
                    dsimp only
                    rw [show ((alS P (i + 1) + poS P (i + 1) : Nat) : Int) = ((alS P i + poS P i : Nat) : Int) + ((plSz (vals P i).length (aP P i) : Int) - 4 * ((vals P i).length : Int)) by
                      rw [alS, poS, if_neg (by omega), if_pos h7]; omega]
                    rfl)
                 | (refine GJ.cong ?_ rfl rfl (ih (i + 1, τ) ⟨by omega, hF2⟩ (by dsimp only; omega))
                    dsimp only
                    first
                    | (rw [show ((alS P (i + 1) + poS P (i + 1) : Nat) : Int) = ((alS P i + poS P i : Nat) : Int) + ((aP P (i + 1) : Int) - (aP P i : Int)) by
                         rw [alS, poS, if_pos (by omega), if_neg (by omega)]; omega]
                       rfl)
                    | (rw [show ((alS P (i + 1) + poS P (i + 1) : Nat) : Int) = ((alS P i + poS P i : Nat) : Int) by
                         rw [alS, poS, if_neg (by omega), if_neg (by omega)]; omega]
                       rfl)))))
set_option maxRecDepth 20000 in
set_option maxHeartbeats 400000 in
theorem c_X9_labelAddress (g : Gm) (l : Launch) {σ : Sg} {A : AS} {z : Int} (hR : MR σ A) (hz : rg z) : KI g l yX9_labelAddress cX9_labelAddress 3 ((some .int)) (5) 0 0 [.inr 70, .inl z] σ (MPI (fn (sp_labelAddress A z)) σ) := by
  refine startI (own := RX9) (by decide +kernel) rfl (Nat.le_of_ble_eq_true rfl) ?_
  intro X hx _ _ hret
  obtain ⟨P, hs, sv, T, er⟩ := A
  obtain ⟨hM, hH, hS, hT, he1, he2, he3, hN⟩ := id hR
  obtain ⟨hok, hn, hit⟩ := id hM
  have hl40 := hok.1
  obtain ⟨hz1, hz2⟩ := id hz
  refine gx_iload_n hx dX9_labelAddress_0 rfl ?_
  refine gx_iconst hx dX9_labelAddress_1 ?_
  refine gx_bipush hx dX9_labelAddress_2 (by decide) ?_
  refine gx_callS hx (c_X9_in (v := z) (lo := 0) (hi := 9) _ _ hz ⟨by decide, by decide⟩ ⟨by decide, by decide⟩) lkX9_49 mwX9_in dX9_labelAddress_4 rfl rfl (Nat.le_of_ble_eq_true rfl) (by decide) ⟨by decide, by decide⟩ (fun z_4 σ_4 hz_4 => ?_)
  obtain ⟨e9, rfl⟩ := hz_4
  replace e9 := ite10 e9
  refine gx_if_ne (tgt := 16) hx dX9_labelAddress_7 (by decide) ⟨by omega, by omega⟩ (fun h7 => ?_) (fun h7 => ?_)
  · first
    | (exfalso; omega)
    | (obtain ⟨b9, rfl⟩ : ∃ b9 : Nat, z = (b9 : Int) := ⟨z.toNat, by omega⟩
       refine gx_aload_n hx dX9_labelAddress_16 rfl ?_
       refine gx_iload_n hx dX9_labelAddress_17 rfl ?_
       refine gx_callI hx (c_X9_defines (lb := b9) _ _ hM (by omega)) lkX9_128 mwX9_defines dX9_labelAddress_18 (by decide) rfl rfl rfl rfl (Nat.le_of_ble_eq_true rfl) (by decide) ⟨by decide, by decide⟩ (fun z_18 σ_18 hz_18 => ?_)
       obtain ⟨rfl, rfl⟩ := hz_18
       have hdl := dfn_lt P b9 P.length
       refine gx_istore_n hx dX9_labelAddress_21 (Nat.le_of_ble_eq_true rfl) ?_
       refine gx_iload_n hx dX9_labelAddress_22 rfl ?_
       refine gx_iconst hx dX9_labelAddress_23 ?_
       refine gx_icmp_ne (tgt := 33) hx dX9_labelAddress_24 (by decide) ⟨by omega, by omega⟩ ⟨by omega, by omega⟩ (fun h24 => ?_) (fun h24 => ?_)
       · first
         | (exfalso; omega)
         | (obtain ⟨d, hd9⟩ : ∃ d : Nat, dfn P b9 P.length = (d : Int) := ⟨(dfn P b9 P.length).toNat, by omega⟩
            rw [hd9]
            refine gx_aload_n hx dX9_labelAddress_33 rfl ?_
            refine gx_callV hx (c_X9_lays _ _ hM) lkX9_143 mwX9_lays dX9_labelAddress_34 (by decide) rfl rfl rfl rfl (Nat.le_of_ble_eq_true rfl) (by decide) ⟨by decide, by decide⟩ (fun σ_34 hz_34 => ?_)
            obtain ⟨hY1, hF1⟩ := hz_34
            have hM1 := hM.fr hF1 rfl
            refine gx_aload_n hx dX9_labelAddress_37 rfl ?_
            refine gx_aload_n hx dX9_labelAddress_38 rfl ?_
            refine gx_getR hx flX9_27 dX9_labelAddress_39 (by decide) rfl rfl ?_
            refine gx_iload_n hx dX9_labelAddress_42 rfl ?_
            refine gx_iald hx dX9_labelAddress_43 (by decide) rfl (by omega) (by omega) (by decide) ?_
            rw [hY1 d (by omega)]
            refine gx_callI hx (c_X9_done _ _) lkX9_90 mwX9_done dX9_labelAddress_44 (by decide) rfl rfl rfl rfl (Nat.le_of_ble_eq_true rfl) (by decide) ⟨by decide, by decide⟩ (fun z_44 σ_44 hz_44 => ?_)
            obtain ⟨rfl, rfl⟩ := hz_44
            refine hret _ _ _ _ _ _ _ (by decide) (by decide) dX9_labelAddress_47 rfl rfl ?_
            exact ⟨0, (P, hs, sv, T, er), by show sp_labelAddress (P, hs, sv, T, er) (b9 : Int) = _; rw [sp_labelAddress, if_neg (by omega), Int.toNat_natCast, if_neg (by omega), hd9, Int.toNat_natCast], MZ.q hR hF1.S2 0 0 rfl⟩)
       · first
         | (exfalso; omega)
         | (refine gx_aload_n hx dX9_labelAddress_27 rfl ?_
            refine gx_iconst hx dX9_labelAddress_28 ?_
            refine gx_callI hx (c_X9_fails _ _) lkX9_93 mwX9_fails dX9_labelAddress_29 (by decide) rfl rfl rfl rfl (Nat.le_of_ble_eq_true rfl) (by decide) ⟨by decide, by decide⟩ (fun z_29 σ_29 hz_29 => ?_)
            obtain ⟨rfl, rfl⟩ := hz_29
            refine hret _ _ _ _ _ _ _ (by decide) (by decide) dX9_labelAddress_32 rfl rfl ?_
            exact ⟨2, (P, hs, sv, T, er), by show sp_labelAddress (P, hs, sv, T, er) (b9 : Int) = _; rw [sp_labelAddress, if_neg (by omega), Int.toNat_natCast, if_pos (by omega)], MZ.q hR FR.refl 2 2 rfl⟩))
  · first
    | (exfalso; omega)
    | (refine gx_aload_n hx dX9_labelAddress_10 rfl ?_
       refine gx_iconst hx dX9_labelAddress_11 ?_
       refine gx_callI hx (c_X9_fails _ _) lkX9_93 mwX9_fails dX9_labelAddress_12 (by decide) rfl rfl rfl rfl (Nat.le_of_ble_eq_true rfl) (by decide) ⟨by decide, by decide⟩ (fun z_12 σ_12 hz_12 => ?_)
       obtain ⟨rfl, rfl⟩ := hz_12
       refine hret _ _ _ _ _ _ _ (by decide) (by decide) dX9_labelAddress_15 rfl rfl ?_
       exact ⟨1, (P, hs, sv, T, er), by show sp_labelAddress (P, hs, sv, T, er) z = _; rw [sp_labelAddress, if_pos (by omega)], MZ.q hR FR.refl 1 1 rfl⟩)
set_option maxRecDepth 20000 in
set_option maxHeartbeats 400000 in
theorem c_X9_itemAt (g : Gm) (l : Launch) {σ : Sg} {A : AS} {z : Int} (hR : MR σ A) (hz : rg z) : KI g l yX9_itemAt cX9_itemAt 3 ((some .int)) (5) 0 0 [.inr 70, .inl z] σ (MPI (fn (sp_itemAt A z)) σ) := by
  refine startI (own := RX9) (by decide +kernel) rfl (Nat.le_of_ble_eq_true rfl) ?_
  intro X hx _ _ hret
  obtain ⟨P, hs, sv, T, er⟩ := A
  obtain ⟨hM, hH, hS, hT, he1, he2, he3, hN⟩ := id hR
  obtain ⟨hok, hn, hit⟩ := id hM
  have hl40 := hok.1
  obtain ⟨hz1, hz2⟩ := id hz
  have hab := aPb hok (Nat.le_refl P.length)
  refine gx_aload_n hx dX9_itemAt_0 rfl ?_
  refine gx_callV hx (c_X9_lays _ _ hM) lkX9_143 mwX9_lays dX9_itemAt_1 (by decide) rfl rfl rfl rfl (Nat.le_of_ble_eq_true rfl) (by decide) ⟨by decide, by decide⟩ (fun σ_1 hz_1 => ?_)
  obtain ⟨hY1, hF1⟩ := hz_1
  have hM1 := hM.fr hF1 rfl
  have hyl := hY1 P.length (Nat.le_refl _)
  refine gx_iload_n hx dX9_itemAt_4 rfl ?_
  refine gx_iconst hx dX9_itemAt_5 ?_
  refine gx_aload_n hx dX9_itemAt_6 rfl ?_
  refine gx_getR hx flX9_27 dX9_itemAt_7 (by decide) rfl rfl ?_
  refine gx_aload_n hx dX9_itemAt_10 rfl ?_
  refine gx_getR hx flX9_7 dX9_itemAt_11 (by decide) rfl rfl ?_
  refine gx_iconst hx dX9_itemAt_14 ?_
  refine gx_iald hx dX9_itemAt_15 (by decide) rfl (by omega) (by omega) (by decide) ?_
  rw [hM1.2.1]
  refine gx_iald hx dX9_itemAt_16 (by decide) rfl (by omega) (by omega) (by decide) ?_
  rw [hyl]
  refine gx_iconst hx dX9_itemAt_17 ?_
  refine gx_isub hx dX9_itemAt_18 ?_
  refine gx_callS hx (c_X9_in (v := z) (lo := 0) (hi := (aP P P.length : Int) - 1) _ _ hz ⟨by decide, by decide⟩ ⟨by omega, by omega⟩) lkX9_49 mwX9_in dX9_itemAt_19 rfl rfl (Nat.le_of_ble_eq_true rfl) (by decide) ⟨by decide, by decide⟩ (fun z_19 σ_19 hz_19 => ?_)
  obtain ⟨e9, rfl⟩ := hz_19
  replace e9 := ite10 e9
  refine gx_if_ne (tgt := 31) hx dX9_itemAt_22 (by decide) ⟨by omega, by omega⟩ (fun h22 => ?_) (fun h22 => ?_)
  · first
    | (exfalso; omega)
    | (obtain ⟨a9, rfl⟩ : ∃ a9 : Nat, z = (a9 : Int) := ⟨z.toNat, by omega⟩
       have hpos : 0 < P.length := by
         rcases Nat.eq_zero_or_pos P.length with h | h
         · have e0 : aP P P.length = 0 := by rw [h]; rfl
           omega
         · exact h
       refine gx_aload_n hx dX9_itemAt_31 rfl ?_
       refine gx_getR hx flX9_7 dX9_itemAt_32 (by decide) rfl rfl ?_
       refine gx_iconst hx dX9_itemAt_35 ?_
       refine gx_iald hx dX9_itemAt_36 (by decide) rfl (by omega) (by omega) (by decide) ?_
       rw [hM1.2.1]
       refine gx_iconst hx dX9_itemAt_37 ?_
       refine gx_isub hx dX9_itemAt_38 ?_
       refine gx_istore_n hx dX9_itemAt_39 (Nat.le_of_ble_eq_true rfl) ?_
       refine GJ.cong (L' := [some (.inr 70), some (.inl (a9 : Int)), some (.inl ((P.length - 1 : Nat) : Int))]) (st' := []) (by rw [show ((P.length - 1 : Nat) : Int) = (P.length : Int) - 1 by omega]; rfl) rfl rfl ?_
       refine gx_loop (α := Nat) (fun j => j < P.length ∧ itA P a9 P.length = itA P a9 (j + 1)) (fun j => j) (fun j => [some (.inr 70), some (.inl (a9 : Int)), some (.inl (j : Int))]) (fun _ => []) (fun _ => σ_1) ?_ (P.length - 1) ⟨by omega, by rw [show P.length - 1 + 1 = P.length by omega]⟩
       rintro j ⟨hj, hjt⟩ ih
       refine gx_aload_n hx dX9_itemAt_40 rfl ?_
       refine gx_getR hx flX9_27 dX9_itemAt_41 (by decide) rfl rfl ?_
       refine gx_iload_n hx dX9_itemAt_44 rfl ?_
       refine gx_iald hx dX9_itemAt_45 (by decide) rfl (by omega) (by omega) (by decide) ?_
       rw [hY1 j (by omega)]
       have haj := aPb hok (show j ≤ P.length by omega)
       refine gx_iload_n hx dX9_itemAt_46 rfl ?_
       refine gx_icmp_le (tgt := 56) hx dX9_itemAt_47 (by decide) ⟨by omega, by omega⟩ ⟨by omega, by omega⟩ (fun h47 => ?_) (fun h47 => ?_)
       · first
         | (exfalso; omega)
         | (refine gx_aload_n hx dX9_itemAt_56 rfl ?_
            refine gx_iload_n hx dX9_itemAt_57 rfl ?_
            refine gx_callI hx (c_X9_done _ _) lkX9_90 mwX9_done dX9_itemAt_58 (by decide) rfl rfl rfl rfl (Nat.le_of_ble_eq_true rfl) (by decide) ⟨by decide, by decide⟩ (fun z_58 σ_58 hz_58 => ?_)
            obtain ⟨rfl, rfl⟩ := hz_58
            refine hret _ _ _ _ _ _ _ (by decide) (by decide) dX9_itemAt_61 rfl rfl ?_
            exact ⟨0, (P, hs, sv, T, er), by show sp_itemAt (P, hs, sv, T, er) (a9 : Int) = _; rw [sp_itemAt, if_neg (by omega), Int.toNat_natCast, hjt, itA, if_pos (by omega)], MZ.q hR hF1.S2 0 0 rfl⟩)
       · first
         | (exfalso; omega)
         | (have hj0 : 0 < j := by
              rcases Nat.eq_zero_or_pos j with h | h
              · subst h
                have e0 : aP P 0 = 0 := rfl
                omega
              · exact h
            refine gx_iinc hx dX9_itemAt_50 (Nat.le_of_ble_eq_true rfl) rfl ?_
            refine gx_goto (tgt := 40) hx dX9_itemAt_53 (by decide) ?_
            obtain ⟨b, rfl⟩ : ∃ b, j = b + 1 := ⟨j - 1, by omega⟩
            refine GJ.cong (by rw [show (b : Int) = ((b + 1 : Nat) : Int) + -1 by omega]; rfl) rfl rfl (ih b ⟨by omega, ?_⟩ (by omega))
            rw [hjt, itA, if_neg (by omega)]))
  · first
    | (exfalso; omega)
    | (refine gx_aload_n hx dX9_itemAt_25 rfl ?_
       refine gx_iconst hx dX9_itemAt_26 ?_
       refine gx_callI hx (c_X9_fails _ _) lkX9_93 mwX9_fails dX9_itemAt_27 (by decide) rfl rfl rfl rfl (Nat.le_of_ble_eq_true rfl) (by decide) ⟨by decide, by decide⟩ (fun z_27 σ_27 hz_27 => ?_)
       obtain ⟨rfl, rfl⟩ := hz_27
       refine hret _ _ _ _ _ _ _ (by decide) (by decide) dX9_itemAt_30 rfl rfl ?_
       exact ⟨1, (P, hs, sv, T, er), by show sp_itemAt (P, hs, sv, T, er) z = _; rw [sp_itemAt, if_pos (by omega)], MZ.q hR hF1.S2 1 1 rfl⟩)
set_option maxRecDepth 20000 in
set_option maxHeartbeats 400000 in
theorem c_X9_addressIf (g : Gm) (l : Launch) {σ : Sg} {A : AS} {z w : Int} (hR : MR σ A) (hz : rg z) (hw : rg w) : KI g l yX9_addressIf cX9_addressIf 5 ((some .int)) (4) 0 0 [.inr 70, .inl z, .inl w] σ (MPI (fn (sp_addressIf A z w)) σ) := by
  refine startI (own := RX9) (by decide +kernel) rfl (Nat.le_of_ble_eq_true rfl) ?_
  intro X hx _ _ hret
  obtain ⟨P, hs, sv, T, er⟩ := A
  obtain ⟨hM, hH, hS, hT, he1, he2, he3, hN⟩ := id hR
  obtain ⟨hok, hn, hit⟩ := id hM
  have hl40 := hok.1
  obtain ⟨hz1, hz2⟩ := id hz
  obtain ⟨hw1, hw2⟩ := id hw
  refine gx_aload_n hx dX9_addressIf_0 rfl ?_
  refine gx_iload_n hx dX9_addressIf_1 rfl ?_
  refine gx_callI hx (c_X9_isItem _ _ hM hz) lkX9_137 mwX9_isItem dX9_addressIf_2 (by decide) rfl rfl rfl rfl (Nat.le_of_ble_eq_true rfl) (by decide) ⟨by decide, by decide⟩ (fun z_2 σ_2 hz_2 => ?_)
  obtain ⟨e9, rfl⟩ := hz_2
  replace e9 := ite10 e9
  refine gx_if_ne (tgt := 14) hx dX9_addressIf_5 (by decide) ⟨by omega, by omega⟩ (fun h5 => ?_) (fun h5 => ?_)
  · first
    | (exfalso; omega)
    | (obtain ⟨i, rfl⟩ : ∃ i : Nat, z = (i : Int) := ⟨z.toNat, by omega⟩
       have hi : i < P.length := by omega
       have hin : inI P (i : Int) := by omega
       have hri := hM.rg i
       refine gx_iload_n hx dX9_addressIf_14 rfl ?_
       refine gx_iconst hx dX9_addressIf_15 ?_
       refine gx_iconst hx dX9_addressIf_16 ?_
       refine gx_callS hx (c_X9_in (v := w) (lo := 0) (hi := 2) _ _ hw ⟨by decide, by decide⟩ ⟨by decide, by decide⟩) lkX9_49 mwX9_in dX9_addressIf_17 rfl rfl (Nat.le_of_ble_eq_true rfl) (by decide) ⟨by decide, by decide⟩ (fun z_17 σ_17 hz_17 => ?_)
       obtain ⟨e8, rfl⟩ := hz_17
       replace e8 := ite10 e8
       refine gx_if_ne (tgt := 29) hx dX9_addressIf_20 (by decide) ⟨by omega, by omega⟩ (fun h20 => ?_) (fun h20 => ?_)
       · first
         | (exfalso; omega)
         | (obtain ⟨f, rfl⟩ : ∃ f : Nat, w = (f : Int) := ⟨w.toNat, by omega⟩
            refine gx_iconst hx dX9_addressIf_29 ?_
            refine gx_istore_n hx dX9_addressIf_30 (Nat.le_of_ble_eq_true rfl) ?_
            refine gx_iconst hx dX9_addressIf_31 ?_
            refine gx_istore hx dX9_addressIf_32 (Nat.le_of_ble_eq_true rfl) ?_
            refine gx_loop (α := Nat × Sg) (fun x => x.1 ≤ i ∧ FR σ x.2 c1 f1) (fun x => i - x.1) (fun x => [some (.inr 70), some (.inl (i : Int)), some (.inl (f : Int)), some (.inl (ad0 P (fun _ => f) x.1 : Int)), some (.inl (x.1 : Int))]) (fun _ => []) (fun x => x.2) ?_ (0, σ) ⟨Nat.zero_le _, FR.refl⟩
            rintro ⟨j, τ⟩ ⟨hji, hF2⟩ ih
            dsimp only at hji hF2 ih ⊢
            have hM2 := hM.fr hF2 rfl
            have hab := aP_le hok (fun _ => f) (show j ≤ P.length by omega)
            refine gx_iload hx dX9_addressIf_34 rfl ?_
            refine gx_iload_n hx dX9_addressIf_36 rfl ?_
            refine gx_icmp_ge (tgt := 57) hx dX9_addressIf_37 (by decide) ⟨by omega, by omega⟩ ⟨by omega, by omega⟩ (fun h37 => ?_) (fun h37 => ?_)
            · first
              | (exfalso; omega)
              | (refine gx_aload_n hx dX9_addressIf_57 rfl ?_
                 refine gx_iload_n hx dX9_addressIf_58 rfl ?_
                 refine gx_callI hx (c_X9_done _ _) lkX9_90 mwX9_done dX9_addressIf_59 (by decide) rfl rfl rfl rfl (Nat.le_of_ble_eq_true rfl) (by decide) ⟨by decide, by decide⟩ (fun z_59 σ_59 hz_59 => ?_)
                 obtain ⟨rfl, rfl⟩ := hz_59
                 refine hret _ _ _ _ _ _ _ (by decide) (by decide) dX9_addressIf_62 rfl rfl ?_
                 have ej : j = i := by omega
                 subst ej
                 exact ⟨0, (P, hs, sv, T, er), by show sp_addressIf (P, hs, sv, T, er) (j : Int) (f : Int) = _; rw [sp_addressIf, if_neg (fun h9 => h9 hin), if_neg (by omega), Int.toNat_natCast, Int.toNat_natCast], MZ.q hR hF2.S1 0 0 rfl⟩)
            · first
              | (exfalso; omega)
              | (refine gx_iload_n hx dX9_addressIf_40 rfl ?_
                 refine gx_aload_n hx dX9_addressIf_41 rfl ?_
                 refine gx_iload hx dX9_addressIf_42 rfl ?_
                 refine gx_iload_n hx dX9_addressIf_44 rfl ?_
                 refine gx_iload_n hx dX9_addressIf_45 rfl ?_
                 refine gx_callI hx (c_X9_sizeAt (i := j) (f := f) (a := ad0 P (fun _ => f) j) _ _ hM2 (by omega) (by omega) (by omega)) lkX9_86 mwX9_sizeAt dX9_addressIf_46 (by decide) rfl rfl rfl rfl (Nat.le_of_ble_eq_true rfl) (by decide) ⟨by decide, by decide⟩ (fun z_46 σ_46 hz_46 => ?_)
                 obtain ⟨rfl, hF3⟩ := hz_46
                 refine gx_iadd hx dX9_addressIf_49 ?_
                 refine gx_istore_n hx dX9_addressIf_50 (Nat.le_of_ble_eq_true rfl) ?_
                 refine gx_iinc hx dX9_addressIf_51 (Nat.le_of_ble_eq_true rfl) rfl ?_
                 refine gx_goto (tgt := 34) hx dX9_addressIf_54 (by decide) ?_
                 refine GJ.cong ?_ rfl rfl (ih (j + 1, σ_46) ⟨by omega, hF2.trans hF3⟩ (by dsimp only; omega))
                 dsimp only
                 rw [ad0_s]
                 rfl))
       · first
         | (exfalso; omega)
         | (refine gx_aload_n hx dX9_addressIf_23 rfl ?_
            refine gx_iconst hx dX9_addressIf_24 ?_
            refine gx_callI hx (c_X9_fails _ _) lkX9_93 mwX9_fails dX9_addressIf_25 (by decide) rfl rfl rfl rfl (Nat.le_of_ble_eq_true rfl) (by decide) ⟨by decide, by decide⟩ (fun z_25 σ_25 hz_25 => ?_)
            obtain ⟨rfl, rfl⟩ := hz_25
            refine hret _ _ _ _ _ _ _ (by decide) (by decide) dX9_addressIf_28 rfl rfl ?_
            exact ⟨2, (P, hs, sv, T, er), by show sp_addressIf (P, hs, sv, T, er) (i : Int) w = _; rw [sp_addressIf, if_neg (fun h9 => h9 hin), if_pos (by omega)], MZ.q hR FR.refl 2 2 rfl⟩))
  · first
    | (exfalso; omega)
    | (refine gx_aload_n hx dX9_addressIf_8 rfl ?_
       refine gx_iconst hx dX9_addressIf_9 ?_
       refine gx_callI hx (c_X9_fails _ _) lkX9_93 mwX9_fails dX9_addressIf_10 (by decide) rfl rfl rfl rfl (Nat.le_of_ble_eq_true rfl) (by decide) ⟨by decide, by decide⟩ (fun z_10 σ_10 hz_10 => ?_)
       obtain ⟨rfl, rfl⟩ := hz_10
       refine hret _ _ _ _ _ _ _ (by decide) (by decide) dX9_addressIf_13 rfl rfl ?_
       exact ⟨1, (P, hs, sv, T, er), by show sp_addressIf (P, hs, sv, T, er) z w = _; rw [sp_addressIf, if_pos (by omega)], MZ.q hR FR.refl 1 1 rfl⟩)
set_option maxRecDepth 20000 in
set_option maxHeartbeats 400000 in
theorem c_X9_transferCount (g : Gm) (l : Launch) {σ : Sg} {A : AS} (hR : MR σ A) : KI g l yX9_transferCount cX9_transferCount 1 ((some .int)) (3) 0 0 [.inr 70] σ (MPI (fn (sp_transferCount A)) σ) := by
  refine startI (own := RX9) (by decide +kernel) rfl (Nat.le_of_ble_eq_true rfl) ?_
  intro X hx _ _ hret
  obtain ⟨P, hs, sv, T, er⟩ := A
  obtain ⟨hM, hH, hS, hT, he1, he2, he3, hN⟩ := id hR
  obtain ⟨hok, hn, hit⟩ := id hM
  have hl40 := hok.1
  refine gx_aload_n hx dX9_transferCount_0 rfl ?_
  refine gx_aload_n hx dX9_transferCount_1 rfl ?_
  refine gx_callI hx (c_X9_transfers _ _ hM) lkX9_156 mwX9_transfers dX9_transferCount_2 (by decide) rfl rfl rfl rfl (Nat.le_of_ble_eq_true rfl) (by decide) ⟨by decide, by decide⟩ (fun z_2 σ_2 hz_2 => ?_)
  obtain ⟨rfl, rfl⟩ := hz_2
  refine gx_callI hx (c_X9_done _ _) lkX9_90 mwX9_done dX9_transferCount_5 (by decide) rfl rfl rfl rfl (Nat.le_of_ble_eq_true rfl) (by decide) ⟨by decide, by decide⟩ (fun z_5 σ_5 hz_5 => ?_)
  obtain ⟨rfl, rfl⟩ := hz_5
  refine hret _ _ _ _ _ _ _ (by decide) (by decide) dX9_transferCount_8 rfl rfl ?_
  exact ⟨0, (P, hs, sv, T, er), rfl, MZ.q hR FR.refl 0 0 rfl⟩
set_option maxRecDepth 20000 in
set_option maxHeartbeats 400000 in
theorem c_X9_undefinedCount (g : Gm) (l : Launch) {σ : Sg} {A : AS} (hR : MR σ A) : KI g l yX9_undefinedCount cX9_undefinedCount 1 ((some .int)) (3) 0 0 [.inr 70] σ (MPI (fn (sp_undefinedCount A)) σ) := by
  refine startI (own := RX9) (by decide +kernel) rfl (Nat.le_of_ble_eq_true rfl) ?_
  intro X hx _ _ hret
  obtain ⟨P, hs, sv, T, er⟩ := A
  obtain ⟨hM, hH, hS, hT, he1, he2, he3, hN⟩ := id hR
  obtain ⟨hok, hn, hit⟩ := id hM
  have hl40 := hok.1
  refine gx_aload_n hx dX9_undefinedCount_0 rfl ?_
  refine gx_aload_n hx dX9_undefinedCount_1 rfl ?_
  refine gx_callI hx (c_X9_undefined _ _ hM) lkX9_159 mwX9_undefined dX9_undefinedCount_2 (by decide) rfl rfl rfl rfl (Nat.le_of_ble_eq_true rfl) (by decide) ⟨by decide, by decide⟩ (fun z_2 σ_2 hz_2 => ?_)
  obtain ⟨rfl, rfl⟩ := hz_2
  refine gx_callI hx (c_X9_done _ _) lkX9_90 mwX9_done dX9_undefinedCount_5 (by decide) rfl rfl rfl rfl (Nat.le_of_ble_eq_true rfl) (by decide) ⟨by decide, by decide⟩ (fun z_5 σ_5 hz_5 => ?_)
  obtain ⟨rfl, rfl⟩ := hz_5
  refine hret _ _ _ _ _ _ _ (by decide) (by decide) dX9_undefinedCount_8 rfl rfl ?_
  exact ⟨0, (P, hs, sv, T, er), rfl, MZ.q hR FR.refl 0 0 rfl⟩
set_option maxRecDepth 20000 in
set_option maxHeartbeats 400000 in
theorem c_X9_poolCount (g : Gm) (l : Launch) {σ : Sg} {A : AS} (hR : MR σ A) : KI g l yX9_poolCount cX9_poolCount 1 ((some .int)) (3) 0 0 [.inr 70] σ (MPI (fn (sp_poolCount A)) σ) := by
  refine startI (own := RX9) (by decide +kernel) rfl (Nat.le_of_ble_eq_true rfl) ?_
  intro X hx _ _ hret
  obtain ⟨P, hs, sv, T, er⟩ := A
  obtain ⟨hM, hH, hS, hT, he1, he2, he3, hN⟩ := id hR
  obtain ⟨hok, hn, hit⟩ := id hM
  have hl40 := hok.1
  refine gx_aload_n hx dX9_poolCount_0 rfl ?_
  refine gx_aload_n hx dX9_poolCount_1 rfl ?_
  refine gx_callI hx (c_X9_pools _ _ hM) lkX9_202 mwX9_pools dX9_poolCount_2 (by decide) rfl rfl rfl rfl (Nat.le_of_ble_eq_true rfl) (by decide) ⟨by decide, by decide⟩ (fun z_2 σ_2 hz_2 => ?_)
  obtain ⟨rfl, rfl⟩ := hz_2
  refine gx_callI hx (c_X9_done _ _) lkX9_90 mwX9_done dX9_poolCount_5 (by decide) rfl rfl rfl rfl (Nat.le_of_ble_eq_true rfl) (by decide) ⟨by decide, by decide⟩ (fun z_5 σ_5 hz_5 => ?_)
  obtain ⟨rfl, rfl⟩ := hz_5
  refine hret _ _ _ _ _ _ _ (by decide) (by decide) dX9_poolCount_8 rfl rfl ?_
  exact ⟨0, (P, hs, sv, T, er), rfl, MZ.q hR FR.refl 0 0 rfl⟩
set_option maxRecDepth 20000 in
set_option maxHeartbeats 400000 in
theorem c_X9_formCount (g : Gm) (l : Launch) {σ : Sg} {A : AS} {z : Int} (hR : MR σ A) (hz : rg z) : KI g l yX9_formCount cX9_formCount 4 ((some .int)) (3) 0 0 [.inr 70, .inl z] σ (MPI (fn (sp_formCount A z)) σ) := by
  refine startI (own := RX9) (by decide +kernel) rfl (Nat.le_of_ble_eq_true rfl) ?_
  intro X hx _ _ hret
  obtain ⟨P, hs, sv, T, er⟩ := A
  obtain ⟨hM, hH, hS, hT, he1, he2, he3, hN⟩ := id hR
  obtain ⟨hok, hn, hit⟩ := id hM
  have hl40 := hok.1
  obtain ⟨hz1, hz2⟩ := id hz
  refine gx_iload_n hx dX9_formCount_0 rfl ?_
  refine gx_iconst hx dX9_formCount_1 ?_
  refine gx_iconst hx dX9_formCount_2 ?_
  refine gx_callS hx (c_X9_in (v := z) (lo := 0) (hi := 2) _ _ hz ⟨by decide, by decide⟩ ⟨by decide, by decide⟩) lkX9_49 mwX9_in dX9_formCount_3 rfl rfl (Nat.le_of_ble_eq_true rfl) (by decide) ⟨by decide, by decide⟩ (fun z_3 σ_3 hz_3 => ?_)
  obtain ⟨e8, rfl⟩ := hz_3
  replace e8 := ite10 e8
  refine gx_if_ne (tgt := 15) hx dX9_formCount_6 (by decide) ⟨by omega, by omega⟩ (fun h6 => ?_) (fun h6 => ?_)
  · first
    | (exfalso; omega)
    | (obtain ⟨f, rfl⟩ : ∃ f : Nat, z = (f : Int) := ⟨z.toNat, by omega⟩
       refine gx_iconst hx dX9_formCount_15 ?_
       refine gx_istore_n hx dX9_formCount_16 (Nat.le_of_ble_eq_true rfl) ?_
       refine gx_iconst hx dX9_formCount_17 ?_
       refine gx_istore_n hx dX9_formCount_18 (Nat.le_of_ble_eq_true rfl) ?_
       refine gx_loop (α := Nat) (fun i => i ≤ P.length) (fun i => P.length - i) (fun i => [some (.inr 70), some (.inl (f : Int)), some (.inl (cnt (fun i => decide (isT P i ∧ fm P i = f)) i : Int)), some (.inl (i : Int))]) (fun _ => []) (fun _ => σ) ?_ 0 (Nat.zero_le _)
       intro i hi ih
       have hcl := cnt_le (fun i => decide (isT P i ∧ fm P i = f)) i
       have hri := hM.rg i
       refine gx_iload_n hx dX9_formCount_19 rfl ?_
       refine gx_aload_n hx dX9_formCount_20 rfl ?_
       refine gx_getR hx flX9_7 dX9_formCount_21 (by decide) rfl rfl ?_
       refine gx_iconst hx dX9_formCount_24 ?_
       refine gx_iald hx dX9_formCount_25 (by decide) rfl (by omega) (by omega) (by decide) ?_
       rw [hn]
       refine gx_icmp_ge (tgt := 60) hx dX9_formCount_26 (by decide) ⟨by omega, by omega⟩ ⟨by omega, by omega⟩ (fun h26 => ?_) (fun h26 => ?_)
       · first
         | (exfalso; omega)
         | (refine gx_aload_n hx dX9_formCount_60 rfl ?_
            refine gx_iload_n hx dX9_formCount_61 rfl ?_
            refine gx_callI hx (c_X9_done _ _) lkX9_90 mwX9_done dX9_formCount_62 (by decide) rfl rfl rfl rfl (Nat.le_of_ble_eq_true rfl) (by decide) ⟨by decide, by decide⟩ (fun z_62 σ_62 hz_62 => ?_)
            obtain ⟨rfl, rfl⟩ := hz_62
            refine hret _ _ _ _ _ _ _ (by decide) (by decide) dX9_formCount_65 rfl rfl ?_
            have ei : i = P.length := by omega
            subst ei
            exact ⟨0, (P, hs, sv, T, er), by show sp_formCount (P, hs, sv, T, er) (f : Int) = _; rw [sp_formCount, if_neg (by omega), Int.toNat_natCast], MZ.q hR FR.refl 0 0 rfl⟩)
       · first
         | (exfalso; omega)
         | (refine gx_iload_n hx dX9_formCount_29 rfl ?_
            refine gx_aload_n hx dX9_formCount_30 rfl ?_
            refine gx_iload_n hx dX9_formCount_31 rfl ?_
            refine gx_callI hx (c_X9_isTransfer (i := i) _ _ hM (by omega)) lkX9_146 mwX9_isTransfer dX9_formCount_32 (by decide) rfl rfl rfl rfl (Nat.le_of_ble_eq_true rfl) (by decide) ⟨by decide, by decide⟩ (fun z_32 σ_32 hz_32 => ?_)
            obtain ⟨e9, rfl⟩ := hz_32
            replace e9 := ite10 e9
            refine gx_if_eq (tgt := 51) hx dX9_formCount_35 (by decide) ⟨by omega, by omega⟩ (fun h35 => ?_) (fun h35 => ?_)
            · first
              | (exfalso; omega)
              | (refine gx_iconst hx dX9_formCount_51 ?_
                 refine gx_iadd hx dX9_formCount_52 ?_
                 refine gx_istore_n hx dX9_formCount_53 (Nat.le_of_ble_eq_true rfl) ?_
                 refine gx_iinc hx dX9_formCount_54 (Nat.le_of_ble_eq_true rfl) rfl ?_
                 refine gx_goto (tgt := 19) hx dX9_formCount_57 (by decide) ?_
                 refine GJ.cong ?_ rfl rfl (ih (i + 1) (by omega) (by omega))
                 first
                 | (rw [cnt_s1 (p := (fun i => decide (isT P i ∧ fm P i = f))) (i := i) (by simp only [decide_eq_true_eq, isT]; omega)]; rfl)
                 | (rw [cnt_s0 (p := (fun i => decide (isT P i ∧ fm P i = f))) (i := i) (by simp only [decide_eq_false_iff_not, isT]; omega)]; rfl))
            · first
              | (exfalso; omega)
              | (refine gx_aload_n hx dX9_formCount_38 rfl ?_
                 refine gx_iload_n hx dX9_formCount_39 rfl ?_
                 refine gx_callI hx (c_X9_form (i := i) _ _ hM (by omega)) lkX9_83 mwX9_form dX9_formCount_40 (by decide) rfl rfl rfl rfl (Nat.le_of_ble_eq_true rfl) (by decide) ⟨by decide, by decide⟩ (fun z_40 σ_40 hz_40 => ?_)
                 obtain ⟨rfl, rfl⟩ := hz_40
                 refine gx_iload_n hx dX9_formCount_43 rfl ?_
                 refine gx_icmp_ne (tgt := 51) hx dX9_formCount_44 (by decide) ⟨by omega, by omega⟩ ⟨by omega, by omega⟩ (fun h44 => ?_) (fun h44 => ?_)
                 · first
                   | (exfalso; omega)
                   | (refine gx_iconst hx dX9_formCount_51 ?_
                      refine gx_iadd hx dX9_formCount_52 ?_
                      refine gx_istore_n hx dX9_formCount_53 (Nat.le_of_ble_eq_true rfl) ?_
                      refine gx_iinc hx dX9_formCount_54 (Nat.le_of_ble_eq_true rfl) rfl ?_
                      refine gx_goto (tgt := 19) hx dX9_formCount_57 (by decide) ?_
                      refine GJ.cong ?_ rfl rfl (ih (i + 1) (by omega) (by omega))
                      first
                      | (rw [cnt_s1 (p := (fun i => decide (isT P i ∧ fm P i = f))) (i := i) (by simp only [decide_eq_true_eq, isT]; omega)]; rfl)
                      | (rw [cnt_s0 (p := (fun i => decide (isT P i ∧ fm P i = f))) (i := i) (by simp only [decide_eq_false_iff_not, isT]; omega)]; rfl))
                 · first
                   | (exfalso; omega)
                   | (refine gx_iconst hx dX9_formCount_47 ?_
                      refine gx_goto (tgt := 52) hx dX9_formCount_48 (by decide) ?_
                      refine gx_iadd hx dX9_formCount_52 ?_
                      refine gx_istore_n hx dX9_formCount_53 (Nat.le_of_ble_eq_true rfl) ?_
                      refine gx_iinc hx dX9_formCount_54 (Nat.le_of_ble_eq_true rfl) rfl ?_
                      refine gx_goto (tgt := 19) hx dX9_formCount_57 (by decide) ?_
                      refine GJ.cong ?_ rfl rfl (ih (i + 1) (by omega) (by omega))
                      first
                      | (rw [cnt_s1 (p := (fun i => decide (isT P i ∧ fm P i = f))) (i := i) (by simp only [decide_eq_true_eq, isT]; omega)]; rfl)
                      | (rw [cnt_s0 (p := (fun i => decide (isT P i ∧ fm P i = f))) (i := i) (by simp only [decide_eq_false_iff_not, isT]; omega)]; rfl)))))
  · first
    | (exfalso; omega)
    | (refine gx_aload_n hx dX9_formCount_9 rfl ?_
       refine gx_iconst hx dX9_formCount_10 ?_
       refine gx_callI hx (c_X9_fails _ _) lkX9_93 mwX9_fails dX9_formCount_11 (by decide) rfl rfl rfl rfl (Nat.le_of_ble_eq_true rfl) (by decide) ⟨by decide, by decide⟩ (fun z_11 σ_11 hz_11 => ?_)
       obtain ⟨rfl, rfl⟩ := hz_11
       refine hret _ _ _ _ _ _ _ (by decide) (by decide) dX9_formCount_14 rfl rfl ?_
       exact ⟨1, (P, hs, sv, T, er), by show sp_formCount (P, hs, sv, T, er) z = _; rw [sp_formCount, if_pos (by omega)], MZ.q hR FR.refl 1 1 rfl⟩)
set_option maxRecDepth 20000 in
set_option maxHeartbeats 400000 in
theorem c_X9_displacement (g : Gm) (l : Launch) {σ : Sg} {A : AS} {z : Int} (hR : MR σ A) (hz : rg z) : KI g l yX9_displacement cX9_displacement 3 ((some .int)) (6) 0 0 [.inr 70, .inl z] σ (MPI (fn (sp_tr q_dsp A z)) σ) := by
  refine startI (own := RX9) (by decide +kernel) rfl (Nat.le_of_ble_eq_true rfl) ?_
  intro X hx _ _ hret
  obtain ⟨P, hs, sv, T, er⟩ := A
  obtain ⟨hM, hH, hS, hT, he1, he2, he3, hN⟩ := id hR
  obtain ⟨hok, hn, hit⟩ := id hM
  have hl40 := hok.1
  obtain ⟨hz1, hz2⟩ := id hz
  refine gx_aload_n hx dX9_displacement_0 rfl ?_
  refine gx_iload_n hx dX9_displacement_1 rfl ?_
  refine gx_callI hx (c_X9_lacks _ _ hM hz) lkX9_168 mwX9_lacks dX9_displacement_2 (by decide) rfl rfl rfl rfl (Nat.le_of_ble_eq_true rfl) (by decide) ⟨by decide, by decide⟩ (fun z_2 σ_2 hz_2 => ?_)
  obtain ⟨e9, hF1⟩ := hz_2
  have e8 : 0 ≤ z_2 ∧ z_2 ≤ 3 := by
    rcases e9 with ⟨a, _⟩ | ⟨i, _, _, _, h⟩
    · omega
    · rcases h with ⟨h, _⟩ | ⟨h, _⟩ | ⟨h, _⟩ <;> omega
  have hM1 := hM.fr hF1 rfl
  refine gx_istore_n hx dX9_displacement_5 (Nat.le_of_ble_eq_true rfl) ?_
  refine gx_iload_n hx dX9_displacement_6 rfl ?_
  refine gx_if_eq (tgt := 18) hx dX9_displacement_7 (by decide) ⟨by omega, by omega⟩ (fun h7 => ?_) (fun h7 => ?_)
  · first
    | (exfalso; omega)
    | (obtain ⟨i, rfl, hi, hY1, ht, hd⟩ : ∃ i : Nat, z = (i : Int) ∧ i < P.length ∧ YM σ_2 P ∧ isT P i ∧ 0 ≤ dfn P (op P i) P.length := by
         rcases e9 with ⟨a, _⟩ | ⟨i, h1, h2, h3, h⟩
         · omega
         · rcases h with ⟨h, _⟩ | ⟨h, _⟩ | ⟨_, h4, h5⟩
           · omega
           · omega
           · exact ⟨i, h1, h2, h3, h4, h5⟩
       have hin : inI P (i : Int) := by omega
       have hdr := dsp_rg hok (fm P) hi
       refine gx_aload_n hx dX9_displacement_18 rfl ?_
       refine gx_aload_n hx dX9_displacement_19 rfl ?_
       refine gx_iload_n hx dX9_displacement_20 rfl ?_
       refine gx_callI hx (c_X9_off _ _ hM1 hY1 hi hd) lkX9_162 mwX9_off dX9_displacement_21 (by decide) rfl rfl rfl rfl (Nat.le_of_ble_eq_true rfl) (by decide) ⟨by decide, by decide⟩ (fun z_21 σ_21 hz_21 => ?_)
       obtain ⟨rfl, rfl⟩ := hz_21
       refine gx_callI hx (c_X9_done _ _) lkX9_90 mwX9_done dX9_displacement_24 (by decide) rfl rfl rfl rfl (Nat.le_of_ble_eq_true rfl) (by decide) ⟨by decide, by decide⟩ (fun z_24 σ_24 hz_24 => ?_)
       obtain ⟨rfl, rfl⟩ := hz_24
       refine hret _ _ _ _ _ _ _ (by decide) (by decide) dX9_displacement_27 rfl rfl ?_
       first
       | exact ⟨0, (P, hs, sv, T, er), by show sp_tr q_dsp (P, hs, sv, T, er) (i : Int) = _; rw [sp_tr, if_neg (fun h9 => h9 hin), Int.toNat_natCast, if_neg (fun h9 => h9 ht), if_neg (by omega), q_dsp], MZ.q hR hF1.S2 0 0 rfl⟩
       | (rcases e9 with ⟨a, b⟩ | ⟨i, rfl, h2, h3, h⟩
          · exact ⟨1, (P, hs, sv, T, er), by show sp_tr q_dsp (P, hs, sv, T, er) z = _; rw [sp_tr, if_pos b], MZ.q hR hF1.S2 1 _ (by omega)⟩
          · rcases h with ⟨h, h4⟩ | ⟨h, h4, h5⟩ | ⟨h, _⟩
            · exact ⟨2, (P, hs, sv, T, er), by show sp_tr q_dsp (P, hs, sv, T, er) (i : Int) = _; rw [sp_tr, if_neg (by omega), Int.toNat_natCast, if_pos h4], MZ.q hR hF1.S2 2 _ (by omega)⟩
            · exact ⟨3, (P, hs, sv, T, er), by show sp_tr q_dsp (P, hs, sv, T, er) (i : Int) = _; rw [sp_tr, if_neg (by omega), Int.toNat_natCast, if_neg (fun h9 => h9 h4), if_pos h5], MZ.q hR hF1.S2 3 _ (by omega)⟩
            · omega))
  · first
    | (exfalso; omega)
    | (refine gx_aload_n hx dX9_displacement_10 rfl ?_
       refine gx_iload_n hx dX9_displacement_11 rfl ?_
       refine gx_callI hx (c_X9_fails _ _) lkX9_93 mwX9_fails dX9_displacement_12 (by decide) rfl rfl rfl rfl (Nat.le_of_ble_eq_true rfl) (by decide) ⟨by decide, by decide⟩ (fun z_12 σ_12 hz_12 => ?_)
       obtain ⟨rfl, rfl⟩ := hz_12
       refine gx_goto (tgt := 27) hx dX9_displacement_15 (by decide) ?_
       refine hret _ _ _ _ _ _ _ (by decide) (by decide) dX9_displacement_27 rfl rfl ?_
       first
       | exact ⟨0, (P, hs, sv, T, er), by show sp_tr q_dsp (P, hs, sv, T, er) (i : Int) = _; rw [sp_tr, if_neg (fun h9 => h9 hin), Int.toNat_natCast, if_neg (fun h9 => h9 ht), if_neg (by omega), q_dsp], MZ.q hR hF1.S2 0 0 rfl⟩
       | (rcases e9 with ⟨a, b⟩ | ⟨i, rfl, h2, h3, h⟩
          · exact ⟨1, (P, hs, sv, T, er), by show sp_tr q_dsp (P, hs, sv, T, er) z = _; rw [sp_tr, if_pos b], MZ.q hR hF1.S2 1 _ (by omega)⟩
          · rcases h with ⟨h, h4⟩ | ⟨h, h4, h5⟩ | ⟨h, _⟩
            · exact ⟨2, (P, hs, sv, T, er), by show sp_tr q_dsp (P, hs, sv, T, er) (i : Int) = _; rw [sp_tr, if_neg (by omega), Int.toNat_natCast, if_pos h4], MZ.q hR hF1.S2 2 _ (by omega)⟩
            · exact ⟨3, (P, hs, sv, T, er), by show sp_tr q_dsp (P, hs, sv, T, er) (i : Int) = _; rw [sp_tr, if_neg (by omega), Int.toNat_natCast, if_neg (fun h9 => h9 h4), if_pos h5], MZ.q hR hF1.S2 3 _ (by omega)⟩
            · omega))
set_option maxRecDepth 20000 in
set_option maxHeartbeats 400000 in
theorem c_X9_neededForm (g : Gm) (l : Launch) {σ : Sg} {A : AS} {z : Int} (hR : MR σ A) (hz : rg z) : KI g l yX9_neededForm cX9_neededForm 3 ((some .int)) (6) 0 0 [.inr 70, .inl z] σ (MPI (fn (sp_tr q_ndF A z)) σ) := by
  refine startI (own := RX9) (by decide +kernel) rfl (Nat.le_of_ble_eq_true rfl) ?_
  intro X hx _ _ hret
  obtain ⟨P, hs, sv, T, er⟩ := A
  obtain ⟨hM, hH, hS, hT, he1, he2, he3, hN⟩ := id hR
  obtain ⟨hok, hn, hit⟩ := id hM
  have hl40 := hok.1
  obtain ⟨hz1, hz2⟩ := id hz
  refine gx_aload_n hx dX9_neededForm_0 rfl ?_
  refine gx_iload_n hx dX9_neededForm_1 rfl ?_
  refine gx_callI hx (c_X9_lacks _ _ hM hz) lkX9_168 mwX9_lacks dX9_neededForm_2 (by decide) rfl rfl rfl rfl (Nat.le_of_ble_eq_true rfl) (by decide) ⟨by decide, by decide⟩ (fun z_2 σ_2 hz_2 => ?_)
  obtain ⟨e9, hF1⟩ := hz_2
  have e8 : 0 ≤ z_2 ∧ z_2 ≤ 3 := by
    rcases e9 with ⟨a, _⟩ | ⟨i, _, _, _, h⟩
    · omega
    · rcases h with ⟨h, _⟩ | ⟨h, _⟩ | ⟨h, _⟩ <;> omega
  have hM1 := hM.fr hF1 rfl
  refine gx_istore_n hx dX9_neededForm_5 (Nat.le_of_ble_eq_true rfl) ?_
  refine gx_iload_n hx dX9_neededForm_6 rfl ?_
  refine gx_if_eq (tgt := 18) hx dX9_neededForm_7 (by decide) ⟨by omega, by omega⟩ (fun h7 => ?_) (fun h7 => ?_)
  · first
    | (exfalso; omega)
    | (obtain ⟨i, rfl, hi, hY1, ht, hd⟩ : ∃ i : Nat, z = (i : Int) ∧ i < P.length ∧ YM σ_2 P ∧ isT P i ∧ 0 ≤ dfn P (op P i) P.length := by
         rcases e9 with ⟨a, _⟩ | ⟨i, h1, h2, h3, h⟩
         · omega
         · rcases h with ⟨h, _⟩ | ⟨h, _⟩ | ⟨_, h4, h5⟩
           · omega
           · omega
           · exact ⟨i, h1, h2, h3, h4, h5⟩
       have hin : inI P (i : Int) := by omega
       have hdr := dsp_rg hok (fm P) hi
       refine gx_aload_n hx dX9_neededForm_18 rfl ?_
       refine gx_aload_n hx dX9_neededForm_19 rfl ?_
       refine gx_iload_n hx dX9_neededForm_20 rfl ?_
       refine gx_callI hx (c_X9_off _ _ hM1 hY1 hi hd) lkX9_162 mwX9_off dX9_neededForm_21 (by decide) rfl rfl rfl rfl (Nat.le_of_ble_eq_true rfl) (by decide) ⟨by decide, by decide⟩ (fun z_21 σ_21 hz_21 => ?_)
       obtain ⟨rfl, rfl⟩ := hz_21
       refine gx_callS hx (c_X9_needed _ _ ⟨by omega, by omega⟩) lkX9_165 mwX9_needed dX9_neededForm_24 rfl rfl (Nat.le_of_ble_eq_true rfl) (by decide) ⟨by decide, by decide⟩ (fun z_24 σ_24 hz_24 => ?_)
       obtain ⟨rfl, rfl⟩ := hz_24
       refine gx_callI hx (c_X9_done _ _) lkX9_90 mwX9_done dX9_neededForm_27 (by decide) rfl rfl rfl rfl (Nat.le_of_ble_eq_true rfl) (by decide) ⟨by decide, by decide⟩ (fun z_27 σ_27 hz_27 => ?_)
       obtain ⟨rfl, rfl⟩ := hz_27
       refine hret _ _ _ _ _ _ _ (by decide) (by decide) dX9_neededForm_30 rfl rfl ?_
       first
       | exact ⟨0, (P, hs, sv, T, er), by show sp_tr q_ndF (P, hs, sv, T, er) (i : Int) = _; rw [sp_tr, if_neg (fun h9 => h9 hin), Int.toNat_natCast, if_neg (fun h9 => h9 ht), if_neg (by omega), q_ndF], MZ.q hR hF1.S2 0 0 rfl⟩
       | (rcases e9 with ⟨a, b⟩ | ⟨i, rfl, h2, h3, h⟩
          · exact ⟨1, (P, hs, sv, T, er), by show sp_tr q_ndF (P, hs, sv, T, er) z = _; rw [sp_tr, if_pos b], MZ.q hR hF1.S2 1 _ (by omega)⟩
          · rcases h with ⟨h, h4⟩ | ⟨h, h4, h5⟩ | ⟨h, _⟩
            · exact ⟨2, (P, hs, sv, T, er), by show sp_tr q_ndF (P, hs, sv, T, er) (i : Int) = _; rw [sp_tr, if_neg (by omega), Int.toNat_natCast, if_pos h4], MZ.q hR hF1.S2 2 _ (by omega)⟩
            · exact ⟨3, (P, hs, sv, T, er), by show sp_tr q_ndF (P, hs, sv, T, er) (i : Int) = _; rw [sp_tr, if_neg (by omega), Int.toNat_natCast, if_neg (fun h9 => h9 h4), if_pos h5], MZ.q hR hF1.S2 3 _ (by omega)⟩
            · omega))
  · first
    | (exfalso; omega)
    | (refine gx_aload_n hx dX9_neededForm_10 rfl ?_
       refine gx_iload_n hx dX9_neededForm_11 rfl ?_
       refine gx_callI hx (c_X9_fails _ _) lkX9_93 mwX9_fails dX9_neededForm_12 (by decide) rfl rfl rfl rfl (Nat.le_of_ble_eq_true rfl) (by decide) ⟨by decide, by decide⟩ (fun z_12 σ_12 hz_12 => ?_)
       obtain ⟨rfl, rfl⟩ := hz_12
       refine gx_goto (tgt := 30) hx dX9_neededForm_15 (by decide) ?_
       refine hret _ _ _ _ _ _ _ (by decide) (by decide) dX9_neededForm_30 rfl rfl ?_
       first
       | exact ⟨0, (P, hs, sv, T, er), by show sp_tr q_ndF (P, hs, sv, T, er) (i : Int) = _; rw [sp_tr, if_neg (fun h9 => h9 hin), Int.toNat_natCast, if_neg (fun h9 => h9 ht), if_neg (by omega), q_ndF], MZ.q hR hF1.S2 0 0 rfl⟩
       | (rcases e9 with ⟨a, b⟩ | ⟨i, rfl, h2, h3, h⟩
          · exact ⟨1, (P, hs, sv, T, er), by show sp_tr q_ndF (P, hs, sv, T, er) z = _; rw [sp_tr, if_pos b], MZ.q hR hF1.S2 1 _ (by omega)⟩
          · rcases h with ⟨h, h4⟩ | ⟨h, h4, h5⟩ | ⟨h, _⟩
            · exact ⟨2, (P, hs, sv, T, er), by show sp_tr q_ndF (P, hs, sv, T, er) (i : Int) = _; rw [sp_tr, if_neg (by omega), Int.toNat_natCast, if_pos h4], MZ.q hR hF1.S2 2 _ (by omega)⟩
            · exact ⟨3, (P, hs, sv, T, er), by show sp_tr q_ndF (P, hs, sv, T, er) (i : Int) = _; rw [sp_tr, if_neg (by omega), Int.toNat_natCast, if_neg (fun h9 => h9 h4), if_pos h5], MZ.q hR hF1.S2 3 _ (by omega)⟩
            · omega))
set_option maxRecDepth 20000 in
set_option maxHeartbeats 400000 in
theorem c_X9_fits (g : Gm) (l : Launch) {σ : Sg} {A : AS} {z : Int} (hR : MR σ A) (hz : rg z) : KI g l yX9_fits cX9_fits 2 ((some .boolean)) (6) 0 0 [.inr 70, .inl z] σ (MPI (fn (sp_tr q_fit A z)) σ) := by
  refine startI (own := RX9) (by decide +kernel) rfl (Nat.le_of_ble_eq_true rfl) ?_
  intro X hx _ _ hret
  obtain ⟨P, hs, sv, T, er⟩ := A
  obtain ⟨hM, hH, hS, hT, he1, he2, he3, hN⟩ := id hR
  obtain ⟨hok, hn, hit⟩ := id hM
  have hl40 := hok.1
  obtain ⟨hz1, hz2⟩ := id hz
  refine gx_aload_n hx dX9_fits_0 rfl ?_
  refine gx_aload_n hx dX9_fits_1 rfl ?_
  refine gx_iload_n hx dX9_fits_2 rfl ?_
  refine gx_callI hx (c_X9_lacks _ _ hM hz) lkX9_168 mwX9_lacks dX9_fits_3 (by decide) rfl rfl rfl rfl (Nat.le_of_ble_eq_true rfl) (by decide) ⟨by decide, by decide⟩ (fun z_3 σ_3 hz_3 => ?_)
  obtain ⟨e9, hF1⟩ := hz_3
  have e8 : 0 ≤ z_3 ∧ z_3 ≤ 3 := by
    rcases e9 with ⟨a, _⟩ | ⟨i, _, _, _, h⟩
    · omega
    · rcases h with ⟨h, _⟩ | ⟨h, _⟩ | ⟨h, _⟩ <;> omega
  have hM1 := hM.fr hF1 rfl
  refine gx_put hx fpX9_46 dX9_fits_6 (by decide) rfl rfl rfl rfl 0 rfl ?_
  refine gx_aload_n hx dX9_fits_9 rfl ?_
  refine gx_getI hx flX9_46 dX9_fits_10 (by decide) rfl rfl 0 rfl ?_
  rw [upd2_at]
  refine gx_if_ne (tgt := 28) hx dX9_fits_13 (by decide) ⟨by omega, by omega⟩ (fun h13 => ?_) (fun h13 => ?_)
  · first
    | (exfalso; omega)
    | (refine gx_iconst hx dX9_fits_28 ?_
       refine hret _ _ _ _ _ _ _ (by decide) (by decide) dX9_fits_29 rfl rfl ?_
       first
       | exact ⟨0, (P, hs, sv, T, er), by show sp_tr q_fit (P, hs, sv, T, er) (i : Int) = _; rw [sp_tr, if_neg (fun h9 => h9 hin), Int.toNat_natCast, if_neg (fun h9 => h9 ht), if_neg (by omega), q_fit, if_pos (by omega)], MZ.q hR hF1.S2 0 _ (by omega)⟩
       | exact ⟨0, (P, hs, sv, T, er), by show sp_tr q_fit (P, hs, sv, T, er) (i : Int) = _; rw [sp_tr, if_neg (fun h9 => h9 hin), Int.toNat_natCast, if_neg (fun h9 => h9 ht), if_neg (by omega), q_fit, if_neg (by omega)], MZ.q hR hF1.S2 0 _ (by omega)⟩
       | (rcases e9 with ⟨a, b⟩ | ⟨i, rfl, h2, h3, h⟩
          · exact ⟨1, (P, hs, sv, T, er), by show sp_tr q_fit (P, hs, sv, T, er) z = _; rw [sp_tr, if_pos b], MZ.q hR hF1.S2 1 _ (by omega)⟩
          · rcases h with ⟨h, h4⟩ | ⟨h, h4, h5⟩ | ⟨h, _⟩
            · exact ⟨2, (P, hs, sv, T, er), by show sp_tr q_fit (P, hs, sv, T, er) (i : Int) = _; rw [sp_tr, if_neg (by omega), Int.toNat_natCast, if_pos h4], MZ.q hR hF1.S2 2 _ (by omega)⟩
            · exact ⟨3, (P, hs, sv, T, er), by show sp_tr q_fit (P, hs, sv, T, er) (i : Int) = _; rw [sp_tr, if_neg (by omega), Int.toNat_natCast, if_neg (fun h9 => h9 h4), if_pos h5], MZ.q hR hF1.S2 3 _ (by omega)⟩
            · omega))
  · first
    | (exfalso; omega)
    | (obtain ⟨i, rfl, hi, hY1, ht, hd⟩ : ∃ i : Nat, z = (i : Int) ∧ i < P.length ∧ YM σ_3 P ∧ isT P i ∧ 0 ≤ dfn P (op P i) P.length := by
         rcases e9 with ⟨a, _⟩ | ⟨i, h1, h2, h3, h⟩
         · omega
         · rcases h with ⟨h, _⟩ | ⟨h, _⟩ | ⟨_, h4, h5⟩
           · omega
           · omega
           · exact ⟨i, h1, h2, h3, h4, h5⟩
       have hin : inI P (i : Int) := by omega
       have hdr := dsp_rg hok (fm P) hi
       refine gx_aload_n hx dX9_fits_16 rfl ?_
       refine gx_iload_n hx dX9_fits_17 rfl ?_
       refine gx_callI hx (c_X9_isFit (i := i) _ _ (hM1.same (upd2_other 71 (by decide))) (hY1.same (upd2_other 75 (by decide))) hi hd) lkX9_171 mwX9_isFit dX9_fits_18 (by decide) rfl rfl rfl rfl (Nat.le_of_ble_eq_true rfl) (by decide) ⟨by decide, by decide⟩ (fun z_18 σ_18 hz_18 => ?_)
       obtain ⟨e7, rfl⟩ := hz_18
       refine gx_if_eq (tgt := 28) hx dX9_fits_21 (by decide) ⟨by omega, by omega⟩ (fun h21 => ?_) (fun h21 => ?_)
       · first
         | (exfalso; omega)
         | (refine gx_iconst hx dX9_fits_28 ?_
            refine hret _ _ _ _ _ _ _ (by decide) (by decide) dX9_fits_29 rfl rfl ?_
            first
            | exact ⟨0, (P, hs, sv, T, er), by show sp_tr q_fit (P, hs, sv, T, er) (i : Int) = _; rw [sp_tr, if_neg (fun h9 => h9 hin), Int.toNat_natCast, if_neg (fun h9 => h9 ht), if_neg (by omega), q_fit, if_pos (by omega)], MZ.q hR hF1.S2 0 _ (by omega)⟩
            | exact ⟨0, (P, hs, sv, T, er), by show sp_tr q_fit (P, hs, sv, T, er) (i : Int) = _; rw [sp_tr, if_neg (fun h9 => h9 hin), Int.toNat_natCast, if_neg (fun h9 => h9 ht), if_neg (by omega), q_fit, if_neg (by omega)], MZ.q hR hF1.S2 0 _ (by omega)⟩
            | (rcases e9 with ⟨a, b⟩ | ⟨i, rfl, h2, h3, h⟩
               · exact ⟨1, (P, hs, sv, T, er), by show sp_tr q_fit (P, hs, sv, T, er) z = _; rw [sp_tr, if_pos b], MZ.q hR hF1.S2 1 _ (by omega)⟩
               · rcases h with ⟨h, h4⟩ | ⟨h, h4, h5⟩ | ⟨h, _⟩
                 · exact ⟨2, (P, hs, sv, T, er), by show sp_tr q_fit (P, hs, sv, T, er) (i : Int) = _; rw [sp_tr, if_neg (by omega), Int.toNat_natCast, if_pos h4], MZ.q hR hF1.S2 2 _ (by omega)⟩
                 · exact ⟨3, (P, hs, sv, T, er), by show sp_tr q_fit (P, hs, sv, T, er) (i : Int) = _; rw [sp_tr, if_neg (by omega), Int.toNat_natCast, if_neg (fun h9 => h9 h4), if_pos h5], MZ.q hR hF1.S2 3 _ (by omega)⟩
                 · omega))
       · first
         | (exfalso; omega)
         | (refine gx_iconst hx dX9_fits_24 ?_
            refine gx_goto (tgt := 29) hx dX9_fits_25 (by decide) ?_
            refine hret _ _ _ _ _ _ _ (by decide) (by decide) dX9_fits_29 rfl rfl ?_
            first
            | exact ⟨0, (P, hs, sv, T, er), by show sp_tr q_fit (P, hs, sv, T, er) (i : Int) = _; rw [sp_tr, if_neg (fun h9 => h9 hin), Int.toNat_natCast, if_neg (fun h9 => h9 ht), if_neg (by omega), q_fit, if_pos (by omega)], MZ.q hR hF1.S2 0 _ (by omega)⟩
            | exact ⟨0, (P, hs, sv, T, er), by show sp_tr q_fit (P, hs, sv, T, er) (i : Int) = _; rw [sp_tr, if_neg (fun h9 => h9 hin), Int.toNat_natCast, if_neg (fun h9 => h9 ht), if_neg (by omega), q_fit, if_neg (by omega)], MZ.q hR hF1.S2 0 _ (by omega)⟩
            | (rcases e9 with ⟨a, b⟩ | ⟨i, rfl, h2, h3, h⟩
               · exact ⟨1, (P, hs, sv, T, er), by show sp_tr q_fit (P, hs, sv, T, er) z = _; rw [sp_tr, if_pos b], MZ.q hR hF1.S2 1 _ (by omega)⟩
               · rcases h with ⟨h, h4⟩ | ⟨h, h4, h5⟩ | ⟨h, _⟩
                 · exact ⟨2, (P, hs, sv, T, er), by show sp_tr q_fit (P, hs, sv, T, er) (i : Int) = _; rw [sp_tr, if_neg (by omega), Int.toNat_natCast, if_pos h4], MZ.q hR hF1.S2 2 _ (by omega)⟩
                 · exact ⟨3, (P, hs, sv, T, er), by show sp_tr q_fit (P, hs, sv, T, er) (i : Int) = _; rw [sp_tr, if_neg (by omega), Int.toNat_natCast, if_neg (fun h9 => h9 h4), if_pos h5], MZ.q hR hF1.S2 3 _ (by omega)⟩
                 · omega)))
set_option maxRecDepth 20000 in
set_option maxHeartbeats 400000 in
theorem c_X9_misfits (g : Gm) (l : Launch) {σ : Sg} {A : AS} (hR : MR σ A) : KI g l yX9_misfits cX9_misfits 1 ((some .int)) (6) 0 0 [.inr 70] σ (MPI (fn (sp_misfits A)) σ) := by
  refine startI (own := RX9) (by decide +kernel) rfl (Nat.le_of_ble_eq_true rfl) ?_
  intro X hx _ _ hret
  obtain ⟨P, hs, sv, T, er⟩ := A
  obtain ⟨hM, hH, hS, hT, he1, he2, he3, hN⟩ := id hR
  obtain ⟨hok, hn, hit⟩ := id hM
  have hl40 := hok.1
  refine gx_aload_n hx dX9_misfits_0 rfl ?_
  refine gx_callI hx (c_X9_undefined _ _ hM) lkX9_159 mwX9_undefined dX9_misfits_1 (by decide) rfl rfl rfl rfl (Nat.le_of_ble_eq_true rfl) (by decide) ⟨by decide, by decide⟩ (fun z_1 σ_1 hz_1 => ?_)
  obtain ⟨rfl, rfl⟩ := hz_1
  have hul : udf P ≤ P.length := cnt_le _ _
  refine gx_if_le (tgt := 15) hx dX9_misfits_4 (by decide) ⟨by omega, by omega⟩ (fun h4 => ?_) (fun h4 => ?_)
  · first
    | (exfalso; omega)
    | (refine gx_aload_n hx dX9_misfits_15 rfl ?_
       refine gx_aload_n hx dX9_misfits_16 rfl ?_
       refine gx_callI hx (c_X9_misfitMany _ _ hM (by omega)) lkX9_174 mwX9_misfitMany dX9_misfits_17 (by decide) rfl rfl rfl rfl (Nat.le_of_ble_eq_true rfl) (by decide) ⟨by decide, by decide⟩ (fun z_17 σ_17 hz_17 => ?_)
       obtain ⟨rfl, hY1, hF1⟩ := hz_17
       refine gx_callI hx (c_X9_done _ _) lkX9_90 mwX9_done dX9_misfits_20 (by decide) rfl rfl rfl rfl (Nat.le_of_ble_eq_true rfl) (by decide) ⟨by decide, by decide⟩ (fun z_20 σ_20 hz_20 => ?_)
       obtain ⟨rfl, rfl⟩ := hz_20
       refine hret _ _ _ _ _ _ _ (by decide) (by decide) dX9_misfits_23 rfl rfl ?_
       first
       | exact ⟨1, (P, hs, sv, T, er), by show sp_misfits (P, hs, sv, T, er) = _; rw [sp_misfits, if_pos (by omega)], MZ.q hR FR.refl 1 1 rfl⟩
       | exact ⟨0, (P, hs, sv, T, er), by show sp_misfits (P, hs, sv, T, er) = _; rw [sp_misfits, if_neg (by omega)], MZ.q hR hF1.S2 0 0 rfl⟩)
  · first
    | (exfalso; omega)
    | (refine gx_aload_n hx dX9_misfits_7 rfl ?_
       refine gx_iconst hx dX9_misfits_8 ?_
       refine gx_callI hx (c_X9_fails _ _) lkX9_93 mwX9_fails dX9_misfits_9 (by decide) rfl rfl rfl rfl (Nat.le_of_ble_eq_true rfl) (by decide) ⟨by decide, by decide⟩ (fun z_9 σ_9 hz_9 => ?_)
       obtain ⟨rfl, rfl⟩ := hz_9
       refine gx_goto (tgt := 23) hx dX9_misfits_12 (by decide) ?_
       refine hret _ _ _ _ _ _ _ (by decide) (by decide) dX9_misfits_23 rfl rfl ?_
       first
       | exact ⟨1, (P, hs, sv, T, er), by show sp_misfits (P, hs, sv, T, er) = _; rw [sp_misfits, if_pos (by omega)], MZ.q hR FR.refl 1 1 rfl⟩
       | exact ⟨0, (P, hs, sv, T, er), by show sp_misfits (P, hs, sv, T, er) = _; rw [sp_misfits, if_neg (by omega)], MZ.q hR hF1.S2 0 0 rfl⟩)
set_option maxRecDepth 20000 in
set_option maxHeartbeats 400000 in
theorem c_X9_literalCount (g : Gm) (l : Launch) {σ : Sg} {A : AS} {z : Int} (hR : MR σ A) (hz : rg z) : KI g l yX9_literalCount cX9_literalCount 2 ((some .int)) (3) 0 0 [.inr 70, .inl z] σ (MPI (fn (sp_literalCount A z)) σ) := by
  refine startI (own := RX9) (by decide +kernel) rfl (Nat.le_of_ble_eq_true rfl) ?_
  intro X hx _ _ hret
  obtain ⟨P, hs, sv, T, er⟩ := A
  obtain ⟨hM, hH, hS, hT, he1, he2, he3, hN⟩ := id hR
  obtain ⟨hok, hn, hit⟩ := id hM
  have hl40 := hok.1
  obtain ⟨hz1, hz2⟩ := id hz
  refine gx_iload_n hx dX9_literalCount_0 rfl ?_
  refine gx_iconst hx dX9_literalCount_1 ?_
  refine gx_aload_n hx dX9_literalCount_2 rfl ?_
  refine gx_callI hx (c_X9_pools _ _ hM) lkX9_202 mwX9_pools dX9_literalCount_3 (by decide) rfl rfl rfl rfl (Nat.le_of_ble_eq_true rfl) (by decide) ⟨by decide, by decide⟩ (fun z_3 σ_3 hz_3 => ?_)
  obtain ⟨rfl, rfl⟩ := hz_3
  have hpl := pno_le P P.length
  refine gx_callS hx (c_X9_in (v := z) (lo := 0) (hi := (pno P P.length : Int)) _ _ hz ⟨by decide, by decide⟩ ⟨by omega, by omega⟩) lkX9_49 mwX9_in dX9_literalCount_6 rfl rfl (Nat.le_of_ble_eq_true rfl) (by decide) ⟨by decide, by decide⟩ (fun z_6 σ_6 hz_6 => ?_)
  obtain ⟨e9, rfl⟩ := hz_6
  replace e9 := ite10 e9
  refine gx_if_ne (tgt := 18) hx dX9_literalCount_9 (by decide) ⟨by omega, by omega⟩ (fun h9 => ?_) (fun h9 => ?_)
  · first
    | (exfalso; omega)
    | (obtain ⟨p, rfl⟩ : ∃ p : Nat, z = (p : Int) := ⟨z.toNat, by omega⟩
       obtain ⟨y1, y2, y3⟩ := plc_spec (P := P) p (by omega)
       have hvl := vals_le hok y2
       have hvt := fun k hk => vals_lt hok (i := plc P p) (k := k) hk
       refine gx_aload_n hx dX9_literalCount_18 rfl ?_
       refine gx_aload_n hx dX9_literalCount_19 rfl ?_
       refine gx_iload_n hx dX9_literalCount_20 rfl ?_
       refine gx_callI hx (c_X9_placeOf (p := p) _ _ hM (by omega)) lkX9_205 mwX9_placeOf dX9_literalCount_21 (by decide) rfl rfl rfl rfl (Nat.le_of_ble_eq_true rfl) (by decide) ⟨by decide, by decide⟩ (fun z_21 σ_21 hz_21 => ?_)
       obtain ⟨rfl, rfl⟩ := hz_21
       refine gx_callV hx (c_X9_tellValues (q := plc P p) _ _ hM y2) lkX9_69 mwX9_tellValues dX9_literalCount_24 (by decide) rfl rfl rfl rfl (Nat.le_of_ble_eq_true rfl) (by decide) ⟨by decide, by decide⟩ (fun σ_24 hz_24 => ?_)
       obtain ⟨hV1, hF1⟩ := hz_24
       refine gx_aload_n hx dX9_literalCount_27 rfl ?_
       refine gx_aload_n hx dX9_literalCount_28 rfl ?_
       refine gx_getI hx flX9_60 dX9_literalCount_29 (by decide) rfl rfl 11 rfl ?_
       rw [hV1.1]
       refine gx_callI hx (c_X9_done _ _) lkX9_90 mwX9_done dX9_literalCount_32 (by decide) rfl rfl rfl rfl (Nat.le_of_ble_eq_true rfl) (by decide) ⟨by decide, by decide⟩ (fun z_32 σ_32 hz_32 => ?_)
       obtain ⟨rfl, rfl⟩ := hz_32
       refine hret _ _ _ _ _ _ _ (by decide) (by decide) dX9_literalCount_35 rfl rfl ?_
       exact ⟨0, (P, hs, sv, T, er), by show sp_literalCount (P, hs, sv, T, er) (p : Int) = _; rw [sp_literalCount, if_neg (by omega), Int.toNat_natCast], MZ.q hR hF1.S1 0 0 rfl⟩)
  · first
    | (exfalso; omega)
    | (refine gx_aload_n hx dX9_literalCount_12 rfl ?_
       refine gx_iconst hx dX9_literalCount_13 ?_
       refine gx_callI hx (c_X9_fails _ _) lkX9_93 mwX9_fails dX9_literalCount_14 (by decide) rfl rfl rfl rfl (Nat.le_of_ble_eq_true rfl) (by decide) ⟨by decide, by decide⟩ (fun z_14 σ_14 hz_14 => ?_)
       obtain ⟨rfl, rfl⟩ := hz_14
       refine hret _ _ _ _ _ _ _ (by decide) (by decide) dX9_literalCount_17 rfl rfl ?_
       exact ⟨1, (P, hs, sv, T, er), by show sp_literalCount (P, hs, sv, T, er) z = _; rw [sp_literalCount, if_pos (by omega)], MZ.q hR FR.refl 1 1 rfl⟩)
set_option maxRecDepth 20000 in
set_option maxHeartbeats 400000 in
theorem c_X9_literal (g : Gm) (l : Launch) {σ : Sg} {A : AS} {z w : Int} (hR : MR σ A) (hz : rg z) (hw : rg w) : KI g l yX9_literal cX9_literal 3 ((some .int)) (3) 0 0 [.inr 70, .inl z, .inl w] σ (MPI (fn (sp_lit q_val A z w)) σ) := by
  refine startI (own := RX9) (by decide +kernel) rfl (Nat.le_of_ble_eq_true rfl) ?_
  intro X hx _ _ hret
  obtain ⟨P, hs, sv, T, er⟩ := A
  obtain ⟨hM, hH, hS, hT, he1, he2, he3, hN⟩ := id hR
  obtain ⟨hok, hn, hit⟩ := id hM
  have hl40 := hok.1
  obtain ⟨hz1, hz2⟩ := id hz
  obtain ⟨hw1, hw2⟩ := id hw
  refine gx_iload_n hx dX9_literal_0 rfl ?_
  refine gx_iconst hx dX9_literal_1 ?_
  refine gx_aload_n hx dX9_literal_2 rfl ?_
  refine gx_callI hx (c_X9_pools _ _ hM) lkX9_202 mwX9_pools dX9_literal_3 (by decide) rfl rfl rfl rfl (Nat.le_of_ble_eq_true rfl) (by decide) ⟨by decide, by decide⟩ (fun z_3 σ_3 hz_3 => ?_)
  obtain ⟨rfl, rfl⟩ := hz_3
  have hpl := pno_le P P.length
  refine gx_callS hx (c_X9_in (v := z) (lo := 0) (hi := (pno P P.length : Int)) _ _ hz ⟨by decide, by decide⟩ ⟨by omega, by omega⟩) lkX9_49 mwX9_in dX9_literal_6 rfl rfl (Nat.le_of_ble_eq_true rfl) (by decide) ⟨by decide, by decide⟩ (fun z_6 σ_6 hz_6 => ?_)
  obtain ⟨e9, rfl⟩ := hz_6
  replace e9 := ite10 e9
  refine gx_if_ne (tgt := 18) hx dX9_literal_9 (by decide) ⟨by omega, by omega⟩ (fun h9 => ?_) (fun h9 => ?_)
  · first
    | (exfalso; omega)
    | (obtain ⟨p, rfl⟩ : ∃ p : Nat, z = (p : Int) := ⟨z.toNat, by omega⟩
       obtain ⟨y1, y2, y3⟩ := plc_spec (P := P) p (by omega)
       have hvl := vals_le hok y2
       have hvt := fun k hk => vals_lt hok (i := plc P p) (k := k) hk
       refine gx_aload_n hx dX9_literal_18 rfl ?_
       refine gx_aload_n hx dX9_literal_19 rfl ?_
       refine gx_iload_n hx dX9_literal_20 rfl ?_
       refine gx_callI hx (c_X9_placeOf (p := p) _ _ hM (by omega)) lkX9_205 mwX9_placeOf dX9_literal_21 (by decide) rfl rfl rfl rfl (Nat.le_of_ble_eq_true rfl) (by decide) ⟨by decide, by decide⟩ (fun z_21 σ_21 hz_21 => ?_)
       obtain ⟨rfl, rfl⟩ := hz_21
       refine gx_callV hx (c_X9_tellValues (q := plc P p) _ _ hM y2) lkX9_69 mwX9_tellValues dX9_literal_24 (by decide) rfl rfl rfl rfl (Nat.le_of_ble_eq_true rfl) (by decide) ⟨by decide, by decide⟩ (fun σ_24 hz_24 => ?_)
       obtain ⟨hV1, hF1⟩ := hz_24
       refine gx_iload_n hx dX9_literal_27 rfl ?_
       refine gx_iconst hx dX9_literal_28 ?_
       refine gx_aload_n hx dX9_literal_29 rfl ?_
       refine gx_getI hx flX9_60 dX9_literal_30 (by decide) rfl rfl 11 rfl ?_
       rw [hV1.1]
       refine gx_iconst hx dX9_literal_33 ?_
       refine gx_isub hx dX9_literal_34 ?_
       refine gx_callS hx (c_X9_in (v := w) (lo := 0) (hi := ((vals P (plc P p)).length : Int) - 1) _ _ hw ⟨by decide, by decide⟩ ⟨by omega, by omega⟩) lkX9_49 mwX9_in dX9_literal_35 rfl rfl (Nat.le_of_ble_eq_true rfl) (by decide) ⟨by decide, by decide⟩ (fun z_35 σ_35 hz_35 => ?_)
       obtain ⟨e8, rfl⟩ := hz_35
       replace e8 := ite10 e8
       refine gx_if_eq (tgt := 54) hx dX9_literal_38 (by decide) ⟨by omega, by omega⟩ (fun h38 => ?_) (fun h38 => ?_)
       · first
         | (exfalso; omega)
         | (refine gx_aload_n hx dX9_literal_54 rfl ?_
            refine gx_iconst hx dX9_literal_55 ?_
            refine gx_callI hx (c_X9_fails _ _) lkX9_93 mwX9_fails dX9_literal_56 (by decide) rfl rfl rfl rfl (Nat.le_of_ble_eq_true rfl) (by decide) ⟨by decide, by decide⟩ (fun z_56 σ_56 hz_56 => ?_)
            obtain ⟨rfl, rfl⟩ := hz_56
            refine hret _ _ _ _ _ _ _ (by decide) (by decide) dX9_literal_59 rfl rfl ?_
            first
            | exact ⟨0, (P, hs, sv, T, er), by show sp_lit q_val (P, hs, sv, T, er) (p : Int) (n : Int) = _; rw [sp_lit, if_neg (by omega), Int.toNat_natCast, if_neg (by omega), Int.toNat_natCast]; rfl, MZ.q hR hF1.S1 0 0 rfl⟩
            | exact ⟨1, (P, hs, sv, T, er), by show sp_lit q_val (P, hs, sv, T, er) (p : Int) w = _; rw [sp_lit, if_neg (by omega), Int.toNat_natCast, if_pos (by omega)], MZ.q hR hF1.S1 1 1 rfl⟩)
       · first
         | (exfalso; omega)
         | (obtain ⟨n, rfl⟩ : ∃ n : Nat, w = (n : Int) := ⟨w.toNat, by omega⟩
            have hvn := (hV1.2 n (by omega)).1
            refine gx_aload_n hx dX9_literal_41 rfl ?_
            refine gx_aload_n hx dX9_literal_42 rfl ?_
            refine gx_getR hx flX9_30 dX9_literal_43 (by decide) rfl rfl ?_
            refine gx_iload_n hx dX9_literal_46 rfl ?_
            refine gx_iald hx dX9_literal_47 (by decide) rfl (by omega) (by omega) (by decide) ?_
            rw [hvn]
            refine gx_callI hx (c_X9_done _ _) lkX9_90 mwX9_done dX9_literal_48 (by decide) rfl rfl rfl rfl (Nat.le_of_ble_eq_true rfl) (by decide) ⟨by decide, by decide⟩ (fun z_48 σ_48 hz_48 => ?_)
            obtain ⟨rfl, rfl⟩ := hz_48
            refine gx_goto (tgt := 59) hx dX9_literal_51 (by decide) ?_
            refine hret _ _ _ _ _ _ _ (by decide) (by decide) dX9_literal_59 rfl rfl ?_
            first
            | exact ⟨0, (P, hs, sv, T, er), by show sp_lit q_val (P, hs, sv, T, er) (p : Int) (n : Int) = _; rw [sp_lit, if_neg (by omega), Int.toNat_natCast, if_neg (by omega), Int.toNat_natCast]; rfl, MZ.q hR hF1.S1 0 0 rfl⟩
            | exact ⟨1, (P, hs, sv, T, er), by show sp_lit q_val (P, hs, sv, T, er) (p : Int) w = _; rw [sp_lit, if_neg (by omega), Int.toNat_natCast, if_pos (by omega)], MZ.q hR hF1.S1 1 1 rfl⟩))
  · first
    | (exfalso; omega)
    | (refine gx_aload_n hx dX9_literal_12 rfl ?_
       refine gx_iconst hx dX9_literal_13 ?_
       refine gx_callI hx (c_X9_fails _ _) lkX9_93 mwX9_fails dX9_literal_14 (by decide) rfl rfl rfl rfl (Nat.le_of_ble_eq_true rfl) (by decide) ⟨by decide, by decide⟩ (fun z_14 σ_14 hz_14 => ?_)
       obtain ⟨rfl, rfl⟩ := hz_14
       refine hret _ _ _ _ _ _ _ (by decide) (by decide) dX9_literal_17 rfl rfl ?_
       exact ⟨1, (P, hs, sv, T, er), by show sp_lit q_val (P, hs, sv, T, er) z w = _; rw [sp_lit, if_pos (by omega)], MZ.q hR FR.refl 1 1 rfl⟩)
set_option maxRecDepth 20000 in
set_option maxHeartbeats 400000 in
theorem c_X9_literalAddress (g : Gm) (l : Launch) {σ : Sg} {A : AS} {z w : Int} (hR : MR σ A) (hz : rg z) (hw : rg w) : KI g l yX9_literalAddress cX9_literalAddress 4 ((some .int)) (5) 0 0 [.inr 70, .inl z, .inl w] σ (MPI (fn (sp_lit q_lad A z w)) σ) := by
  refine startI (own := RX9) (by decide +kernel) rfl (Nat.le_of_ble_eq_true rfl) ?_
  intro X hx _ _ hret
  obtain ⟨P, hs, sv, T, er⟩ := A
  obtain ⟨hM, hH, hS, hT, he1, he2, he3, hN⟩ := id hR
  obtain ⟨hok, hn, hit⟩ := id hM
  have hl40 := hok.1
  obtain ⟨hz1, hz2⟩ := id hz
  obtain ⟨hw1, hw2⟩ := id hw
  refine gx_iload_n hx dX9_literalAddress_0 rfl ?_
  refine gx_iconst hx dX9_literalAddress_1 ?_
  refine gx_aload_n hx dX9_literalAddress_2 rfl ?_
  refine gx_callI hx (c_X9_pools _ _ hM) lkX9_202 mwX9_pools dX9_literalAddress_3 (by decide) rfl rfl rfl rfl (Nat.le_of_ble_eq_true rfl) (by decide) ⟨by decide, by decide⟩ (fun z_3 σ_3 hz_3 => ?_)
  obtain ⟨rfl, rfl⟩ := hz_3
  have hpl := pno_le P P.length
  refine gx_callS hx (c_X9_in (v := z) (lo := 0) (hi := (pno P P.length : Int)) _ _ hz ⟨by decide, by decide⟩ ⟨by omega, by omega⟩) lkX9_49 mwX9_in dX9_literalAddress_6 rfl rfl (Nat.le_of_ble_eq_true rfl) (by decide) ⟨by decide, by decide⟩ (fun z_6 σ_6 hz_6 => ?_)
  obtain ⟨e9, rfl⟩ := hz_6
  replace e9 := ite10 e9
  refine gx_if_ne (tgt := 18) hx dX9_literalAddress_9 (by decide) ⟨by omega, by omega⟩ (fun h9 => ?_) (fun h9 => ?_)
  · first
    | (exfalso; omega)
    | (obtain ⟨p, rfl⟩ : ∃ p : Nat, z = (p : Int) := ⟨z.toNat, by omega⟩
       obtain ⟨y1, y2, y3⟩ := plc_spec (P := P) p (by omega)
       have hvl := vals_le hok y2
       have hvt := fun k hk => vals_lt hok (i := plc P p) (k := k) hk
       refine gx_aload_n hx dX9_literalAddress_18 rfl ?_
       refine gx_callV hx (c_X9_lays _ _ hM) lkX9_143 mwX9_lays dX9_literalAddress_19 (by decide) rfl rfl rfl rfl (Nat.le_of_ble_eq_true rfl) (by decide) ⟨by decide, by decide⟩ (fun σ_19 hz_19 => ?_)
       obtain ⟨hY1, hF1⟩ := hz_19
       have hM1 := hM.fr hF1 rfl
       refine gx_aload_n hx dX9_literalAddress_22 rfl ?_
       refine gx_iload_n hx dX9_literalAddress_23 rfl ?_
       refine gx_callI hx (c_X9_placeOf (p := p) _ _ hM1 (by omega)) lkX9_205 mwX9_placeOf dX9_literalAddress_24 (by decide) rfl rfl rfl rfl (Nat.le_of_ble_eq_true rfl) (by decide) ⟨by decide, by decide⟩ (fun z_24 σ_24 hz_24 => ?_)
       obtain ⟨rfl, rfl⟩ := hz_24
       refine gx_istore_n hx dX9_literalAddress_27 (Nat.le_of_ble_eq_true rfl) ?_
       refine gx_aload_n hx dX9_literalAddress_28 rfl ?_
       refine gx_iload_n hx dX9_literalAddress_29 rfl ?_
       refine gx_callV hx (c_X9_tellValues (q := plc P p) _ _ hM1 y2) lkX9_69 mwX9_tellValues dX9_literalAddress_30 (by decide) rfl rfl rfl rfl (Nat.le_of_ble_eq_true rfl) (by decide) ⟨by decide, by decide⟩ (fun σ_30 hz_30 => ?_)
       obtain ⟨hV2, hF2⟩ := hz_30
       have hY2 := hY1.fr hF2 rfl
       have hab := aPb hok y2
       refine gx_iload_n hx dX9_literalAddress_33 rfl ?_
       refine gx_iconst hx dX9_literalAddress_34 ?_
       refine gx_aload_n hx dX9_literalAddress_35 rfl ?_
       refine gx_getI hx flX9_60 dX9_literalAddress_36 (by decide) rfl rfl 11 rfl ?_
       rw [hV2.1]
       refine gx_iconst hx dX9_literalAddress_39 ?_
       refine gx_isub hx dX9_literalAddress_40 ?_
       refine gx_callS hx (c_X9_in (v := w) (lo := 0) (hi := ((vals P (plc P p)).length : Int) - 1) _ _ hw ⟨by decide, by decide⟩ ⟨by omega, by omega⟩) lkX9_49 mwX9_in dX9_literalAddress_41 rfl rfl (Nat.le_of_ble_eq_true rfl) (by decide) ⟨by decide, by decide⟩ (fun z_41 σ_41 hz_41 => ?_)
       obtain ⟨e8, rfl⟩ := hz_41
       replace e8 := ite10 e8
       refine gx_if_eq (tgt := 68) hx dX9_literalAddress_44 (by decide) ⟨by omega, by omega⟩ (fun h44 => ?_) (fun h44 => ?_)
       · first
         | (exfalso; omega)
         | (refine gx_aload_n hx dX9_literalAddress_68 rfl ?_
            refine gx_iconst hx dX9_literalAddress_69 ?_
            refine gx_callI hx (c_X9_fails _ _) lkX9_93 mwX9_fails dX9_literalAddress_70 (by decide) rfl rfl rfl rfl (Nat.le_of_ble_eq_true rfl) (by decide) ⟨by decide, by decide⟩ (fun z_70 σ_70 hz_70 => ?_)
            obtain ⟨rfl, rfl⟩ := hz_70
            refine hret _ _ _ _ _ _ _ (by decide) (by decide) dX9_literalAddress_73 rfl rfl ?_
            first
            | exact ⟨0, (P, hs, sv, T, er), by show sp_lit q_lad (P, hs, sv, T, er) (p : Int) (n : Int) = _; rw [sp_lit, if_neg (by omega), Int.toNat_natCast, if_neg (by omega), Int.toNat_natCast], MZ.q hR (hF1.S2.trans hF2.S1) 0 0 rfl⟩
            | exact ⟨1, (P, hs, sv, T, er), by show sp_lit q_lad (P, hs, sv, T, er) (p : Int) w = _; rw [sp_lit, if_neg (by omega), Int.toNat_natCast, if_pos (by omega)], MZ.q hR (hF1.S2.trans hF2.S1) 1 1 rfl⟩)
       · first
         | (exfalso; omega)
         | (obtain ⟨n, rfl⟩ : ∃ n : Nat, w = (n : Int) := ⟨w.toNat, by omega⟩
            refine gx_aload_n hx dX9_literalAddress_47 rfl ?_
            refine gx_aload_n hx dX9_literalAddress_48 rfl ?_
            refine gx_getR hx flX9_27 dX9_literalAddress_49 (by decide) rfl rfl ?_
            refine gx_iload_n hx dX9_literalAddress_52 rfl ?_
            refine gx_iald hx dX9_literalAddress_53 (by decide) rfl (by omega) (by omega) (by decide) ?_
            rw [hY2 _ y2]
            refine gx_iconst hx dX9_literalAddress_54 ?_
            refine gx_callS hx (c_X9_upTo (a := aP P (plc P p)) (u := 4) _ _ (by omega) (by decide) (by decide)) lkX9_73 mwX9_upTo dX9_literalAddress_55 rfl rfl (Nat.le_of_ble_eq_true rfl) (by decide) ⟨by decide, by decide⟩ (fun z_55 σ_55 hz_55 => ?_)
            obtain ⟨rfl, rfl⟩ := hz_55
            refine gx_iconst hx dX9_literalAddress_58 ?_
            refine gx_iload_n hx dX9_literalAddress_59 rfl ?_
            refine gx_imul hx dX9_literalAddress_60 ?_
            refine gx_iadd hx dX9_literalAddress_61 ?_
            rw [show ((aP P (plc P p) + gap (aP P (plc P p)) 4 : Nat) : Int) + 4 * (n : Int) = q_lad P (plc P p) n by unfold q_lad lad; rw [Nat.add_zero]; omega]
            refine gx_callI hx (c_X9_done _ _) lkX9_90 mwX9_done dX9_literalAddress_62 (by decide) rfl rfl rfl rfl (Nat.le_of_ble_eq_true rfl) (by decide) ⟨by decide, by decide⟩ (fun z_62 σ_62 hz_62 => ?_)
            obtain ⟨rfl, rfl⟩ := hz_62
            refine gx_goto (tgt := 73) hx dX9_literalAddress_65 (by decide) ?_
            refine hret _ _ _ _ _ _ _ (by decide) (by decide) dX9_literalAddress_73 rfl rfl ?_
            first
            | exact ⟨0, (P, hs, sv, T, er), by show sp_lit q_lad (P, hs, sv, T, er) (p : Int) (n : Int) = _; rw [sp_lit, if_neg (by omega), Int.toNat_natCast, if_neg (by omega), Int.toNat_natCast], MZ.q hR (hF1.S2.trans hF2.S1) 0 0 rfl⟩
            | exact ⟨1, (P, hs, sv, T, er), by show sp_lit q_lad (P, hs, sv, T, er) (p : Int) w = _; rw [sp_lit, if_neg (by omega), Int.toNat_natCast, if_pos (by omega)], MZ.q hR (hF1.S2.trans hF2.S1) 1 1 rfl⟩))
  · first
    | (exfalso; omega)
    | (refine gx_aload_n hx dX9_literalAddress_12 rfl ?_
       refine gx_iconst hx dX9_literalAddress_13 ?_
       refine gx_callI hx (c_X9_fails _ _) lkX9_93 mwX9_fails dX9_literalAddress_14 (by decide) rfl rfl rfl rfl (Nat.le_of_ble_eq_true rfl) (by decide) ⟨by decide, by decide⟩ (fun z_14 σ_14 hz_14 => ?_)
       obtain ⟨rfl, rfl⟩ := hz_14
       refine hret _ _ _ _ _ _ _ (by decide) (by decide) dX9_literalAddress_17 rfl rfl ?_
       exact ⟨1, (P, hs, sv, T, er), by show sp_lit q_lad (P, hs, sv, T, er) z w = _; rw [sp_lit, if_pos (by omega)], MZ.q hR FR.refl 1 1 rfl⟩)
set_option maxRecDepth 20000 in
set_option maxHeartbeats 400000 in
theorem c_X9_poolOf (g : Gm) (l : Launch) {σ : Sg} {A : AS} {z : Int} (hR : MR σ A) (hz : rg z) : KI g l yX9_poolOf cX9_poolOf 5 ((some .int)) (3) 0 0 [.inr 70, .inl z] σ (MPI (fn (sp_ld q_pno A z)) σ) := by
  refine startI (own := RX9) (by decide +kernel) rfl (Nat.le_of_ble_eq_true rfl) ?_
  intro X hx _ _ hret
  obtain ⟨P, hs, sv, T, er⟩ := A
  obtain ⟨hM, hH, hS, hT, he1, he2, he3, hN⟩ := id hR
  obtain ⟨hok, hn, hit⟩ := id hM
  have hl40 := hok.1
  obtain ⟨hz1, hz2⟩ := id hz
  refine gx_aload_n hx dX9_poolOf_0 rfl ?_
  refine gx_iload_n hx dX9_poolOf_1 rfl ?_
  refine gx_callI hx (c_X9_lacksLoad _ _ hM hz) lkX9_208 mwX9_lacksLoad dX9_poolOf_2 (by decide) rfl rfl rfl rfl (Nat.le_of_ble_eq_true rfl) (by decide) ⟨by decide, by decide⟩ (fun z_2 σ_2 hz_2 => ?_)
  obtain ⟨e9, rfl⟩ := hz_2
  have e8 : 0 ≤ z_2 ∧ z_2 ≤ 2 := by
    rcases e9 with ⟨a, _⟩ | ⟨i, _, _, h⟩
    · omega
    · omega
  refine gx_istore_n hx dX9_poolOf_5 (Nat.le_of_ble_eq_true rfl) ?_
  refine gx_iload_n hx dX9_poolOf_6 rfl ?_
  refine gx_if_eq (tgt := 16) hx dX9_poolOf_7 (by decide) ⟨by omega, by omega⟩ (fun h7 => ?_) (fun h7 => ?_)
  · first
    | (exfalso; omega)
    | (obtain ⟨i, rfl, hi, h6⟩ : ∃ i : Nat, z = (i : Int) ∧ i < P.length ∧ kd P i = 6 := by
         rcases e9 with ⟨a, _⟩ | ⟨i, h1, h2, h⟩
         · omega
         · exact ⟨i, h1, h2, by omega⟩
       have hin : inI P (i : Int) := by omega
       refine gx_iconst hx dX9_poolOf_16 ?_
       refine gx_istore_n hx dX9_poolOf_17 (Nat.le_of_ble_eq_true rfl) ?_
       refine gx_iconst hx dX9_poolOf_18 ?_
       refine gx_istore hx dX9_poolOf_19 (Nat.le_of_ble_eq_true rfl) ?_
       refine gx_loop (α := Nat) (fun j => j ≤ i) (fun j => i - j) (fun j => [some (.inr 70), some (.inl (i : Int)), some (.inl z_2), some (.inl (pno P j : Int)), some (.inl (j : Int))]) (fun _ => []) (fun _ => σ) ?_ 0 (Nat.zero_le _)
       intro j hj ih
       have hcl := pno_le P j
       have hrj := hM.rg j
       refine gx_iload hx dX9_poolOf_21 rfl ?_
       refine gx_iload_n hx dX9_poolOf_23 rfl ?_
       refine gx_icmp_ge (tgt := 52) hx dX9_poolOf_24 (by decide) ⟨by omega, by omega⟩ ⟨by omega, by omega⟩ (fun h24 => ?_) (fun h24 => ?_)
       · first
         | (exfalso; omega)
         | (refine gx_aload_n hx dX9_poolOf_52 rfl ?_
            refine gx_iload_n hx dX9_poolOf_53 rfl ?_
            refine gx_callI hx (c_X9_done _ _) lkX9_90 mwX9_done dX9_poolOf_54 (by decide) rfl rfl rfl rfl (Nat.le_of_ble_eq_true rfl) (by decide) ⟨by decide, by decide⟩ (fun z_54 σ_54 hz_54 => ?_)
            obtain ⟨rfl, rfl⟩ := hz_54
            refine hret _ _ _ _ _ _ _ (by decide) (by decide) dX9_poolOf_57 rfl rfl ?_
            have ej : j = i := by omega
            subst ej
            exact ⟨0, (P, hs, sv, T, er), by show sp_ld q_pno (P, hs, sv, T, er) (j : Int) = _; rw [sp_ld, if_neg (fun h9 => h9 hin), Int.toNat_natCast, if_neg (by omega), q_pno], MZ.q hR FR.refl 0 0 rfl⟩)
       · first
         | (exfalso; omega)
         | (refine gx_iload_n hx dX9_poolOf_27 rfl ?_
            refine gx_aload_n hx dX9_poolOf_28 rfl ?_
            refine gx_iload hx dX9_poolOf_29 rfl ?_
            refine gx_callI hx (c_X9_kind (i := j) _ _ hM (by omega)) lkX9_53 mwX9_kind dX9_poolOf_31 (by decide) rfl rfl rfl rfl (Nat.le_of_ble_eq_true rfl) (by decide) ⟨by decide, by decide⟩ (fun z_31 σ_31 hz_31 => ?_)
            obtain ⟨rfl, rfl⟩ := hz_31
            refine gx_bipush hx dX9_poolOf_34 (by decide) ?_
            refine gx_icmp_ne (tgt := 43) hx dX9_poolOf_36 (by decide) ⟨by omega, by omega⟩ ⟨by omega, by omega⟩ (fun h36 => ?_) (fun h36 => ?_)
            · first
              | (exfalso; omega)
              | (refine gx_iconst hx dX9_poolOf_43 ?_
                 refine gx_iadd hx dX9_poolOf_44 ?_
                 refine gx_istore_n hx dX9_poolOf_45 (Nat.le_of_ble_eq_true rfl) ?_
                 refine gx_iinc hx dX9_poolOf_46 (Nat.le_of_ble_eq_true rfl) rfl ?_
                 refine gx_goto (tgt := 21) hx dX9_poolOf_49 (by decide) ?_
                 refine GJ.cong ?_ rfl rfl (ih (j + 1) (by omega) (by omega))
                 first
                 | (rw [show ((pno P (j + 1) : Nat) : Int) = (pno P j : Int) + 1 by rw [pno, if_pos (by omega)]; omega]; rfl)
                 | (rw [show ((pno P (j + 1) : Nat) : Int) = (pno P j : Int) + 0 by rw [pno, if_neg (by omega)]; omega]; rfl))
            · first
              | (exfalso; omega)
              | (refine gx_iconst hx dX9_poolOf_39 ?_
                 refine gx_goto (tgt := 44) hx dX9_poolOf_40 (by decide) ?_
                 refine gx_iadd hx dX9_poolOf_44 ?_
                 refine gx_istore_n hx dX9_poolOf_45 (Nat.le_of_ble_eq_true rfl) ?_
                 refine gx_iinc hx dX9_poolOf_46 (Nat.le_of_ble_eq_true rfl) rfl ?_
                 refine gx_goto (tgt := 21) hx dX9_poolOf_49 (by decide) ?_
                 refine GJ.cong ?_ rfl rfl (ih (j + 1) (by omega) (by omega))
                 first
                 | (rw [show ((pno P (j + 1) : Nat) : Int) = (pno P j : Int) + 1 by rw [pno, if_pos (by omega)]; omega]; rfl)
                 | (rw [show ((pno P (j + 1) : Nat) : Int) = (pno P j : Int) + 0 by rw [pno, if_neg (by omega)]; omega]; rfl))))
  · first
    | (exfalso; omega)
    | (refine gx_aload_n hx dX9_poolOf_10 rfl ?_
       refine gx_iload_n hx dX9_poolOf_11 rfl ?_
       refine gx_callI hx (c_X9_fails _ _) lkX9_93 mwX9_fails dX9_poolOf_12 (by decide) rfl rfl rfl rfl (Nat.le_of_ble_eq_true rfl) (by decide) ⟨by decide, by decide⟩ (fun z_12 σ_12 hz_12 => ?_)
       obtain ⟨rfl, rfl⟩ := hz_12
       refine hret _ _ _ _ _ _ _ (by decide) (by decide) dX9_poolOf_15 rfl rfl ?_
       rcases e9 with ⟨a, b⟩ | ⟨i, rfl, h2, h⟩
       · exact ⟨1, (P, hs, sv, T, er), by show sp_ld q_pno (P, hs, sv, T, er) z = _; rw [sp_ld, if_pos b], MZ.q hR FR.refl 1 _ (by omega)⟩
       · exact ⟨2, (P, hs, sv, T, er), by show sp_ld q_pno (P, hs, sv, T, er) (i : Int) = _; rw [sp_ld, if_neg (by omega), Int.toNat_natCast, if_pos (by omega)], MZ.q hR FR.refl 2 _ (by omega)⟩)
set_option maxRecDepth 20000 in
set_option maxHeartbeats 400000 in
theorem c_X9_distance (g : Gm) (l : Launch) {σ : Sg} {A : AS} {z : Int} (hR : MR σ A) (hz : rg z) : KI g l yX9_distance cX9_distance 3 ((some .int)) (5) 0 0 [.inr 70, .inl z] σ (MPI (fn (sp_ld q_dst A z)) σ) := by
  refine startI (own := RX9) (by decide +kernel) rfl (Nat.le_of_ble_eq_true rfl) ?_
  intro X hx _ _ hret
  obtain ⟨P, hs, sv, T, er⟩ := A
  obtain ⟨hM, hH, hS, hT, he1, he2, he3, hN⟩ := id hR
  obtain ⟨hok, hn, hit⟩ := id hM
  have hl40 := hok.1
  obtain ⟨hz1, hz2⟩ := id hz
  refine gx_aload_n hx dX9_distance_0 rfl ?_
  refine gx_iload_n hx dX9_distance_1 rfl ?_
  refine gx_callI hx (c_X9_lacksLoad _ _ hM hz) lkX9_208 mwX9_lacksLoad dX9_distance_2 (by decide) rfl rfl rfl rfl (Nat.le_of_ble_eq_true rfl) (by decide) ⟨by decide, by decide⟩ (fun z_2 σ_2 hz_2 => ?_)
  obtain ⟨e9, rfl⟩ := hz_2
  have e8 : 0 ≤ z_2 ∧ z_2 ≤ 2 := by
    rcases e9 with ⟨a, _⟩ | ⟨i, _, _, h⟩
    · omega
    · omega
  refine gx_istore_n hx dX9_distance_5 (Nat.le_of_ble_eq_true rfl) ?_
  refine gx_iload_n hx dX9_distance_6 rfl ?_
  refine gx_if_eq (tgt := 16) hx dX9_distance_7 (by decide) ⟨by omega, by omega⟩ (fun h7 => ?_) (fun h7 => ?_)
  · first
    | (exfalso; omega)
    | (obtain ⟨i, rfl, hi, h6⟩ : ∃ i : Nat, z = (i : Int) ∧ i < P.length ∧ kd P i = 6 := by
         rcases e9 with ⟨a, _⟩ | ⟨i, h1, h2, h⟩
         · omega
         · exact ⟨i, h1, h2, by omega⟩
       have hin : inI P (i : Int) := by omega
       refine gx_aload_n hx dX9_distance_16 rfl ?_
       refine gx_callV hx (c_X9_lays _ _ hM) lkX9_143 mwX9_lays dX9_distance_17 (by decide) rfl rfl rfl rfl (Nat.le_of_ble_eq_true rfl) (by decide) ⟨by decide, by decide⟩ (fun σ_17 hz_17 => ?_)
       obtain ⟨hY1, hF1⟩ := hz_17
       have hM1 := hM.fr hF1 rfl
       refine gx_aload_n hx dX9_distance_20 rfl ?_
       refine gx_aload_n hx dX9_distance_21 rfl ?_
       refine gx_iload_n hx dX9_distance_22 rfl ?_
       refine gx_iconst hx dX9_distance_23 ?_
       refine gx_callI hx (c_X9_far (i := i) (m := 0) _ _ hM1 hY1 hi h6 (by decide)) lkX9_214 mwX9_far dX9_distance_24 (by decide) rfl rfl rfl rfl (Nat.le_of_ble_eq_true rfl) (by decide) ⟨by decide, by decide⟩ (fun z_24 σ_24 hz_24 => ?_)
       obtain ⟨rfl, hF2⟩ := hz_24
       refine gx_callI hx (c_X9_done _ _) lkX9_90 mwX9_done dX9_distance_27 (by decide) rfl rfl rfl rfl (Nat.le_of_ble_eq_true rfl) (by decide) ⟨by decide, by decide⟩ (fun z_27 σ_27 hz_27 => ?_)
       obtain ⟨rfl, rfl⟩ := hz_27
       refine hret _ _ _ _ _ _ _ (by decide) (by decide) dX9_distance_30 rfl rfl ?_
       exact ⟨0, (P, hs, sv, T, er), by show sp_ld q_dst (P, hs, sv, T, er) (i : Int) = _; rw [sp_ld, if_neg (fun h9 => h9 hin), Int.toNat_natCast, if_neg (by omega), q_dst], MZ.q hR (hF1.S2.trans hF2.S1) 0 0 rfl⟩)
  · first
    | (exfalso; omega)
    | (refine gx_aload_n hx dX9_distance_10 rfl ?_
       refine gx_iload_n hx dX9_distance_11 rfl ?_
       refine gx_callI hx (c_X9_fails _ _) lkX9_93 mwX9_fails dX9_distance_12 (by decide) rfl rfl rfl rfl (Nat.le_of_ble_eq_true rfl) (by decide) ⟨by decide, by decide⟩ (fun z_12 σ_12 hz_12 => ?_)
       obtain ⟨rfl, rfl⟩ := hz_12
       refine hret _ _ _ _ _ _ _ (by decide) (by decide) dX9_distance_15 rfl rfl ?_
       rcases e9 with ⟨a, b⟩ | ⟨i, rfl, h2, h⟩
       · exact ⟨1, (P, hs, sv, T, er), by show sp_ld q_dst (P, hs, sv, T, er) z = _; rw [sp_ld, if_pos b], MZ.q hR FR.refl 1 _ (by omega)⟩
       · exact ⟨2, (P, hs, sv, T, er), by show sp_ld q_dst (P, hs, sv, T, er) (i : Int) = _; rw [sp_ld, if_neg (by omega), Int.toNat_natCast, if_pos (by omega)], MZ.q hR FR.refl 2 _ (by omega)⟩)
set_option maxRecDepth 20000 in
set_option maxHeartbeats 400000 in
theorem c_X9_loadsOutOfReach (g : Gm) (l : Launch) {σ : Sg} {A : AS} (hR : MR σ A) : KI g l yX9_loadsOutOfReach cX9_loadsOutOfReach 3 ((some .int)) (5) 0 0 [.inr 70] σ (MPI (fn (sp_loads A)) σ) := by
  refine startI (own := RX9) (by decide +kernel) rfl (Nat.le_of_ble_eq_true rfl) ?_
  intro X hx _ _ hret
  obtain ⟨P, hs, sv, T, er⟩ := A
  obtain ⟨hM, hH, hS, hT, he1, he2, he3, hN⟩ := id hR
  obtain ⟨hok, hn, hit⟩ := id hM
  have hl40 := hok.1
  refine gx_aload_n hx dX9_loadsOutOfReach_0 rfl ?_
  refine gx_callV hx (c_X9_lays _ _ hM) lkX9_143 mwX9_lays dX9_loadsOutOfReach_1 (by decide) rfl rfl rfl rfl (Nat.le_of_ble_eq_true rfl) (by decide) ⟨by decide, by decide⟩ (fun σ_1 hz_1 => ?_)
  obtain ⟨hY1, hF1⟩ := hz_1
  have hM1 := hM.fr hF1 rfl
  refine gx_iconst hx dX9_loadsOutOfReach_4 ?_
  refine gx_istore_n hx dX9_loadsOutOfReach_5 (Nat.le_of_ble_eq_true rfl) ?_
  refine gx_iconst hx dX9_loadsOutOfReach_6 ?_
  refine gx_istore_n hx dX9_loadsOutOfReach_7 (Nat.le_of_ble_eq_true rfl) ?_
  refine gx_loop (α := Nat × Sg) (fun x => x.1 ≤ P.length ∧ FR σ_1 x.2 c1 f1) (fun x => P.length - x.1) (fun x => [some (.inr 70), some (.inl (cnt (fun i => decide (kd P i = 6 ∧ 60 < dst P i 0)) x.1 : Int)), some (.inl (x.1 : Int))]) (fun _ => []) (fun x => x.2) ?_ (0, σ_1) ⟨Nat.zero_le _, FR.refl⟩
  rintro ⟨i, τ⟩ ⟨hin, hF2⟩ ih
  dsimp only at hin hF2 ih ⊢
  have hM2 := hM1.fr hF2 rfl
  have hY2 := hY1.fr hF2 rfl
  have hri := hM.rg i
  have hcl := cnt_le (fun i => decide (kd P i = 6 ∧ 60 < dst P i 0)) i
  refine gx_iload_n hx dX9_loadsOutOfReach_8 rfl ?_
  refine gx_aload_n hx dX9_loadsOutOfReach_9 rfl ?_
  refine gx_getR hx flX9_7 dX9_loadsOutOfReach_10 (by decide) rfl rfl ?_
  refine gx_iconst hx dX9_loadsOutOfReach_13 ?_
  refine gx_iald hx dX9_loadsOutOfReach_14 (by decide) rfl (by omega) (by omega) (by decide) ?_
  rw [hM2.2.1]
  refine gx_icmp_ge (tgt := 53) hx dX9_loadsOutOfReach_15 (by decide) ⟨by omega, by omega⟩ ⟨by omega, by omega⟩ (fun h15 => ?_) (fun h15 => ?_)
  · first
    | (exfalso; omega)
    | (refine gx_aload_n hx dX9_loadsOutOfReach_53 rfl ?_
       refine gx_iload_n hx dX9_loadsOutOfReach_54 rfl ?_
       refine gx_callI hx (c_X9_done _ _) lkX9_90 mwX9_done dX9_loadsOutOfReach_55 (by decide) rfl rfl rfl rfl (Nat.le_of_ble_eq_true rfl) (by decide) ⟨by decide, by decide⟩ (fun z_55 σ_55 hz_55 => ?_)
       obtain ⟨rfl, rfl⟩ := hz_55
       refine hret _ _ _ _ _ _ _ (by decide) (by decide) dX9_loadsOutOfReach_58 rfl rfl ?_
       have ei : i = P.length := by omega
       subst ei
       exact ⟨0, (P, hs, sv, T, er), rfl, MZ.q hR (hF1.S2.trans hF2.S1) 0 0 rfl⟩)
  · first
    | (exfalso; omega)
    | (refine gx_iload_n hx dX9_loadsOutOfReach_18 rfl ?_
       refine gx_aload_n hx dX9_loadsOutOfReach_19 rfl ?_
       refine gx_iload_n hx dX9_loadsOutOfReach_20 rfl ?_
       refine gx_callI hx (c_X9_kind (i := i) _ _ hM2 (by omega)) lkX9_53 mwX9_kind dX9_loadsOutOfReach_21 (by decide) rfl rfl rfl rfl (Nat.le_of_ble_eq_true rfl) (by decide) ⟨by decide, by decide⟩ (fun z_21 σ_21 hz_21 => ?_)
       obtain ⟨rfl, rfl⟩ := hz_21
       refine gx_bipush hx dX9_loadsOutOfReach_24 (by decide) ?_
       refine gx_icmp_ne (tgt := 44) hx dX9_loadsOutOfReach_26 (by decide) ⟨by omega, by omega⟩ ⟨by omega, by omega⟩ (fun h26 => ?_) (fun h26 => ?_)
       · first
         | (exfalso; omega)
         | (refine gx_iconst hx dX9_loadsOutOfReach_44 ?_
            refine gx_iadd hx dX9_loadsOutOfReach_45 ?_
            refine gx_istore_n hx dX9_loadsOutOfReach_46 (Nat.le_of_ble_eq_true rfl) ?_
            refine gx_iinc hx dX9_loadsOutOfReach_47 (Nat.le_of_ble_eq_true rfl) rfl ?_
            refine gx_goto (tgt := 8) hx dX9_loadsOutOfReach_50 (by decide) ?_
            first
            | (refine GJ.cong ?_ rfl rfl (ih (i + 1, σ_32) ⟨by omega, hF2.trans hF3⟩ (by dsimp only; omega))
               dsimp only
               first
               | (rw [cnt_s1 (p := (fun i => decide (kd P i = 6 ∧ 60 < dst P i 0))) (i := i) (by simp only [decide_eq_true_eq]; omega)]; rfl)
               | (rw [cnt_s0 (p := (fun i => decide (kd P i = 6 ∧ 60 < dst P i 0))) (i := i) (by simp only [decide_eq_false_iff_not]; omega)]; rfl))
            | (refine GJ.cong ?_ rfl rfl (ih (i + 1, τ) ⟨by omega, hF2⟩ (by dsimp only; omega))
               dsimp only
               rw [cnt_s0 (p := (fun i => decide (kd P i = 6 ∧ 60 < dst P i 0))) (i := i) (by simp only [decide_eq_false_iff_not]; omega)]; rfl))
       · first
         | (exfalso; omega)
         | (refine gx_aload_n hx dX9_loadsOutOfReach_29 rfl ?_
            refine gx_iload_n hx dX9_loadsOutOfReach_30 rfl ?_
            refine gx_iconst hx dX9_loadsOutOfReach_31 ?_
            refine gx_callI hx (c_X9_far (i := i) (m := 0) _ _ hM2 hY2 (by omega) (by omega) (by decide)) lkX9_214 mwX9_far dX9_loadsOutOfReach_32 (by decide) rfl rfl rfl rfl (Nat.le_of_ble_eq_true rfl) (by decide) ⟨by decide, by decide⟩ (fun z_32 σ_32 hz_32 => ?_)
            obtain ⟨rfl, hF3⟩ := hz_32
            have hdg := dst_rg hok (i := i) (m := 0) (by omega) (by decide)
            refine gx_bipush hx dX9_loadsOutOfReach_35 (by decide) ?_
            refine gx_icmp_le (tgt := 44) hx dX9_loadsOutOfReach_37 (by decide) ⟨by omega, by omega⟩ ⟨by omega, by omega⟩ (fun h37 => ?_) (fun h37 => ?_)
            · first
              | (exfalso; omega)
              | (refine gx_iconst hx dX9_loadsOutOfReach_44 ?_
                 refine gx_iadd hx dX9_loadsOutOfReach_45 ?_
                 refine gx_istore_n hx dX9_loadsOutOfReach_46 (Nat.le_of_ble_eq_true rfl) ?_
                 refine gx_iinc hx dX9_loadsOutOfReach_47 (Nat.le_of_ble_eq_true rfl) rfl ?_
                 refine gx_goto (tgt := 8) hx dX9_loadsOutOfReach_50 (by decide) ?_
                 first
                 | (refine GJ.cong ?_ rfl rfl (ih (i + 1, σ_32) ⟨by omega, hF2.trans hF3⟩ (by dsimp only; omega))
                    dsimp only
                    first
                    | (rw [cnt_s1 (p := (fun i => decide (kd P i = 6 ∧ 60 < dst P i 0))) (i := i) (by simp only [decide_eq_true_eq]; omega)]; rfl)
                    | (rw [cnt_s0 (p := (fun i => decide (kd P i = 6 ∧ 60 < dst P i 0))) (i := i) (by simp only [decide_eq_false_iff_not]; omega)]; rfl))
                 | (refine GJ.cong ?_ rfl rfl (ih (i + 1, τ) ⟨by omega, hF2⟩ (by dsimp only; omega))
                    dsimp only
                    rw [cnt_s0 (p := (fun i => decide (kd P i = 6 ∧ 60 < dst P i 0))) (i := i) (by simp only [decide_eq_false_iff_not]; omega)]; rfl))
            · first
              | (exfalso; omega)
              | (refine gx_iconst hx dX9_loadsOutOfReach_40 ?_
                 refine gx_goto (tgt := 45) hx dX9_loadsOutOfReach_41 (by decide) ?_
                 refine gx_iadd hx dX9_loadsOutOfReach_45 ?_
                 refine gx_istore_n hx dX9_loadsOutOfReach_46 (Nat.le_of_ble_eq_true rfl) ?_
                 refine gx_iinc hx dX9_loadsOutOfReach_47 (Nat.le_of_ble_eq_true rfl) rfl ?_
                 refine gx_goto (tgt := 8) hx dX9_loadsOutOfReach_50 (by decide) ?_
                 first
                 | (refine GJ.cong ?_ rfl rfl (ih (i + 1, σ_32) ⟨by omega, hF2.trans hF3⟩ (by dsimp only; omega))
                    dsimp only
                    first
                    | (rw [cnt_s1 (p := (fun i => decide (kd P i = 6 ∧ 60 < dst P i 0))) (i := i) (by simp only [decide_eq_true_eq]; omega)]; rfl)
                    | (rw [cnt_s0 (p := (fun i => decide (kd P i = 6 ∧ 60 < dst P i 0))) (i := i) (by simp only [decide_eq_false_iff_not]; omega)]; rfl))
                 | (refine GJ.cong ?_ rfl rfl (ih (i + 1, τ) ⟨by omega, hF2⟩ (by dsimp only; omega))
                    dsimp only
                    rw [cnt_s0 (p := (fun i => decide (kd P i = 6 ∧ 60 < dst P i 0))) (i := i) (by simp only [decide_eq_false_iff_not]; omega)]; rfl))))
set_option maxRecDepth 20000 in
set_option maxHeartbeats 400000 in
theorem c_X9_slack (g : Gm) (l : Launch) {σ : Sg} {A : AS} {z : Int} (hR : MR σ A) (hz : rg z) : KI g l yX9_slack cX9_slack 4 ((some .int)) (5) 0 0 [.inr 70, .inl z] σ (MPI (sp_slack A z) σ) := by
  refine startI (own := RX9) (by decide +kernel) rfl (Nat.le_of_ble_eq_true rfl) ?_
  intro X hx _ _ hret
  obtain ⟨P, hs, sv, T, er⟩ := A
  obtain ⟨hM, hH, hS, hT, he1, he2, he3, hN⟩ := id hR
  obtain ⟨hok, hn, hit⟩ := id hM
  have hl40 := hok.1
  obtain ⟨hz1, hz2⟩ := id hz
  refine gx_aload_n hx dX9_slack_0 rfl ?_
  refine gx_iload_n hx dX9_slack_1 rfl ?_
  refine gx_callI hx (c_X9_lacksLoad _ _ hM hz) lkX9_208 mwX9_lacksLoad dX9_slack_2 (by decide) rfl rfl rfl rfl (Nat.le_of_ble_eq_true rfl) (by decide) ⟨by decide, by decide⟩ (fun z_2 σ_2 hz_2 => ?_)
  obtain ⟨e9, rfl⟩ := hz_2
  have e8 : 0 ≤ z_2 ∧ z_2 ≤ 2 := by
    rcases e9 with ⟨a, _⟩ | ⟨i, _, _, h⟩
    · omega
    · omega
  refine gx_istore_n hx dX9_slack_5 (Nat.le_of_ble_eq_true rfl) ?_
  refine gx_iload_n hx dX9_slack_6 rfl ?_
  refine gx_if_eq (tgt := 16) hx dX9_slack_7 (by decide) ⟨by omega, by omega⟩ (fun h7 => ?_) (fun h7 => ?_)
  · first
    | (exfalso; omega)
    | (obtain ⟨i, rfl, hi, h6⟩ : ∃ i : Nat, z = (i : Int) ∧ i < P.length ∧ kd P i = 6 := by
         rcases e9 with ⟨a, _⟩ | ⟨i, h1, h2, h⟩
         · omega
         · exact ⟨i, h1, h2, by omega⟩
       have hin : inI P (i : Int) := by omega
       refine gx_aload_n hx dX9_slack_16 rfl ?_
       refine gx_callV hx (c_X9_lays _ _ hM) lkX9_143 mwX9_lays dX9_slack_17 (by decide) rfl rfl rfl rfl (Nat.le_of_ble_eq_true rfl) (by decide) ⟨by decide, by decide⟩ (fun σ_17 hz_17 => ?_)
       obtain ⟨hY1, hF1⟩ := hz_17
       have hM1 := hM.fr hF1 rfl
       refine gx_iconst hx dX9_slack_20 ?_
       refine gx_istore_n hx dX9_slack_21 (Nat.le_of_ble_eq_true rfl) ?_
       refine gx_loop (α := Nat × Sg) (fun x => x.1 ≤ 50 ∧ (x.1 = 0 ∨ dst P i x.1 ≤ 60) ∧ FR σ_17 x.2 c1 f1) (fun x => 50 - x.1) (fun x => [some (.inr 70), some (.inl (i : Int)), some (.inl z_2), some (.inl (x.1 : Int))]) (fun _ => []) (fun x => x.2) ?_ (0, σ_17) ⟨Nat.zero_le _, Or.inl rfl, FR.refl⟩
       rintro ⟨n, τ⟩ ⟨hn5, hn6, hF2⟩ ih
       dsimp only at hn5 hn6 hF2 ih ⊢
       have hM2 := hM1.fr hF2 rfl
       have hY2 := hY1.fr hF2 rfl
       refine gx_iload_n hx dX9_slack_22 rfl ?_
       refine gx_bipush hx dX9_slack_23 (by decide) ?_
       refine gx_icmp_ge (tgt := 47) hx dX9_slack_25 (by decide) ⟨by omega, by omega⟩ ⟨by omega, by omega⟩ (fun h25 => ?_) (fun h25 => ?_)
       · first
         | (exfalso; omega)
         | (refine gx_aload_n hx dX9_slack_47 rfl ?_
            refine gx_iload_n hx dX9_slack_48 rfl ?_
            refine gx_callI hx (c_X9_done _ _) lkX9_90 mwX9_done dX9_slack_49 (by decide) rfl rfl rfl rfl (Nat.le_of_ble_eq_true rfl) (by decide) ⟨by decide, by decide⟩ (fun z_49 σ_49 hz_49 => ?_)
            obtain ⟨rfl, rfl⟩ := hz_49
            refine hret _ _ _ _ _ _ _ (by decide) (by decide) dX9_slack_52 rfl rfl ?_
            first
            | exact ⟨0, (P, hs, sv, T, er), ⟨rfl, Or.inr (Or.inr ⟨hin, h6, rfl, n, rfl, hn5, hn6, fun q h1 h2 => by omega⟩)⟩, MZ.q hR (hF1.S2.trans hF2.S1) 0 0 rfl⟩
            | (exact ⟨0, (P, hs, sv, T, er), ⟨rfl, Or.inr (Or.inr ⟨hin, h6, rfl, n, rfl, hn5, hn6, fun q h1 h2 => by
                 have hmm := dst_mono (P := P) (i := i) (m := n + 1) (n := q) h1
                 rw [Int.toNat_natCast]
                 omega⟩)⟩, MZ.q hR (hF1.S2.trans (hF2.trans hF3).S1) 0 0 rfl⟩))
       · first
         | (exfalso; omega)
         | (refine gx_aload_n hx dX9_slack_28 rfl ?_
            refine gx_iload_n hx dX9_slack_29 rfl ?_
            refine gx_iload_n hx dX9_slack_30 rfl ?_
            refine gx_iconst hx dX9_slack_31 ?_
            refine gx_iadd hx dX9_slack_32 ?_
            rw [show (n : Int) + 1 = ((n + 1 : Nat) : Int) by omega]
            refine gx_callI hx (c_X9_far (i := i) (m := n + 1) _ _ hM2 hY2 hi h6 (by omega)) lkX9_214 mwX9_far dX9_slack_33 (by decide) rfl rfl rfl rfl (Nat.le_of_ble_eq_true rfl) (by decide) ⟨by decide, by decide⟩ (fun z_33 σ_33 hz_33 => ?_)
            obtain ⟨rfl, hF3⟩ := hz_33
            have hdg := dst_rg hok (i := i) (m := n + 1) hi (by omega)
            refine gx_bipush hx dX9_slack_36 (by decide) ?_
            refine gx_icmp_gt (tgt := 47) hx dX9_slack_38 (by decide) ⟨by omega, by omega⟩ ⟨by omega, by omega⟩ (fun h38 => ?_) (fun h38 => ?_)
            · first
              | (exfalso; omega)
              | (refine gx_aload_n hx dX9_slack_47 rfl ?_
                 refine gx_iload_n hx dX9_slack_48 rfl ?_
                 refine gx_callI hx (c_X9_done _ _) lkX9_90 mwX9_done dX9_slack_49 (by decide) rfl rfl rfl rfl (Nat.le_of_ble_eq_true rfl) (by decide) ⟨by decide, by decide⟩ (fun z_49 σ_49 hz_49 => ?_)
                 obtain ⟨rfl, rfl⟩ := hz_49
                 refine hret _ _ _ _ _ _ _ (by decide) (by decide) dX9_slack_52 rfl rfl ?_
                 first
                 | exact ⟨0, (P, hs, sv, T, er), ⟨rfl, Or.inr (Or.inr ⟨hin, h6, rfl, n, rfl, hn5, hn6, fun q h1 h2 => by omega⟩)⟩, MZ.q hR (hF1.S2.trans hF2.S1) 0 0 rfl⟩
                 | (exact ⟨0, (P, hs, sv, T, er), ⟨rfl, Or.inr (Or.inr ⟨hin, h6, rfl, n, rfl, hn5, hn6, fun q h1 h2 => by
                      have hmm := dst_mono (P := P) (i := i) (m := n + 1) (n := q) h1
                      rw [Int.toNat_natCast]
                      omega⟩)⟩, MZ.q hR (hF1.S2.trans (hF2.trans hF3).S1) 0 0 rfl⟩))
            · first
              | (exfalso; omega)
              | (refine gx_iinc hx dX9_slack_41 (Nat.le_of_ble_eq_true rfl) rfl ?_
                 refine gx_goto (tgt := 22) hx dX9_slack_44 (by decide) ?_
                 refine ih (n + 1, σ_33) ⟨by omega, Or.inr (by dsimp only; omega), hF2.trans hF3⟩ (by dsimp only; omega))))
  · first
    | (exfalso; omega)
    | (refine gx_aload_n hx dX9_slack_10 rfl ?_
       refine gx_iload_n hx dX9_slack_11 rfl ?_
       refine gx_callI hx (c_X9_fails _ _) lkX9_93 mwX9_fails dX9_slack_12 (by decide) rfl rfl rfl rfl (Nat.le_of_ble_eq_true rfl) (by decide) ⟨by decide, by decide⟩ (fun z_12 σ_12 hz_12 => ?_)
       obtain ⟨rfl, rfl⟩ := hz_12
       refine hret _ _ _ _ _ _ _ (by decide) (by decide) dX9_slack_15 rfl rfl ?_
       rcases e9 with ⟨a, b⟩ | ⟨i, rfl, h2, h⟩
       · exact ⟨1, (P, hs, sv, T, er), ⟨rfl, Or.inl ⟨b, rfl, rfl⟩⟩, MZ.q hR FR.refl 1 _ (by omega)⟩
       · exact ⟨2, (P, hs, sv, T, er), ⟨rfl, Or.inr (Or.inl ⟨by omega, by rw [Int.toNat_natCast]; omega, rfl, rfl⟩)⟩, MZ.q hR FR.refl 2 _ (by omega)⟩)
