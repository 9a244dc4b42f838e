/-! BranchRelaxer: its calls -/
set_option maxRecDepth 20000 in
set_option maxHeartbeats 400000 in
theorem c_X8_reset (g : Gm) (l : Launch) {σ : Sg} {A : AS} (hC : CR σ A) : KI g l yX8_reset cX8_reset 2 ((some .int)) (1) 0 0 [.inr 69] σ (SPI (fn (sp_reset A)) σ) := by
  refine startI (own := RX8) (by decide +kernel) rfl (Nat.le_of_ble_eq_true rfl) ?_
  intro X hx _ _ hret
  obtain ⟨P, hs, sv, T, er⟩ := A
  obtain ⟨hP, hH, hS, hT, hM, he1, he2, he3⟩ := id hC
  have hl40 := hP.1.1
  refine gx_aload_n hx dX8_reset_0 rfl ?_
  refine gx_getR hx flX8_12 dX8_reset_1 (by decide) rfl rfl ?_
  refine gx_callI hx (c_X6_count (j := 0) (P := P) _ _ (by decide) hP) lkX8_84 mwX6_count dX8_reset_4 (by decide) rfl rfl rfl rfl (Nat.le_of_ble_eq_true rfl) (by decide) ⟨by decide, by decide⟩ (fun z_4 σ_4 hz_4 => ?_)
  obtain ⟨rfl, rfl⟩ := hz_4
  refine gx_istore_n hx dX8_reset_7 (Nat.le_of_ble_eq_true rfl) ?_
  refine gx_aload_n hx dX8_reset_8 rfl ?_
  refine gx_getR hx flX8_12 dX8_reset_9 (by decide) rfl rfl ?_
  refine gx_callV hx (c_X6_clear (j := 0) (P := P) _ _ (by decide) hP) lkX8_88 mwX6_clear dX8_reset_12 (by decide) rfl rfl rfl rfl (Nat.le_of_ble_eq_true rfl) (by decide) ⟨by decide, by decide⟩ (fun σ_12 hz_12 => ?_)
  obtain ⟨hP1, hs1⟩ := hz_12
  refine gx_aload_n hx dX8_reset_15 rfl ?_
  refine gx_getR hx flX8_22 dX8_reset_16 (by decide) rfl rfl ?_
  refine gx_callV hx (c_X2_forget (hs := hs) _ _ (hH.so (fun k _ _ => hs1 k (by omega)))) lkX8_91 mwX2_forget dX8_reset_19 (by decide) rfl rfl rfl rfl (Nat.le_of_ble_eq_true rfl) (by decide) ⟨by decide, by decide⟩ (fun σ_19 hz_19 => ?_)
  obtain ⟨hH2, hs2⟩ := hz_19
  refine gx_iload_n hx dX8_reset_22 rfl ?_
  refine hret _ _ _ _ _ _ _ (by decide) (by decide) dX8_reset_23 rfl rfl ?_
  exact ⟨([], [], sv, T, er), rfl, hC.change (hP1.so hs2 (by decide)) hH2 (fun k hk => (hs2 k (by omega)).trans (hs1 k (by omega)))⟩
set_option maxRecDepth 20000 in
set_option maxHeartbeats 400000 in
theorem c_X8_itemCount (g : Gm) (l : Launch) {σ : Sg} {A : AS} (hC : CR σ A) : KI g l yX8_itemCount cX8_itemCount 1 ((some .int)) (1) 0 0 [.inr 69] σ (SPI (fn (sp_itemCount A)) σ) := by
  refine startI (own := RX8) (by decide +kernel) rfl (Nat.le_of_ble_eq_true rfl) ?_
  intro X hx _ _ hret
  obtain ⟨P, hs, sv, T, er⟩ := A
  obtain ⟨hP, hH, hS, hT, hM, he1, he2, he3⟩ := id hC
  have hl40 := hP.1.1
  refine gx_aload_n hx dX8_itemCount_0 rfl ?_
  refine gx_getR hx flX8_12 dX8_itemCount_1 (by decide) rfl rfl ?_
  refine gx_callI hx (c_X6_count (j := 0) (P := P) _ _ (by decide) hP) lkX8_84 mwX6_count dX8_itemCount_4 (by decide) rfl rfl rfl rfl (Nat.le_of_ble_eq_true rfl) (by decide) ⟨by decide, by decide⟩ (fun z_4 σ_4 hz_4 => ?_)
  obtain ⟨rfl, rfl⟩ := hz_4
  refine hret _ _ _ _ _ _ _ (by decide) (by decide) dX8_itemCount_7 rfl rfl ?_
  exact ⟨_, rfl, hC.refl⟩
set_option maxRecDepth 20000 in
set_option maxHeartbeats 400000 in
theorem c_X8_append (g : Gm) (l : Launch) {σ : Sg} {A : AS} {c : Nat} (hl : l.stackTraces = false) (hC : CR σ A) (hc : c < 65536) : KXI g l yX8_append cX8_append 2 ((some .int)) (2) 1 6 [.inr 69, .inl (c : Int)] σ (SPI (fn (sp_append A c)) σ) (SPX (fn (sp_append A c)) σ [exIAE, exISE]) := by
  refine startXI hl (own := RX8) (by decide +kernel) rfl (Nat.le_of_ble_eq_true rfl) ?_
  intro X hx _ hXl hret hq
  rw [← hXl] at hl
  obtain ⟨P, hs, sv, T, er⟩ := A
  obtain ⟨hP, hH, hS, hT, hM, he1, he2, he3⟩ := id hC
  have hl40 := hP.1.1
  refine gx_iload_n hx dX8_append_0 rfl ?_
  refine gx_bipush hx dX8_append_1 (by decide) ?_
  refine gx_icmp_lt (tgt := 12) hx dX8_append_3 (by decide) ⟨by omega, by omega⟩ ⟨by omega, by omega⟩ (fun h3 => ?_) (fun h3 => ?_)
  · first
    | (exfalso; omega)
    | (refine gx_throw 9 hx hq excIAE (by decide) rfl dX8_append_12 dX8_append_15 dX8_append_16 dX8_append_18 dX8_append_21 (Nat.le_of_ble_eq_true rfl) (by decide) (by decide) ?_
       exact ⟨0, (P, hs, sv, T, er), by show sp_append (P, hs, sv, T, er) c = _; rw [sp_append, if_pos (by omega)], rfl, hC.refl⟩)
  · first
    | (exfalso; omega)
    | (refine gx_iload_n hx dX8_append_6 rfl ?_
       refine gx_bipush hx dX8_append_7 (by decide) ?_
       refine gx_icmp_le (tgt := 22) hx dX8_append_9 (by decide) ⟨by omega, by omega⟩ ⟨by omega, by omega⟩ (fun h9 => ?_) (fun h9 => ?_)
       · first
         | (exfalso; omega)
         | (refine gx_aload_n hx dX8_append_22 rfl ?_
            refine gx_getR hx flX8_29 dX8_append_23 (by decide) rfl rfl ?_
            refine gx_callI hx (c_X3_isFull _ _ hT) lkX8_101 mwX3_isFull dX8_append_26 (by decide) rfl rfl rfl rfl (Nat.le_of_ble_eq_true rfl) (by decide) ⟨by decide, by decide⟩ (fun z_26 σ_26 hz_26 => ?_)
            obtain ⟨e9, rfl⟩ := hz_26
            have e8 := ite10 e9
            refine gx_if_eq (tgt := 42) hx dX8_append_29 (by decide) ⟨by omega, by omega⟩ (fun h29 => ?_) (fun h29 => ?_)
            · first
              | (exfalso; omega)
              | (refine gx_aload_n hx dX8_append_42 rfl ?_
                 refine gx_getR hx flX8_29 dX8_append_43 (by decide) rfl rfl ?_
                 refine gx_iload_n hx dX8_append_46 rfl ?_
                 refine gx_callI hx (c_X3_add (c := c) _ _ hT (by have := hT.1; omega) (by omega)) lkX8_110 mwX3_add dX8_append_47 (by decide) rfl rfl rfl rfl (Nat.le_of_ble_eq_true rfl) (by decide) ⟨by decide, by decide⟩ (fun z_47 σ_47 hz_47 => ?_)
                 obtain ⟨rfl, hT1, hs1⟩ := hz_47
                 refine hret _ _ _ _ _ _ _ (by decide) (by decide) dX8_append_50 rfl rfl ?_
                 exact ⟨(P, hs, sv, T ++ [c], er), by show sp_append (P, hs, sv, T, er) c = _; rw [sp_append, if_neg (by omega), if_neg (by omega)], hC.text hT1 (fun k hk => hs1 k (by omega))⟩)
            · first
              | (exfalso; omega)
              | (refine gx_throw 10 hx hq excISE (by decide) rfl dX8_append_32 dX8_append_35 dX8_append_36 dX8_append_38 dX8_append_41 (Nat.le_of_ble_eq_true rfl) (by decide) (by decide) ?_
                 exact ⟨1, (P, hs, sv, T, er), by show sp_append (P, hs, sv, T, er) c = _; rw [sp_append, if_neg (by omega), if_pos (by omega)], rfl, hC.refl⟩))
       · first
         | (exfalso; omega)
         | (refine gx_throw 9 hx hq excIAE (by decide) rfl dX8_append_12 dX8_append_15 dX8_append_16 dX8_append_18 dX8_append_21 (Nat.le_of_ble_eq_true rfl) (by decide) (by decide) ?_
            exact ⟨0, (P, hs, sv, T, er), by show sp_append (P, hs, sv, T, er) c = _; rw [sp_append, if_pos (by omega)], rfl, hC.refl⟩))
set_option maxRecDepth 20000 in
set_option maxHeartbeats 400000 in
theorem c_X8_errorPosition (g : Gm) (l : Launch) {σ : Sg} {A : AS} (hl : l.stackTraces = false) (hC : CR σ A) : KXI g l yX8_errorPosition cX8_errorPosition 1 ((some .int)) (1) 1 6 [.inr 69] σ (SPI (fn (sp_errorPosition A)) σ) (SPX (fn (sp_errorPosition A)) σ [nsN]) := by
  refine startXI hl (own := RX8) (by decide +kernel) rfl (Nat.le_of_ble_eq_true rfl) ?_
  intro X hx _ hXl hret hq
  rw [← hXl] at hl
  obtain ⟨P, hs, sv, T, er⟩ := A
  obtain ⟨hP, hH, hS, hT, hM, he1, he2, he3⟩ := id hC
  have hl40 := hP.1.1
  refine gx_aload_n hx dX8_errorPosition_0 rfl ?_
  refine gx_getI hx flX8_80 dX8_errorPosition_1 (by decide) rfl rfl 10 rfl ?_
  rw [he1]
  refine gx_iconst hx dX8_errorPosition_4 ?_
  refine gx_icmp_ne (tgt := 18) hx dX8_errorPosition_5 (by decide) ⟨by omega, by omega⟩ ⟨by omega, by omega⟩ (fun h5 => ?_) (fun h5 => ?_)
  · first
    | (exfalso; omega)
    | (refine gx_aload_n hx dX8_errorPosition_18 rfl ?_
       refine gx_getI hx flX8_80 dX8_errorPosition_19 (by decide) rfl rfl 10 rfl ?_
       rw [he1]
       refine hret _ _ _ _ _ _ _ (by decide) (by decide) dX8_errorPosition_22 rfl rfl ?_
       exact ⟨(P, hs, sv, T, er), by show sp_errorPosition (P, hs, sv, T, er) = _; rw [sp_errorPosition, if_neg (by omega)], hC.refl⟩)
  · first
    | (exfalso; omega)
    | (refine gx_throwN 15 hx hq (by decide) rfl dX8_errorPosition_8 dX8_errorPosition_11 dX8_errorPosition_12 dX8_errorPosition_14 dX8_errorPosition_17 (Nat.le_of_ble_eq_true rfl) (by decide) (by decide) ?_
       exact ⟨0, (P, hs, sv, T, er), by show sp_errorPosition (P, hs, sv, T, er) = _; rw [sp_errorPosition, if_pos (by omega)], rfl, hC.refl⟩)
set_option maxRecDepth 20000 in
set_option maxHeartbeats 400000 in
theorem c_X8_remove (g : Gm) (l : Launch) {σ : Sg} {A : AS} {z : Int} (hl : l.stackTraces = false) (hC : CR σ A) (hz : rg z) : KXI g l yX8_remove cX8_remove 2 ((some .int)) (2) 1 6 [.inr 69, .inl z] σ (SPI (fn (sp_remove A z)) σ) (SPX (fn (sp_remove A z)) σ [exIOE]) := by
  refine startXI hl (own := RX8) (by decide +kernel) rfl (Nat.le_of_ble_eq_true rfl) ?_
  intro X hx _ hXl hret hq
  rw [← hXl] at hl
  obtain ⟨P, hs, sv, T, er⟩ := A
  obtain ⟨hP, hH, hS, hT, hM, he1, he2, he3⟩ := id hC
  have hl40 := hP.1.1
  obtain ⟨hz1, hz2⟩ := id hz
  refine gx_aload_n hx dX8_remove_0 rfl ?_
  refine gx_iload_n hx dX8_remove_1 rfl ?_
  refine gx_callXV hx hq (c_X8_requireItem _ _ hl hP hz) lkX8_161 mwX8_requireItem dX8_remove_2 (by decide) rfl rfl rfl rfl (Nat.le_of_ble_eq_true rfl) (by decide) ⟨by decide, by decide⟩ (fun E σ9 h => by obtain ⟨rfl, h2, rfl⟩ := h; exact ⟨0, (P, hs, sv, T, er), by show sp_remove (P, hs, sv, T, er) z = _; rw [sp_remove, if_pos h2], rfl, hC.refl⟩) (fun σ_2 hz_2 => ?_)
  obtain ⟨hin, rfl⟩ := hz_2
  obtain ⟨i, rfl⟩ : ∃ i : Nat, z = (i : Int) := ⟨z.toNat, by omega⟩
  have hi : i < P.length := by omega
  refine gx_aload_n hx dX8_remove_5 rfl ?_
  refine gx_getR hx flX8_22 dX8_remove_6 (by decide) rfl rfl ?_
  refine gx_aload_n hx dX8_remove_9 rfl ?_
  refine gx_getR hx flX8_12 dX8_remove_10 (by decide) rfl rfl ?_
  refine gx_callV hx (c_X2_remember (hs := hs) (P := P) _ _ hH hP) lkX8_149 mwX2_remember dX8_remove_13 (by decide) rfl rfl rfl rfl (Nat.le_of_ble_eq_true rfl) (by decide) ⟨by decide, by decide⟩ (fun σ_13 hz_13 => ?_)
  obtain ⟨hH1, hs1⟩ := hz_13
  have hP1 := hP.so hs1 (by decide)
  refine gx_aload_n hx dX8_remove_16 rfl ?_
  refine gx_getR hx flX8_12 dX8_remove_17 (by decide) rfl rfl ?_
  refine gx_iload_n hx dX8_remove_20 rfl ?_
  refine gx_callV hx (c_X6_takeOut (j := 0) (P := P) _ _ (by decide) hP1 hi) lkX8_165 mwX6_takeOut dX8_remove_21 (by decide) rfl rfl rfl rfl (Nat.le_of_ble_eq_true rfl) (by decide) ⟨by decide, by decide⟩ (fun σ_21 hz_21 => ?_)
  obtain ⟨hP2, hs2⟩ := hz_21
  refine gx_aload_n hx dX8_remove_24 rfl ?_
  refine gx_getR hx flX8_12 dX8_remove_25 (by decide) rfl rfl ?_
  refine gx_callI hx (c_X6_count (j := 0) (P := P.eraseIdx i) _ _ (by decide) hP2) lkX8_84 mwX6_count dX8_remove_28 (by decide) rfl rfl rfl rfl (Nat.le_of_ble_eq_true rfl) (by decide) ⟨by decide, by decide⟩ (fun z_28 σ_28 hz_28 => ?_)
  obtain ⟨rfl, rfl⟩ := hz_28
  refine hret _ _ _ _ _ _ _ (by decide) (by decide) dX8_remove_31 rfl rfl ?_
  rw [show ((P.eraseIdx i).length : Int) = (P.length : Int) - 1 by rw [era_len hi]; omega]
  exact ⟨(P.eraseIdx i, psh P hs, sv, T, er), by show sp_remove (P, hs, sv, T, er) (i : Int) = _; rw [sp_remove, if_neg (fun h9 => h9 hin), Int.toNat_natCast], hC.change hP2 (hH1.so (fun k _ _ => hs2 k (by omega))) (fun k hk => (hs2 k (by omega)).trans (hs1 k (by omega)))⟩
set_option maxRecDepth 20000 in
set_option maxHeartbeats 400000 in
theorem c_X8_move (g : Gm) (l : Launch) {σ : Sg} {A : AS} {z w : Int} (hl : l.stackTraces = false) (hC : CR σ A) (hz : rg z) (hw : rg w) : KXI g l yX8_move cX8_move 6 ((some .int)) (2) 2 12 [.inr 69, .inl z, .inl w] σ (SPI (fn (sp_move A z w)) σ) (SPX (fn (sp_move A z w)) σ [exIOE]) := by
  refine startXI hl (own := RX8) (by decide +kernel) rfl (Nat.le_of_ble_eq_true rfl) ?_
  intro X hx _ hXl hret hq
  rw [← hXl] at hl
  obtain ⟨P, hs, sv, T, er⟩ := A
  obtain ⟨hP, hH, hS, hT, hM, he1, he2, he3⟩ := id hC
  have hl40 := hP.1.1
  obtain ⟨hz1, hz2⟩ := id hz
  obtain ⟨hw1, hw2⟩ := id hw
  refine gx_aload_n hx dX8_move_0 rfl ?_
  refine gx_iload_n hx dX8_move_1 rfl ?_
  refine gx_callXV hx hq (c_X8_requireItem _ _ hl hP hz) lkX8_161 mwX8_requireItem dX8_move_2 (by decide) rfl rfl rfl rfl (Nat.le_of_ble_eq_true rfl) (by decide) ⟨by decide, by decide⟩ (fun E σ9 h => by obtain ⟨rfl, h2, rfl⟩ := h; exact ⟨0, (P, hs, sv, T, er), by show sp_move (P, hs, sv, T, er) z w = _; rw [sp_move, if_pos h2], rfl, hC.refl⟩) (fun σ_2 hz_2 => ?_)
  obtain ⟨hin, rfl⟩ := hz_2
  obtain ⟨i, rfl⟩ : ∃ i : Nat, z = (i : Int) := ⟨z.toNat, by omega⟩
  have hi : i < P.length := by omega
  refine gx_aload_n hx dX8_move_5 rfl ?_
  refine gx_iload_n hx dX8_move_6 rfl ?_
  refine gx_callXV hx hq (c_X8_requireItem _ _ hl hP hw) lkX8_161 mwX8_requireItem dX8_move_7 (by decide) rfl rfl rfl rfl (Nat.le_of_ble_eq_true rfl) (by decide) ⟨by decide, by decide⟩ (fun E σ9 h => by obtain ⟨rfl, h2, rfl⟩ := h; exact ⟨0, (P, hs, sv, T, er), by show sp_move (P, hs, sv, T, er) (i : Int) w = _; rw [sp_move, if_neg (fun h9 => h9 hin), if_pos h2], rfl, hC.refl⟩) (fun σ_7 hz_7 => ?_)
  obtain ⟨hin2, rfl⟩ := hz_7
  obtain ⟨p, rfl⟩ : ∃ p : Nat, w = (p : Int) := ⟨w.toNat, by omega⟩
  have hp : p < P.length := by omega
  refine gx_aload_n hx dX8_move_10 rfl ?_
  refine gx_getR hx flX8_22 dX8_move_11 (by decide) rfl rfl ?_
  refine gx_aload_n hx dX8_move_14 rfl ?_
  refine gx_getR hx flX8_12 dX8_move_15 (by decide) rfl rfl ?_
  refine gx_callV hx (c_X2_remember (hs := hs) (P := P) _ _ hH hP) lkX8_149 mwX2_remember dX8_move_18 (by decide) rfl rfl rfl rfl (Nat.le_of_ble_eq_true rfl) (by decide) ⟨by decide, by decide⟩ (fun σ_18 hz_18 => ?_)
  obtain ⟨hH1, hs1⟩ := hz_18
  have hP1 := hP.so hs1 (by decide)
  refine gx_aload_n hx dX8_move_21 rfl ?_
  refine gx_getR hx flX8_12 dX8_move_22 (by decide) rfl rfl ?_
  refine gx_iload_n hx dX8_move_25 rfl ?_
  refine gx_callI hx (c_X6_kindAt (j := 0) (P := P) _ _ (by decide) hP1 hi) lkX8_168 mwX6_kindAt dX8_move_26 (by decide) rfl rfl rfl rfl (Nat.le_of_ble_eq_true rfl) (by decide) ⟨by decide, by decide⟩ (fun z_26 σ_26 hz_26 => ?_)
  obtain ⟨rfl, rfl⟩ := hz_26
  refine gx_istore_n hx dX8_move_29 (Nat.le_of_ble_eq_true rfl) ?_
  refine gx_aload_n hx dX8_move_30 rfl ?_
  refine gx_getR hx flX8_12 dX8_move_31 (by decide) rfl rfl ?_
  refine gx_iload_n hx dX8_move_34 rfl ?_
  refine gx_callI hx (c_X6_operandAt (j := 0) (P := P) _ _ (by decide) hP1 hi) lkX8_172 mwX6_operandAt dX8_move_35 (by decide) rfl rfl rfl rfl (Nat.le_of_ble_eq_true rfl) (by decide) ⟨by decide, by decide⟩ (fun z_35 σ_35 hz_35 => ?_)
  obtain ⟨rfl, rfl⟩ := hz_35
  refine gx_istore hx dX8_move_38 (Nat.le_of_ble_eq_true rfl) ?_
  refine gx_aload_n hx dX8_move_40 rfl ?_
  refine gx_getR hx flX8_12 dX8_move_41 (by decide) rfl rfl ?_
  refine gx_iload_n hx dX8_move_44 rfl ?_
  refine gx_callI hx (c_X6_formAt (j := 0) (P := P) _ _ (by decide) hP1 hi) lkX8_175 mwX6_formAt dX8_move_45 (by decide) rfl rfl rfl rfl (Nat.le_of_ble_eq_true rfl) (by decide) ⟨by decide, by decide⟩ (fun z_45 σ_45 hz_45 => ?_)
  obtain ⟨rfl, rfl⟩ := hz_45
  refine gx_istore hx dX8_move_48 (Nat.le_of_ble_eq_true rfl) ?_
  refine gx_aload_n hx dX8_move_50 rfl ?_
  refine gx_getR hx flX8_12 dX8_move_51 (by decide) rfl rfl ?_
  refine gx_iload_n hx dX8_move_54 rfl ?_
  refine gx_callV hx (c_X6_takeOut (j := 0) (P := P) _ _ (by decide) hP1 hi) lkX8_165 mwX6_takeOut dX8_move_55 (by decide) rfl rfl rfl rfl (Nat.le_of_ble_eq_true rfl) (by decide) ⟨by decide, by decide⟩ (fun σ_55 hz_55 => ?_)
  obtain ⟨hP2, hs2⟩ := hz_55
  refine gx_aload_n hx dX8_move_58 rfl ?_
  refine gx_getR hx flX8_12 dX8_move_59 (by decide) rfl rfl ?_
  refine gx_iload_n hx dX8_move_62 rfl ?_
  refine gx_iload_n hx dX8_move_63 rfl ?_
  refine gx_iload hx dX8_move_64 rfl ?_
  refine gx_iload hx dX8_move_66 rfl ?_
  refine gx_callV hx (c_X6_putAt (j := 0) (P := P.eraseIdx i) (p := p) _ _ (by decide) hP2 (by rw [era_len hi]; omega) (by rw [era_len hi]; omega) (hP.1.2.1 i) (era_lab hP.1 hi)) lkX8_152 mwX6_putAt dX8_move_68 (by decide) rfl rfl rfl rfl (Nat.le_of_ble_eq_true rfl) (by decide) ⟨by decide, by decide⟩ (fun σ_68 hz_68 => ?_)
  obtain ⟨hP3, hs3⟩ := hz_68
  refine gx_iload_n hx dX8_move_71 rfl ?_
  refine hret _ _ _ _ _ _ _ (by decide) (by decide) dX8_move_72 rfl rfl ?_
  exact ⟨(insA (P.eraseIdx i) p (kd P i, op P i, fm P i), psh P hs, sv, T, er), by show sp_move (P, hs, sv, T, er) (i : Int) (p : Int) = _; rw [sp_move, if_neg (fun h9 => h9 hin), if_neg (fun h9 => h9 hin2), Int.toNat_natCast, Int.toNat_natCast], hC.change hP3 (hH1.so (fun k _ _ => (hs3 k (by omega)).trans (hs2 k (by omega)))) (fun k hk => (hs3 k (by omega)).trans ((hs2 k (by omega)).trans (hs1 k (by omega))))⟩
set_option maxRecDepth 20000 in
set_option maxHeartbeats 400000 in
theorem c_X8_insert (g : Gm) (l : Launch) {σ : Sg} {A : AS} {z : Int} (hl : l.stackTraces = false) (hC : CR σ A) (hz : rg z) : KXI g l yX8_insert cX8_insert 4 ((some .int)) (6) 1 6 [.inr 69, .inl z] σ (SPI (fn (sp_insert A z)) σ) (SPX (fn (sp_insert A z)) σ [exIOE, exIAE, exISE]) := by
  refine startXI hl (own := RX8) (by decide +kernel) rfl (Nat.le_of_ble_eq_true rfl) ?_
  intro X hx _ hXl hret hq
  rw [← hXl] at hl
  obtain ⟨P, hs, sv, T, er⟩ := A
  obtain ⟨hP, hH, hS, hT, hM, he1, he2, he3⟩ := id hC
  have hl40 := hP.1.1
  obtain ⟨hz1, hz2⟩ := id hz
  have hkr := kR_rg T 8
  have hor := oR_rg T
  have her := eR_le T 8
  have hT12 := hT.1
  refine gx_aload_n hx dX8_insert_0 rfl ?_
  refine gx_getR hx flX8_29 dX8_insert_1 (by decide) rfl rfl ?_
  refine gx_callV hx (c_X3_read _ _ hT) lkX8_114 mwX3_read dX8_insert_4 (by decide) rfl rfl rfl rfl (Nat.le_of_ble_eq_true rfl) (by decide) ⟨by decide, by decide⟩ (fun σ_4 hz_4 => ?_)
  obtain ⟨hR, hT1, hs1⟩ := hz_4
  have hP1 := hP.so hs1 (by decide)
  have hCQ := hC.text hT1 (fun k hk => hs1 k (by omega))
  refine gx_iload_n hx dX8_insert_7 rfl ?_
  refine gx_if_lt (tgt := 22) hx dX8_insert_8 (by decide) ⟨by omega, by omega⟩ (fun h8 => ?_) (fun h8 => ?_)
  · first
    | (exfalso; omega)
    | (refine gx_throw 11 hx hq excIOE (by decide) rfl dX8_insert_22 dX8_insert_25 dX8_insert_26 dX8_insert_28 dX8_insert_31 (Nat.le_of_ble_eq_true rfl) (by decide) (by decide) ?_
       exact ⟨0, (P, hs, sv, [], er), by show sp_insert (P, hs, sv, T, er) z = _; rw [sp_insert, if_pos (by omega)], rfl, hCQ⟩)
  · first
    | (exfalso; omega)
    | (refine gx_iload_n hx dX8_insert_11 rfl ?_
       refine gx_aload_n hx dX8_insert_12 rfl ?_
       refine gx_getR hx flX8_12 dX8_insert_13 (by decide) rfl rfl ?_
       refine gx_callI hx (c_X6_count (j := 0) (P := P) _ _ (by decide) hP1) lkX8_84 mwX6_count dX8_insert_16 (by decide) rfl rfl rfl rfl (Nat.le_of_ble_eq_true rfl) (by decide) ⟨by decide, by decide⟩ (fun z_16 σ_16 hz_16 => ?_)
       obtain ⟨rfl, rfl⟩ := hz_16
       refine gx_icmp_le (tgt := 32) hx dX8_insert_19 (by decide) ⟨by omega, by omega⟩ ⟨by omega, by omega⟩ (fun h19 => ?_) (fun h19 => ?_)
       · first
         | (exfalso; omega)
         | (refine gx_aload_n hx dX8_insert_32 rfl ?_
            refine gx_getR hx flX8_29 dX8_insert_33 (by decide) rfl rfl ?_
            refine gx_callI hx (c_X3_isItem _ _ hR) lkX8_122 mwX3_isItem dX8_insert_36 (by decide) rfl rfl rfl rfl (Nat.le_of_ble_eq_true rfl) (by decide) ⟨by decide, by decide⟩ (fun z_36 σ_36 hz_36 => ?_)
            obtain ⟨e9, rfl⟩ := hz_36
            have e8 : (z_36 = 0 ∧ kR T 8 = -1) ∨ (z_36 = 1 ∧ kR T 8 ≠ -1) := by
              split at e9 <;> omega
            refine gx_if_ne (tgt := 63) hx dX8_insert_39 (by decide) ⟨by omega, by omega⟩ (fun h39 => ?_) (fun h39 => ?_)
            · first
              | (exfalso; omega)
              | (refine gx_aload_n hx dX8_insert_63 rfl ?_
                 refine gx_getR hx flX8_29 dX8_insert_64 (by decide) rfl rfl ?_
                 refine gx_callI hx (c_X3_kindRead _ _ hR) lkX8_130 mwX3_kindRead dX8_insert_67 (by decide) rfl rfl rfl rfl (Nat.le_of_ble_eq_true rfl) (by decide) ⟨by decide, by decide⟩ (fun z_67 σ_67 hz_67 => ?_)
                 obtain ⟨e9, rfl⟩ := hz_67
                 obtain ⟨k, hk⟩ : ∃ k : Nat, kR T 8 = (k : Int) := ⟨(kR T 8).toNat, by omega⟩
                 rw [hk] at e9
                 subst e9
                 refine gx_istore_n hx dX8_insert_70 (Nat.le_of_ble_eq_true rfl) ?_
                 refine gx_aload_n hx dX8_insert_71 rfl ?_
                 refine gx_getR hx flX8_29 dX8_insert_72 (by decide) rfl rfl ?_
                 refine gx_callI hx (c_X3_operandRead _ _ hR) lkX8_133 mwX3_operandRead dX8_insert_75 (by decide) rfl rfl rfl rfl (Nat.le_of_ble_eq_true rfl) (by decide) ⟨by decide, by decide⟩ (fun z_75 σ_75 hz_75 => ?_)
                 obtain ⟨e9, rfl⟩ := hz_75
                 obtain ⟨o, ho⟩ : ∃ o : Nat, oR T = (o : Int) := ⟨(oR T).toNat, by omega⟩
                 rw [ho] at e9
                 subst e9
                 refine gx_istore_n hx dX8_insert_78 (Nat.le_of_ble_eq_true rfl) ?_
                 refine gx_iload_n hx dX8_insert_79 rfl ?_
                 refine gx_iload_n hx dX8_insert_80 rfl ?_
                 refine gx_callS hx (c_X8_isOperand (k := k) (v := o) _ _ (by omega) (by omega)) lkX8_136 mwX8_isOperand dX8_insert_81 rfl rfl (Nat.le_of_ble_eq_true rfl) (by decide) ⟨by decide, by decide⟩ (fun z_81 σ_81 hz_81 => ?_)
                 obtain ⟨e7, rfl⟩ := hz_81
                 refine gx_if_ne (tgt := 97) hx dX8_insert_84 (by decide) ⟨by omega, by omega⟩ (fun h84 => ?_) (fun h84 => ?_)
                 · first
                   | (exfalso; omega)
                   | (refine gx_aload_n hx dX8_insert_97 rfl ?_
                      refine gx_getR hx flX8_12 dX8_insert_98 (by decide) rfl rfl ?_
                      refine gx_callI hx (c_X6_isFull (j := 0) (P := P) _ _ (by decide) hP1) lkX8_142 mwX6_isFull dX8_insert_101 (by decide) rfl rfl rfl rfl (Nat.le_of_ble_eq_true rfl) (by decide) ⟨by decide, by decide⟩ (fun z_101 σ_101 hz_101 => ?_)
                      obtain ⟨e5, rfl⟩ := hz_101
                      have e6 := ite10 e5
                      have hok : okI k o 0 := by
                        rcases e7 with ⟨_, h⟩ | ⟨h, _⟩
                        · exact h
                        · omega
                      have hokb : okB ((k : Int)).toNat ((o : Int)).toNat = true := (okB_iff k o).mpr hok
                      refine gx_if_ne (tgt := 123) hx dX8_insert_104 (by decide) ⟨by omega, by omega⟩ (fun h104 => ?_) (fun h104 => ?_)
                      · first
                        | (exfalso; omega)
                        | (refine gx_throw 14 hx hq excISE (by decide) rfl dX8_insert_123 dX8_insert_126 dX8_insert_127 dX8_insert_129 dX8_insert_132 (Nat.le_of_ble_eq_true rfl) (by decide) (by decide) ?_
                           have hor9 : P.length = 40 ∨ ((k : Int) = 2 ∧ dfn P ((o : Int)).toNat P.length ≠ -1) := by
                             first
                             | (left; omega)
                             | (refine Or.inr ⟨by omega, ?_⟩
                                rcases e4 with ⟨_, i, a, b, c⟩ | ⟨h, _⟩
                                · rcases e3 with ⟨_, e3⟩ | ⟨q, e3, _⟩
                                  · exact absurd ⟨b, c⟩ (e3 i a)
                                  · rw [Int.toNat_natCast, e3]; omega
                                · omega)
                           exact ⟨2, (P, hs, sv, [], er), by show sp_insert (P, hs, sv, T, er) z = _; rw [sp_insert, if_neg (by omega), if_neg (by omega), hk, ho, if_neg (by rw [hokb]; decide), if_pos hor9], rfl, hCQ⟩)
                      · first
                        | (exfalso; omega)
                        | (refine gx_iload_n hx dX8_insert_107 rfl ?_
                           refine gx_iconst hx dX8_insert_108 ?_
                           refine gx_icmp_ne (tgt := 133) hx dX8_insert_109 (by decide) ⟨by omega, by omega⟩ ⟨by omega, by omega⟩ (fun h109 => ?_) (fun h109 => ?_)
                           · first
                             | (exfalso; omega)
                             | (obtain ⟨p, rfl⟩ : ∃ p : Nat, z = (p : Int) := ⟨z.toNat, by omega⟩
                                refine gx_aload_n hx dX8_insert_133 rfl ?_
                                refine gx_getR hx flX8_22 dX8_insert_134 (by decide) rfl rfl ?_
                                refine gx_aload_n hx dX8_insert_137 rfl ?_
                                refine gx_getR hx flX8_12 dX8_insert_138 (by decide) rfl rfl ?_
                                refine gx_callV hx (c_X2_remember (hs := hs) (P := P) _ _ hCQ.1.2.1 hP1) lkX8_149 mwX2_remember dX8_insert_141 (by decide) rfl rfl rfl rfl (Nat.le_of_ble_eq_true rfl) (by decide) ⟨by decide, by decide⟩ (fun σ_141 hz_141 => ?_)
                                obtain ⟨hH2, hs2⟩ := hz_141
                                have hP2 := hP1.so hs2 (by decide)
                                have hnd : k = 2 → ∀ i, i < P.length → ¬ (kd P i = 2 ∧ op P i = o) := by
                                  intro hk2
                                  first
                                  | (exfalso; omega)
                                  | (rcases e4 with ⟨e4, _⟩ | ⟨_, e4⟩
                                     · exfalso; omega
                                     · exact e4)
                                refine gx_aload_n hx dX8_insert_144 rfl ?_
                                refine gx_getR hx flX8_12 dX8_insert_145 (by decide) rfl rfl ?_
                                refine gx_iload_n hx dX8_insert_148 rfl ?_
                                refine gx_iload_n hx dX8_insert_149 rfl ?_
                                refine gx_iload_n hx dX8_insert_150 rfl ?_
                                refine gx_iconst hx dX8_insert_151 ?_
                                refine gx_callV hx (c_X6_putAt (j := 0) (P := P) (p := p) (k := k) (o := o) (f := 0) _ _ (by decide) hP2 (by omega) (by omega) hok hnd) lkX8_152 mwX6_putAt dX8_insert_152 (by decide) rfl rfl rfl rfl (Nat.le_of_ble_eq_true rfl) (by decide) ⟨by decide, by decide⟩ (fun σ_152 hz_152 => ?_)
                                obtain ⟨hP3, hs3⟩ := hz_152
                                refine gx_iload_n hx dX8_insert_155 rfl ?_
                                refine hret _ _ _ _ _ _ _ (by decide) (by decide) dX8_insert_156 rfl rfl ?_
                                have hor9 : ¬ (P.length = 40 ∨ ((k : Int) = 2 ∧ dfn P ((o : Int)).toNat P.length ≠ -1)) := by
                                  rintro (h | ⟨h, h9⟩)
                                  · omega
                                  · rcases dfn_spec P o P.length with ⟨e3, _⟩ | ⟨q, e3, q1, q2, q3⟩
                                    · exact h9 e3
                                    · exact hnd (by omega) q q1 ⟨q2, q3⟩
                                exact ⟨(insA P p (k, o, 0), psh P hs, sv, [], er), by show sp_insert (P, hs, sv, T, er) (p : Int) = _; rw [sp_insert, if_neg (by omega), if_neg (by omega), hk, ho, if_neg (by rw [hokb]; decide), if_neg hor9, Int.toNat_natCast, Int.toNat_natCast, Int.toNat_natCast], CQ.trans hCQ.2 (hCQ.1.change hP3 (hH2.so (fun k _ _ => hs3 k (by omega))) (fun k hk => (hs3 k (by omega)).trans (hs2 k (by omega))))⟩)
                           · first
                             | (exfalso; omega)
                             | (refine gx_aload_n hx dX8_insert_112 rfl ?_
                                refine gx_getR hx flX8_12 dX8_insert_113 (by decide) rfl rfl ?_
                                refine gx_iload_n hx dX8_insert_116 rfl ?_
                                refine gx_callI hx (c_X6_defines (j := 0) (P := P) (lb := o) _ _ (by decide) hP1 (by omega)) lkX8_143 mwX6_defines dX8_insert_117 (by decide) rfl rfl rfl rfl (Nat.le_of_ble_eq_true rfl) (by decide) ⟨by decide, by decide⟩ (fun z_117 σ_117 hz_117 => ?_)
                                obtain ⟨e4, rfl⟩ := hz_117
                                have e3 := dfn_spec P o P.length
                                refine gx_if_eq (tgt := 133) hx dX8_insert_120 (by decide) ⟨by omega, by omega⟩ (fun h120 => ?_) (fun h120 => ?_)
                                · first
                                  | (exfalso; omega)
                                  | (obtain ⟨p, rfl⟩ : ∃ p : Nat, z = (p : Int) := ⟨z.toNat, by omega⟩
                                     refine gx_aload_n hx dX8_insert_133 rfl ?_
                                     refine gx_getR hx flX8_22 dX8_insert_134 (by decide) rfl rfl ?_
                                     refine gx_aload_n hx dX8_insert_137 rfl ?_
                                     refine gx_getR hx flX8_12 dX8_insert_138 (by decide) rfl rfl ?_
                                     refine gx_callV hx (c_X2_remember (hs := hs) (P := P) _ _ hCQ.1.2.1 hP1) lkX8_149 mwX2_remember dX8_insert_141 (by decide) rfl rfl rfl rfl (Nat.le_of_ble_eq_true rfl) (by decide) ⟨by decide, by decide⟩ (fun σ_141 hz_141 => ?_)
                                     obtain ⟨hH2, hs2⟩ := hz_141
                                     have hP2 := hP1.so hs2 (by decide)
                                     have hnd : k = 2 → ∀ i, i < P.length → ¬ (kd P i = 2 ∧ op P i = o) := by
                                       intro hk2
                                       first
                                       | (exfalso; omega)
                                       | (rcases e4 with ⟨e4, _⟩ | ⟨_, e4⟩
                                          · exfalso; omega
                                          · exact e4)
                                     refine gx_aload_n hx dX8_insert_144 rfl ?_
                                     refine gx_getR hx flX8_12 dX8_insert_145 (by decide) rfl rfl ?_
                                     refine gx_iload_n hx dX8_insert_148 rfl ?_
                                     refine gx_iload_n hx dX8_insert_149 rfl ?_
                                     refine gx_iload_n hx dX8_insert_150 rfl ?_
                                     refine gx_iconst hx dX8_insert_151 ?_
                                     refine gx_callV hx (c_X6_putAt (j := 0) (P := P) (p := p) (k := k) (o := o) (f := 0) _ _ (by decide) hP2 (by omega) (by omega) hok hnd) lkX8_152 mwX6_putAt dX8_insert_152 (by decide) rfl rfl rfl rfl (Nat.le_of_ble_eq_true rfl) (by decide) ⟨by decide, by decide⟩ (fun σ_152 hz_152 => ?_)
                                     obtain ⟨hP3, hs3⟩ := hz_152
                                     refine gx_iload_n hx dX8_insert_155 rfl ?_
                                     refine hret _ _ _ _ _ _ _ (by decide) (by decide) dX8_insert_156 rfl rfl ?_
                                     have hor9 : ¬ (P.length = 40 ∨ ((k : Int) = 2 ∧ dfn P ((o : Int)).toNat P.length ≠ -1)) := by
                                       rintro (h | ⟨h, h9⟩)
                                       · omega
                                       · rcases dfn_spec P o P.length with ⟨e3, _⟩ | ⟨q, e3, q1, q2, q3⟩
                                         · exact h9 e3
                                         · exact hnd (by omega) q q1 ⟨q2, q3⟩
                                     exact ⟨(insA P p (k, o, 0), psh P hs, sv, [], er), by show sp_insert (P, hs, sv, T, er) (p : Int) = _; rw [sp_insert, if_neg (by omega), if_neg (by omega), hk, ho, if_neg (by rw [hokb]; decide), if_neg hor9, Int.toNat_natCast, Int.toNat_natCast, Int.toNat_natCast], CQ.trans hCQ.2 (hCQ.1.change hP3 (hH2.so (fun k _ _ => hs3 k (by omega))) (fun k hk => (hs3 k (by omega)).trans (hs2 k (by omega))))⟩)
                                · first
                                  | (exfalso; omega)
                                  | (refine gx_throw 14 hx hq excISE (by decide) rfl dX8_insert_123 dX8_insert_126 dX8_insert_127 dX8_insert_129 dX8_insert_132 (Nat.le_of_ble_eq_true rfl) (by decide) (by decide) ?_
                                     have hor9 : P.length = 40 ∨ ((k : Int) = 2 ∧ dfn P ((o : Int)).toNat P.length ≠ -1) := by
                                       first
                                       | (left; omega)
                                       | (refine Or.inr ⟨by omega, ?_⟩
                                          rcases e4 with ⟨_, i, a, b, c⟩ | ⟨h, _⟩
                                          · rcases e3 with ⟨_, e3⟩ | ⟨q, e3, _⟩
                                            · exact absurd ⟨b, c⟩ (e3 i a)
                                            · rw [Int.toNat_natCast, e3]; omega
                                          · omega)
                                     exact ⟨2, (P, hs, sv, [], er), by show sp_insert (P, hs, sv, T, er) z = _; rw [sp_insert, if_neg (by omega), if_neg (by omega), hk, ho, if_neg (by rw [hokb]; decide), if_pos hor9], rfl, hCQ⟩))))
                 · first
                   | (exfalso; omega)
                   | (refine gx_throw 13 hx hq excIAE (by decide) rfl dX8_insert_87 dX8_insert_90 dX8_insert_91 dX8_insert_93 dX8_insert_96 (Nat.le_of_ble_eq_true rfl) (by decide) (by decide) ?_
                      exact ⟨1, (P, hs, sv, [], er), by show sp_insert (P, hs, sv, T, er) z = _; rw [sp_insert, if_neg (by omega), if_neg (by omega), hk, ho, if_pos (Bool.eq_false_iff.mpr (fun h9 => by have h8 := (okB_iff k o).mp h9; rcases e7 with ⟨a, _⟩ | ⟨_, b⟩; (omega); (exact b h8)))], rfl, hCQ⟩))
            · first
              | (exfalso; omega)
              | (refine gx_aload_n hx dX8_insert_42 rfl ?_
                 refine gx_aload_n hx dX8_insert_43 rfl ?_
                 refine gx_getR hx flX8_29 dX8_insert_44 (by decide) rfl rfl ?_
                 refine gx_callI hx (c_X3_errorIndex _ _ hR) lkX8_125 mwX3_errorIndex dX8_insert_47 (by decide) rfl rfl rfl rfl (Nat.le_of_ble_eq_true rfl) (by decide) ⟨by decide, by decide⟩ (fun z_47 σ_47 hz_47 => ?_)
                 obtain ⟨rfl, rfl⟩ := hz_47
                 refine gx_put hx fpX8_80 dX8_insert_50 (by decide) rfl rfl rfl rfl 10 rfl ?_
                 refine gx_throw 12 hx hq excIAE (by decide) rfl dX8_insert_53 dX8_insert_56 dX8_insert_57 dX8_insert_59 dX8_insert_62 (Nat.le_of_ble_eq_true rfl) (by decide) (by decide) ?_
                 exact ⟨1, (P, hs, sv, [], (eR T 8 : Int)), by show sp_insert (P, hs, sv, T, er) z = _; rw [sp_insert, if_neg (by omega), if_pos (by omega)], rfl, CQ.trans hCQ.2 (hCQ.1.err (by omega) (by omega))⟩))
       · first
         | (exfalso; omega)
         | (refine gx_throw 11 hx hq excIOE (by decide) rfl dX8_insert_22 dX8_insert_25 dX8_insert_26 dX8_insert_28 dX8_insert_31 (Nat.le_of_ble_eq_true rfl) (by decide) (by decide) ?_
            exact ⟨0, (P, hs, sv, [], er), by show sp_insert (P, hs, sv, T, er) z = _; rw [sp_insert, if_pos (by omega)], rfl, hCQ⟩))
