/-! BranchRelaxer: its questions -/
set_option maxRecDepth 20000 in
set_option maxHeartbeats 400000 in
theorem c_X8_item (g : Gm) (l : Launch) {σ : Sg} {A : AS} {z w : Int} (hl : l.stackTraces = false) (hC : CR σ A) (hz : rg z) (hw : rg w) : KXI g l yX8_item cX8_item 3 ((some .int)) (5) 2 12 [.inr 69, .inl z, .inl w] σ (SPI (fn (sp_item A z w)) σ) (SPX (fn (sp_item A z w)) σ [exIOE, exIAE]) := by
  refine startXI hl (own := RX8) (by decide +kernel) rfl (Nat.le_of_ble_eq_true rfl) ?_
  intro X hx _ hXl hret hq
  rw [← hXl] at hl
  obtain ⟨P, hs, sv, T, er⟩ := A
  obtain ⟨hP, hH, hS, hT, hM, he1, he2, he3⟩ := id hC
  have hl40 := hP.1.1
  obtain ⟨hz1, hz2⟩ := id hz
  obtain ⟨hw1, hw2⟩ := id hw
  refine gx_aload_n hx dX8_item_0 rfl ?_
  refine gx_iload_n hx dX8_item_1 rfl ?_
  refine gx_callXV hx hq (c_X8_requireItem _ _ hl hP hz) lkX8_161 mwX8_requireItem dX8_item_2 (by decide) rfl rfl rfl rfl (Nat.le_of_ble_eq_true rfl) (by decide) ⟨by decide, by decide⟩ (fun E σ9 h => by obtain ⟨rfl, h2, rfl⟩ := h; exact ⟨0, (P, hs, sv, T, er), by show sp_item (P, hs, sv, T, er) z w = _; rw [sp_item, if_pos h2], rfl, hC.refl⟩) (fun σ_2 hz_2 => ?_)
  obtain ⟨hin, rfl⟩ := hz_2
  obtain ⟨i, rfl⟩ : ∃ i : Nat, z = (i : Int) := ⟨z.toNat, by omega⟩
  have hi : i < P.length := by omega
  refine gx_iload_n hx dX8_item_5 rfl ?_
  rcases (show w = 0 ∨ w = 1 ∨ w = 2 ∨ w = 3 ∨ w = 4 ∨ (w < 0 ∨ 4 < w) by omega) with h | h | h | h | h | h
  · refine gx_tableIn (off := 34) (tgt := 40) hx dX8_item_6 ⟨by omega, by omega⟩ (by omega) (by omega) (by rw [h]; rfl) (by decide) ?_
    refine gx_aload_n hx dX8_item_40 rfl ?_
    refine gx_getR hx flX8_12 dX8_item_41 (by decide) rfl rfl ?_
    refine gx_iload_n hx dX8_item_44 rfl ?_
    refine gx_callI hx (c_X6_kindAt (j := 0) (P := P) _ _ (by decide) hP hi) lkX8_168 mwX6_kindAt dX8_item_45 (by decide) rfl rfl rfl rfl (Nat.le_of_ble_eq_true rfl) (by decide) ⟨by decide, by decide⟩ (fun z_45 σ_45 hz_45 => ?_)
    obtain ⟨rfl, rfl⟩ := hz_45
    refine hret _ _ _ _ _ _ _ (by decide) (by decide) dX8_item_48 rfl rfl ?_
    first
    | (subst h; exact ⟨(P, hs, sv, T, er), by show sp_item (P, hs, sv, T, er) (i : Int) _ = _; rw [sp_item, if_neg (fun h9 => h9 hin), if_neg (by omega), Int.toNat_natCast]; rfl, hC.refl⟩)
    | (subst h; exact ⟨(P, hs, sv, T, er), by show sp_item (P, hs, sv, T, er) (i : Int) _ = _; rw [sp_item, if_neg (fun h9 => h9 hin), if_neg (by omega), Int.toNat_natCast]; rfl, hQ1⟩)
  · refine gx_tableIn (off := 43) (tgt := 49) hx dX8_item_6 ⟨by omega, by omega⟩ (by omega) (by omega) (by rw [h]; rfl) (by decide) ?_
    refine gx_aload_n hx dX8_item_49 rfl ?_
    refine gx_getR hx flX8_12 dX8_item_50 (by decide) rfl rfl ?_
    refine gx_iload_n hx dX8_item_53 rfl ?_
    refine gx_callI hx (c_X6_operandAt (j := 0) (P := P) _ _ (by decide) hP hi) lkX8_172 mwX6_operandAt dX8_item_54 (by decide) rfl rfl rfl rfl (Nat.le_of_ble_eq_true rfl) (by decide) ⟨by decide, by decide⟩ (fun z_54 σ_54 hz_54 => ?_)
    obtain ⟨rfl, rfl⟩ := hz_54
    refine hret _ _ _ _ _ _ _ (by decide) (by decide) dX8_item_57 rfl rfl ?_
    first
    | (subst h; exact ⟨(P, hs, sv, T, er), by show sp_item (P, hs, sv, T, er) (i : Int) _ = _; rw [sp_item, if_neg (fun h9 => h9 hin), if_neg (by omega), Int.toNat_natCast]; rfl, hC.refl⟩)
    | (subst h; exact ⟨(P, hs, sv, T, er), by show sp_item (P, hs, sv, T, er) (i : Int) _ = _; rw [sp_item, if_neg (fun h9 => h9 hin), if_neg (by omega), Int.toNat_natCast]; rfl, hQ1⟩)
  · refine gx_tableIn (off := 52) (tgt := 58) hx dX8_item_6 ⟨by omega, by omega⟩ (by omega) (by omega) (by rw [h]; rfl) (by decide) ?_
    refine gx_aload_n hx dX8_item_58 rfl ?_
    refine gx_getR hx flX8_12 dX8_item_59 (by decide) rfl rfl ?_
    refine gx_iload_n hx dX8_item_62 rfl ?_
    refine gx_callI hx (c_X6_formAt (j := 0) (P := P) _ _ (by decide) hP hi) lkX8_175 mwX6_formAt dX8_item_63 (by decide) rfl rfl rfl rfl (Nat.le_of_ble_eq_true rfl) (by decide) ⟨by decide, by decide⟩ (fun z_63 σ_63 hz_63 => ?_)
    obtain ⟨rfl, rfl⟩ := hz_63
    refine hret _ _ _ _ _ _ _ (by decide) (by decide) dX8_item_66 rfl rfl ?_
    first
    | (subst h; exact ⟨(P, hs, sv, T, er), by show sp_item (P, hs, sv, T, er) (i : Int) _ = _; rw [sp_item, if_neg (fun h9 => h9 hin), if_neg (by omega), Int.toNat_natCast]; rfl, hC.refl⟩)
    | (subst h; exact ⟨(P, hs, sv, T, er), by show sp_item (P, hs, sv, T, er) (i : Int) _ = _; rw [sp_item, if_neg (fun h9 => h9 hin), if_neg (by omega), Int.toNat_natCast]; rfl, hQ1⟩)
  · refine gx_tableIn (off := 61) (tgt := 67) hx dX8_item_6 ⟨by omega, by omega⟩ (by omega) (by omega) (by rw [h]; rfl) (by decide) ?_
    refine gx_aload_n hx dX8_item_67 rfl ?_
    refine gx_callR hx (c_X8_freshLayout _ _ hP) lkX8_178 mwX8_freshLayout dX8_item_68 (by decide) rfl rfl rfl rfl (Nat.le_of_ble_eq_true rfl) (by decide) ⟨by decide, by decide⟩ (fun z_68 σ_68 hz_68 => ?_)
    obtain ⟨rfl, hL1, hY1, hs1⟩ := hz_68
    have hP1 := hP.so hs1 (by decide)
    have hQ1 := hC.so (hs1.mono (by decide) (by decide))
    refine gx_iload_n hx dX8_item_71 rfl ?_
    refine gx_callI hx (c_X4_sizeAt _ _ hP1 hY1 hi) lkX8_182 mwX4_sizeAt dX8_item_72 (by decide) rfl rfl rfl rfl (Nat.le_of_ble_eq_true rfl) (by decide) ⟨by decide, by decide⟩ (fun z_72 σ_72 hz_72 => ?_)
    obtain ⟨rfl, rfl⟩ := hz_72
    refine hret _ _ _ _ _ _ _ (by decide) (by decide) dX8_item_75 rfl rfl ?_
    first
    | (subst h; exact ⟨(P, hs, sv, T, er), by show sp_item (P, hs, sv, T, er) (i : Int) _ = _; rw [sp_item, if_neg (fun h9 => h9 hin), if_neg (by omega), Int.toNat_natCast]; rfl, hC.refl⟩)
    | (subst h; exact ⟨(P, hs, sv, T, er), by show sp_item (P, hs, sv, T, er) (i : Int) _ = _; rw [sp_item, if_neg (fun h9 => h9 hin), if_neg (by omega), Int.toNat_natCast]; rfl, hQ1⟩)
  · refine gx_tableIn (off := 70) (tgt := 76) hx dX8_item_6 ⟨by omega, by omega⟩ (by omega) (by omega) (by rw [h]; rfl) (by decide) ?_
    refine gx_aload_n hx dX8_item_76 rfl ?_
    refine gx_callR hx (c_X8_freshLayout _ _ hP) lkX8_178 mwX8_freshLayout dX8_item_77 (by decide) rfl rfl rfl rfl (Nat.le_of_ble_eq_true rfl) (by decide) ⟨by decide, by decide⟩ (fun z_77 σ_77 hz_77 => ?_)
    obtain ⟨rfl, hL1, hY1, hs1⟩ := hz_77
    have hP1 := hP.so hs1 (by decide)
    have hQ1 := hC.so (hs1.mono (by decide) (by decide))
    refine gx_iload_n hx dX8_item_80 rfl ?_
    refine gx_callI hx (c_X4_addressAt _ _ hl40 hY1 (Nat.le_of_lt hi) rfl) lkX8_185 mwX4_addressAt dX8_item_81 (by decide) rfl rfl rfl rfl (Nat.le_of_ble_eq_true rfl) (by decide) ⟨by decide, by decide⟩ (fun z_81 σ_81 hz_81 => ?_)
    obtain ⟨rfl, rfl⟩ := hz_81
    refine hret _ _ _ _ _ _ _ (by decide) (by decide) dX8_item_84 rfl rfl ?_
    first
    | (subst h; exact ⟨(P, hs, sv, T, er), by show sp_item (P, hs, sv, T, er) (i : Int) _ = _; rw [sp_item, if_neg (fun h9 => h9 hin), if_neg (by omega), Int.toNat_natCast]; rfl, hC.refl⟩)
    | (subst h; exact ⟨(P, hs, sv, T, er), by show sp_item (P, hs, sv, T, er) (i : Int) _ = _; rw [sp_item, if_neg (fun h9 => h9 hin), if_neg (by omega), Int.toNat_natCast]; rfl, hQ1⟩)
  · refine gx_tableOut (tgt := 85) hx dX8_item_6 ⟨by omega, by omega⟩ (by omega) (by decide) ?_
    refine gx_throw 17 hx hq excIAE (by decide) rfl dX8_item_85 dX8_item_88 dX8_item_89 dX8_item_91 dX8_item_94 (Nat.le_of_ble_eq_true rfl) (by decide) (by decide) ?_
    exact ⟨1, (P, hs, sv, T, er), by show sp_item (P, hs, sv, T, er) (i : Int) w = _; rw [sp_item, if_neg (fun h9 => h9 hin), if_pos (by omega)], rfl, hC.refl⟩
set_option maxRecDepth 20000 in
set_option maxHeartbeats 400000 in
theorem c_X8_nameCharacter (g : Gm) (l : Launch) {σ : Sg} {A : AS} {z w : Int} (hl : l.stackTraces = false) (hC : CR σ A) (hz : rg z) (hw : rg w) : KXI g l yX8_nameCharacter cX8_nameCharacter 4 ((some .char)) (5) 2 12 [.inr 69, .inl z, .inl w] σ (SPI (fn (sp_nameCharacter A z w)) σ) (SPX (fn (sp_nameCharacter A z w)) σ [exIOE, nsN]) := by
  refine startXI hl (own := RX8) (by decide +kernel) rfl (Nat.le_of_ble_eq_true rfl) ?_
  intro X hx _ hXl hret hq
  rw [← hXl] at hl
  obtain ⟨P, hs, sv, T, er⟩ := A
  obtain ⟨hP, hH, hS, hT, hM, he1, he2, he3⟩ := id hC
  have hl40 := hP.1.1
  obtain ⟨hz1, hz2⟩ := id hz
  obtain ⟨hw1, hw2⟩ := id hw
  refine gx_aload_n hx dX8_nameCharacter_0 rfl ?_
  refine gx_iload_n hx dX8_nameCharacter_1 rfl ?_
  refine gx_callXV hx hq (c_X8_requireItem _ _ hl hP hz) lkX8_161 mwX8_requireItem dX8_nameCharacter_2 (by decide) rfl rfl rfl rfl (Nat.le_of_ble_eq_true rfl) (by decide) ⟨by decide, by decide⟩ (fun E σ9 h => by obtain ⟨rfl, h2, rfl⟩ := h; exact ⟨0, (P, hs, sv, T, er), by show sp_nameCharacter (P, hs, sv, T, er) z w = _; rw [sp_nameCharacter, if_pos h2], rfl, hC.refl⟩) (fun σ_2 hz_2 => ?_)
  obtain ⟨hin, rfl⟩ := hz_2
  obtain ⟨i, rfl⟩ : ∃ i : Nat, z = (i : Int) := ⟨z.toNat, by omega⟩
  have hi : i < P.length := by omega
  refine gx_aload_n hx dX8_nameCharacter_5 rfl ?_
  refine gx_getR hx flX8_12 dX8_nameCharacter_6 (by decide) rfl rfl ?_
  refine gx_iload_n hx dX8_nameCharacter_9 rfl ?_
  refine gx_callI hx (c_X6_kindAt (j := 0) (P := P) _ _ (by decide) hP hi) lkX8_168 mwX6_kindAt dX8_nameCharacter_10 (by decide) rfl rfl rfl rfl (Nat.le_of_ble_eq_true rfl) (by decide) ⟨by decide, by decide⟩ (fun z_10 σ_10 hz_10 => ?_)
  obtain ⟨rfl, rfl⟩ := hz_10
  have hk8 : kd P i < 8 := by
    have hk9 := hP.1.2.1 i
    unfold okI at hk9
    omega
  have hnl := nm_le (kd P i) (by omega)
  refine gx_callSR hx (c_X8_nameOf (k := kd P i) _ _ hk8) lkX8_190 mwX8_nameOf dX8_nameCharacter_13 rfl rfl (Nat.le_of_ble_eq_true rfl) (by decide) ⟨by decide, by decide⟩ (fun z_13 σ_13 hz_13 => ?_)
  obtain ⟨rfl, rfl⟩ := hz_13
  refine gx_astore_n hx dX8_nameCharacter_16 (Nat.le_of_ble_eq_true rfl) ?_
  refine gx_iload_n hx dX8_nameCharacter_17 rfl ?_
  refine gx_if_lt (tgt := 29) hx dX8_nameCharacter_18 (by decide) ⟨by omega, by omega⟩ (fun h18 => ?_) (fun h18 => ?_)
  · first
    | (exfalso; omega)
    | (refine gx_throwN 18 hx hq (by decide) rfl dX8_nameCharacter_29 dX8_nameCharacter_32 dX8_nameCharacter_33 dX8_nameCharacter_35 dX8_nameCharacter_38 (Nat.le_of_ble_eq_true rfl) (by decide) (by decide) ?_
       exact ⟨1, (P, hs, sv, T, er), by show sp_nameCharacter (P, hs, sv, T, er) (i : Int) w = _; rw [sp_nameCharacter, if_neg (fun h9 => h9 hin), Int.toNat_natCast, if_pos (by omega)], rfl, hC.refl⟩)
  · first
    | (exfalso; omega)
    | (refine gx_iload_n hx dX8_nameCharacter_21 rfl ?_
       refine gx_aload_n hx dX8_nameCharacter_22 rfl ?_
       refine gx_callT hx (i := kd P i) (by omega) (c_J0_length_8abf5 (i := kd P i) _ _ (by omega)) lkX8_194 mwJ0_length_8abf5 dX8_nameCharacter_23 rfl rfl (Nat.le_of_ble_eq_true rfl) (by decide) ⟨by decide, by decide⟩ (fun z_23 σ_23 hz_23 => ?_)
       obtain ⟨rfl, rfl⟩ := hz_23
       refine gx_icmp_lt (tgt := 39) hx dX8_nameCharacter_26 (by decide) ⟨by omega, by omega⟩ ⟨by omega, by omega⟩ (fun h26 => ?_) (fun h26 => ?_)
       · first
         | (exfalso; omega)
         | (obtain ⟨n, rfl⟩ : ∃ n : Nat, w = (n : Int) := ⟨w.toNat, by omega⟩
            refine gx_aload_n hx dX8_nameCharacter_39 rfl ?_
            refine gx_iload_n hx dX8_nameCharacter_40 rfl ?_
            refine gx_callT hx (i := kd P i) (by omega) (c_J0_charAt_5068e (i := kd P i) (j := n) _ _ (by omega) (by omega)) lkX8_201 mwJ0_charAt_5068e dX8_nameCharacter_41 rfl rfl (Nat.le_of_ble_eq_true rfl) (by decide) ⟨by decide, by decide⟩ (fun z_41 σ_41 hz_41 => ?_)
            obtain ⟨rfl, rfl⟩ := hz_41
            obtain ⟨-, nc1, nc2⟩ := nm_byt (kd P i) (by omega) n (by omega)
            refine hret _ _ _ _ _ _ _ (by decide) (by decide) dX8_nameCharacter_44 rfl (nar_c _ (by omega)) ?_
            exact ⟨(P, hs, sv, T, er), by show sp_nameCharacter (P, hs, sv, T, er) (i : Int) (n : Int) = _; rw [sp_nameCharacter, if_neg (fun h9 => h9 hin), Int.toNat_natCast, if_neg (by omega), Int.toNat_natCast], hC.refl⟩)
       · first
         | (exfalso; omega)
         | (refine gx_throwN 18 hx hq (by decide) rfl dX8_nameCharacter_29 dX8_nameCharacter_32 dX8_nameCharacter_33 dX8_nameCharacter_35 dX8_nameCharacter_38 (Nat.le_of_ble_eq_true rfl) (by decide) (by decide) ?_
            exact ⟨1, (P, hs, sv, T, er), by show sp_nameCharacter (P, hs, sv, T, er) (i : Int) w = _; rw [sp_nameCharacter, if_neg (fun h9 => h9 hin), Int.toNat_natCast, if_pos (by omega)], rfl, hC.refl⟩))
set_option maxRecDepth 20000 in
set_option maxHeartbeats 400000 in
theorem c_X8_setForm (g : Gm) (l : Launch) {σ : Sg} {A : AS} {z w : Int} (hl : l.stackTraces = false) (hC : CR σ A) (hz : rg z) (hw : rg w) : KXI g l yX8_setForm cX8_setForm 4 ((some .int)) (3) 3 18 [.inr 69, .inl z, .inl w] σ (SPI (fn (sp_setForm A z w)) σ) (SPX (fn (sp_setForm A z w)) σ [exIOE, exIAE]) := by
  refine startXI hl (own := RX8) (by decide +kernel) rfl (Nat.le_of_ble_eq_true rfl) ?_
  intro X hx _ hXl hret hq
  rw [← hXl] at hl
  obtain ⟨P, hs, sv, T, er⟩ := A
  obtain ⟨hP, hH, hS, hT, hM, he1, he2, he3⟩ := id hC
  have hl40 := hP.1.1
  obtain ⟨hz1, hz2⟩ := id hz
  obtain ⟨hw1, hw2⟩ := id hw
  refine gx_aload_n hx dX8_setForm_0 rfl ?_
  refine gx_iload_n hx dX8_setForm_1 rfl ?_
  refine gx_callXV hx hq (c_X8_requireItem _ _ hl hP hz) lkX8_161 mwX8_requireItem dX8_setForm_2 (by decide) rfl rfl rfl rfl (Nat.le_of_ble_eq_true rfl) (by decide) ⟨by decide, by decide⟩ (fun E σ9 h => by obtain ⟨rfl, h2, rfl⟩ := h; exact ⟨0, (P, hs, sv, T, er), by show sp_setForm (P, hs, sv, T, er) z w = _; rw [sp_setForm, if_pos h2], rfl, hC.refl⟩) (fun σ_2 hz_2 => ?_)
  obtain ⟨hin, rfl⟩ := hz_2
  obtain ⟨i, rfl⟩ : ∃ i : Nat, z = (i : Int) := ⟨z.toNat, by omega⟩
  have hi : i < P.length := by omega
  refine gx_aload_n hx dX8_setForm_5 rfl ?_
  refine gx_iload_n hx dX8_setForm_6 rfl ?_
  refine gx_callXV hx hq (c_X8_requireTransfer _ _ hl hP hi) lkX8_205 mwX8_requireTransfer dX8_setForm_7 (by decide) rfl rfl rfl rfl (Nat.le_of_ble_eq_true rfl) (by decide) ⟨by decide, by decide⟩ (fun E σ9 h => by obtain ⟨rfl, h2, rfl⟩ := h; exact ⟨1, (P, hs, sv, T, er), by show sp_setForm (P, hs, sv, T, er) (i : Int) w = _; rw [sp_setForm, if_neg (fun h9 => h9 hin), Int.toNat_natCast, if_pos h2], rfl, hC.refl⟩) (fun σ_7 hz_7 => ?_)
  obtain ⟨ht, rfl⟩ := hz_7
  refine gx_aload_n hx dX8_setForm_10 rfl ?_
  refine gx_iload_n hx dX8_setForm_11 rfl ?_
  refine gx_callXV hx hq (c_X8_requireForm _ _ hl hw) lkX8_208 mwX8_requireForm dX8_setForm_12 (by decide) rfl rfl rfl rfl (Nat.le_of_ble_eq_true rfl) (by decide) ⟨by decide, by decide⟩ (fun E σ9 h => by obtain ⟨rfl, h2, rfl⟩ := h; exact ⟨1, (P, hs, sv, T, er), by show sp_setForm (P, hs, sv, T, er) (i : Int) w = _; rw [sp_setForm, if_neg (fun h9 => h9 hin), Int.toNat_natCast, if_neg (fun h9 => h9 ht), if_pos h2], rfl, hC.refl⟩) (fun σ_12 hz_12 => ?_)
  obtain ⟨hf, rfl⟩ := hz_12
  obtain ⟨f, rfl⟩ : ∃ f : Nat, w = (f : Int) := ⟨w.toNat, by omega⟩
  refine gx_aload_n hx dX8_setForm_15 rfl ?_
  refine gx_getR hx flX8_22 dX8_setForm_16 (by decide) rfl rfl ?_
  refine gx_aload_n hx dX8_setForm_19 rfl ?_
  refine gx_getR hx flX8_12 dX8_setForm_20 (by decide) rfl rfl ?_
  refine gx_callV hx (c_X2_remember (hs := hs) (P := P) _ _ hH hP) lkX8_149 mwX2_remember dX8_setForm_23 (by decide) rfl rfl rfl rfl (Nat.le_of_ble_eq_true rfl) (by decide) ⟨by decide, by decide⟩ (fun σ_23 hz_23 => ?_)
  obtain ⟨hH1, hs1⟩ := hz_23
  have hP1 := hP.so hs1 (by decide)
  refine gx_aload_n hx dX8_setForm_26 rfl ?_
  refine gx_getR hx flX8_12 dX8_setForm_27 (by decide) rfl rfl ?_
  refine gx_iload_n hx dX8_setForm_30 rfl ?_
  refine gx_callI hx (c_X6_formAt (j := 0) (P := P) _ _ (by decide) hP1 hi) lkX8_175 mwX6_formAt dX8_setForm_31 (by decide) rfl rfl rfl rfl (Nat.le_of_ble_eq_true rfl) (by decide) ⟨by decide, by decide⟩ (fun z_31 σ_31 hz_31 => ?_)
  obtain ⟨rfl, rfl⟩ := hz_31
  refine gx_istore_n hx dX8_setForm_34 (Nat.le_of_ble_eq_true rfl) ?_
  refine gx_aload_n hx dX8_setForm_35 rfl ?_
  refine gx_getR hx flX8_12 dX8_setForm_36 (by decide) rfl rfl ?_
  refine gx_iload_n hx dX8_setForm_39 rfl ?_
  refine gx_iload_n hx dX8_setForm_40 rfl ?_
  refine gx_callV hx (c_X6_putForm (j := 0) (P := P) (f := f) _ _ (by decide) hP1 hi (by omega) (by omega)) lkX8_211 mwX6_putForm dX8_setForm_41 (by decide) rfl rfl rfl rfl (Nat.le_of_ble_eq_true rfl) (by decide) ⟨by decide, by decide⟩ (fun σ_41 hz_41 => ?_)
  obtain ⟨hP2, hs2⟩ := hz_41
  refine gx_iload_n hx dX8_setForm_44 rfl ?_
  refine hret _ _ _ _ _ _ _ (by decide) (by decide) dX8_setForm_45 rfl rfl ?_
  exact ⟨(stF P i f, psh P hs, sv, T, er), by show sp_setForm (P, hs, sv, T, er) (i : Int) (f : Int) = _; rw [sp_setForm, if_neg (fun h9 => h9 hin), Int.toNat_natCast, if_neg (fun h9 => h9 ht), if_neg (fun h9 => h9 hf), Int.toNat_natCast], hC.change hP2 (hH1.so (fun k _ _ => hs2 k (by omega))) (fun k hk => (hs2 k (by omega)).trans (hs1 k (by omega)))⟩
set_option maxRecDepth 20000 in
set_option maxHeartbeats 400000 in
theorem c_X8_totalSize (g : Gm) (l : Launch) {σ : Sg} {A : AS} (hC : CR σ A) : KI g l yX8_totalSize cX8_totalSize 1 ((some .int)) (5) 0 0 [.inr 69] σ (SPI (fn (sp_totalSize A)) σ) := by
  refine startI (own := RX8) (by decide +kernel) rfl (Nat.le_of_ble_eq_true rfl) ?_
  intro X hx _ _ hret
  obtain ⟨P, hs, sv, T, er⟩ := A
  obtain ⟨hP, hH, hS, hT, hM, he1, he2, he3⟩ := id hC
  have hl40 := hP.1.1
  refine gx_aload_n hx dX8_totalSize_0 rfl ?_
  refine gx_callR hx (c_X8_freshLayout _ _ hP) lkX8_178 mwX8_freshLayout dX8_totalSize_1 (by decide) rfl rfl rfl rfl (Nat.le_of_ble_eq_true rfl) (by decide) ⟨by decide, by decide⟩ (fun z_1 σ_1 hz_1 => ?_)
  obtain ⟨rfl, hL1, hY1, hs1⟩ := hz_1
  have hP1 := hP.so hs1 (by decide)
  have hQ1 := hC.so (hs1.mono (by decide) (by decide))
  refine gx_callI hx (c_X4_sizeWithEndPool _ _ hP1 hL1 hY1) lkX8_215 mwX4_sizeWithEndPool dX8_totalSize_4 (by decide) rfl rfl rfl rfl (Nat.le_of_ble_eq_true rfl) (by decide) ⟨by decide, by decide⟩ (fun z_4 σ_4 hz_4 => ?_)
  obtain ⟨rfl, rfl⟩ := hz_4
  refine hret _ _ _ _ _ _ _ (by decide) (by decide) dX8_totalSize_7 rfl rfl ?_
  exact ⟨(P, hs, sv, T, er), rfl, hQ1⟩
set_option maxRecDepth 20000 in
set_option maxHeartbeats 400000 in
theorem c_X8_padding (g : Gm) (l : Launch) {σ : Sg} {A : AS} (hC : CR σ A) : KI g l yX8_padding cX8_padding 1 ((some .int)) (5) 0 0 [.inr 69] σ (SPI (fn (sp_padding A)) σ) := by
  refine startI (own := RX8) (by decide +kernel) rfl (Nat.le_of_ble_eq_true rfl) ?_
  intro X hx _ _ hret
  obtain ⟨P, hs, sv, T, er⟩ := A
  obtain ⟨hP, hH, hS, hT, hM, he1, he2, he3⟩ := id hC
  have hl40 := hP.1.1
  refine gx_aload_n hx dX8_padding_0 rfl ?_
  refine gx_callR hx (c_X8_freshLayout _ _ hP) lkX8_178 mwX8_freshLayout dX8_padding_1 (by decide) rfl rfl rfl rfl (Nat.le_of_ble_eq_true rfl) (by decide) ⟨by decide, by decide⟩ (fun z_1 σ_1 hz_1 => ?_)
  obtain ⟨rfl, hL1, hY1, hs1⟩ := hz_1
  have hP1 := hP.so hs1 (by decide)
  have hQ1 := hC.so (hs1.mono (by decide) (by decide))
  refine gx_callI hx (c_X4_paddingBytes _ _ hP1 hL1 hY1) lkX8_218 mwX4_paddingBytes dX8_padding_4 (by decide) rfl rfl rfl rfl (Nat.le_of_ble_eq_true rfl) (by decide) ⟨by decide, by decide⟩ (fun z_4 σ_4 hz_4 => ?_)
  obtain ⟨rfl, rfl⟩ := hz_4
  refine hret _ _ _ _ _ _ _ (by decide) (by decide) dX8_padding_7 rfl rfl ?_
  exact ⟨(P, hs, sv, T, er), rfl, hQ1⟩
set_option maxRecDepth 20000 in
set_option maxHeartbeats 400000 in
theorem c_X8_labelAddress (g : Gm) (l : Launch) {σ : Sg} {A : AS} {z : Int} (hl : l.stackTraces = false) (hC : CR σ A) (hz : rg z) : KXI g l yX8_labelAddress cX8_labelAddress 3 ((some .int)) (5) 1 6 [.inr 69, .inl z] σ (SPI (fn (sp_labelAddress A z)) σ) (SPX (fn (sp_labelAddress A z)) σ [exIOE, nsN]) := by
  refine startXI hl (own := RX8) (by decide +kernel) rfl (Nat.le_of_ble_eq_true rfl) ?_
  intro X hx _ hXl hret hq
  rw [← hXl] at hl
  obtain ⟨P, hs, sv, T, er⟩ := A
  obtain ⟨hP, hH, hS, hT, hM, he1, he2, he3⟩ := id hC
  have hl40 := hP.1.1
  obtain ⟨hz1, hz2⟩ := id hz
  refine gx_iload_n hx dX8_labelAddress_0 rfl ?_
  refine gx_if_lt (tgt := 10) hx dX8_labelAddress_1 (by decide) ⟨by omega, by omega⟩ (fun h1 => ?_) (fun h1 => ?_)
  · first
    | (exfalso; omega)
    | (refine gx_throw 21 hx hq excIOE (by decide) rfl dX8_labelAddress_10 dX8_labelAddress_13 dX8_labelAddress_14 dX8_labelAddress_16 dX8_labelAddress_19 (Nat.le_of_ble_eq_true rfl) (by decide) (by decide) ?_
       exact ⟨0, (P, hs, sv, T, er), by show sp_labelAddress (P, hs, sv, T, er) z = _; rw [sp_labelAddress, if_pos (by omega)], rfl, hC.refl⟩)
  · first
    | (exfalso; omega)
    | (refine gx_iload_n hx dX8_labelAddress_4 rfl ?_
       refine gx_bipush hx dX8_labelAddress_5 (by decide) ?_
       refine gx_icmp_lt (tgt := 20) hx dX8_labelAddress_7 (by decide) ⟨by omega, by omega⟩ ⟨by omega, by omega⟩ (fun h7 => ?_) (fun h7 => ?_)
       · first
         | (exfalso; omega)
         | (obtain ⟨b9, rfl⟩ : ∃ b9 : Nat, z = (b9 : Int) := ⟨z.toNat, by omega⟩
            refine gx_aload_n hx dX8_labelAddress_20 rfl ?_
            refine gx_callR hx (c_X8_freshLayout _ _ hP) lkX8_178 mwX8_freshLayout dX8_labelAddress_21 (by decide) rfl rfl rfl rfl (Nat.le_of_ble_eq_true rfl) (by decide) ⟨by decide, by decide⟩ (fun z_21 σ_21 hz_21 => ?_)
            obtain ⟨rfl, hL1, hY1, hs1⟩ := hz_21
            have hP1 := hP.so hs1 (by decide)
            have hQ1 := hC.so (hs1.mono (by decide) (by decide))
            refine gx_pop hx dX8_labelAddress_24 ?_
            refine gx_aload_n hx dX8_labelAddress_25 rfl ?_
            refine gx_getR hx flX8_38 dX8_labelAddress_26 (by decide) rfl rfl ?_
            refine gx_iload_n hx dX8_labelAddress_29 rfl ?_
            refine gx_callI hx (c_X5_definerOf (lb := b9) _ _ hP1 hL1 (by omega)) lkX8_223 mwX5_definerOf dX8_labelAddress_30 (by decide) rfl rfl rfl rfl (Nat.le_of_ble_eq_true rfl) (by decide) ⟨by decide, by decide⟩ (fun z_30 σ_30 hz_30 => ?_)
            obtain ⟨rfl, rfl⟩ := hz_30
            have hdl := dfn_lt P b9 P.length
            refine gx_istore_n hx dX8_labelAddress_33 (Nat.le_of_ble_eq_true rfl) ?_
            refine gx_iload_n hx dX8_labelAddress_34 rfl ?_
            refine gx_iconst hx dX8_labelAddress_35 ?_
            refine gx_icmp_ne (tgt := 49) hx dX8_labelAddress_36 (by decide) ⟨by omega, by omega⟩ ⟨by omega, by omega⟩ (fun h36 => ?_) (fun h36 => ?_)
            · first
              | (exfalso; omega)
              | (refine gx_aload_n hx dX8_labelAddress_49 rfl ?_
                 refine gx_getR hx flX8_47 dX8_labelAddress_50 (by decide) rfl rfl ?_
                 refine gx_iload_n hx dX8_labelAddress_53 rfl ?_
                 refine gx_callI hx (c_X4_addressAt (i := (dfn P b9 P.length).toNat) _ _ hl40 hY1 (by omega) (by omega)) lkX8_185 mwX4_addressAt dX8_labelAddress_54 (by decide) rfl rfl rfl rfl (Nat.le_of_ble_eq_true rfl) (by decide) ⟨by decide, by decide⟩ (fun z_54 σ_54 hz_54 => ?_)
                 obtain ⟨rfl, rfl⟩ := hz_54
                 refine hret _ _ _ _ _ _ _ (by decide) (by decide) dX8_labelAddress_57 rfl rfl ?_
                 exact ⟨(P, hs, sv, T, er), by show sp_labelAddress (P, hs, sv, T, er) (b9 : Int) = _; rw [sp_labelAddress, if_neg (by omega), Int.toNat_natCast, if_neg (by omega)], hQ1⟩)
            · first
              | (exfalso; omega)
              | (refine gx_throwN 22 hx hq (by decide) rfl dX8_labelAddress_39 dX8_labelAddress_42 dX8_labelAddress_43 dX8_labelAddress_45 dX8_labelAddress_48 (Nat.le_of_ble_eq_true rfl) (by decide) (by decide) ?_
                 exact ⟨1, (P, hs, sv, T, er), by show sp_labelAddress (P, hs, sv, T, er) (b9 : Int) = _; rw [sp_labelAddress, if_neg (by omega), Int.toNat_natCast, if_pos (by omega)], rfl, hQ1⟩))
       · first
         | (exfalso; omega)
         | (refine gx_throw 21 hx hq excIOE (by decide) rfl dX8_labelAddress_10 dX8_labelAddress_13 dX8_labelAddress_14 dX8_labelAddress_16 dX8_labelAddress_19 (Nat.le_of_ble_eq_true rfl) (by decide) (by decide) ?_
            exact ⟨0, (P, hs, sv, T, er), by show sp_labelAddress (P, hs, sv, T, er) z = _; rw [sp_labelAddress, if_pos (by omega)], rfl, hC.refl⟩))
set_option maxRecDepth 20000 in
set_option maxHeartbeats 400000 in
theorem c_X8_itemAt (g : Gm) (l : Launch) {σ : Sg} {A : AS} {z : Int} (hl : l.stackTraces = false) (hC : CR σ A) (hz : rg z) : KXI g l yX8_itemAt cX8_itemAt 2 ((some .int)) (5) 1 6 [.inr 69, .inl z] σ (SPI (fn (sp_itemAt A z)) σ) (SPX (fn (sp_itemAt A z)) σ [exIOE]) := by
  refine startXI hl (own := RX8) (by decide +kernel) rfl (Nat.le_of_ble_eq_true rfl) ?_
  intro X hx _ hXl hret hq
  rw [← hXl] at hl
  obtain ⟨P, hs, sv, T, er⟩ := A
  obtain ⟨hP, hH, hS, hT, hM, he1, he2, he3⟩ := id hC
  have hl40 := hP.1.1
  obtain ⟨hz1, hz2⟩ := id hz
  have hab := aPb hP.1 (Nat.le_refl P.length)
  refine gx_aload_n hx dX8_itemAt_0 rfl ?_
  refine gx_callR hx (c_X8_freshLayout _ _ hP) lkX8_178 mwX8_freshLayout dX8_itemAt_1 (by decide) rfl rfl rfl rfl (Nat.le_of_ble_eq_true rfl) (by decide) ⟨by decide, by decide⟩ (fun z_1 σ_1 hz_1 => ?_)
  obtain ⟨rfl, hL1, hY1, hs1⟩ := hz_1
  have hP1 := hP.so hs1 (by decide)
  have hQ1 := hC.so (hs1.mono (by decide) (by decide))
  refine gx_pop hx dX8_itemAt_4 ?_
  refine gx_iload_n hx dX8_itemAt_5 rfl ?_
  refine gx_if_lt (tgt := 20) hx dX8_itemAt_6 (by decide) ⟨by omega, by omega⟩ (fun h6 => ?_) (fun h6 => ?_)
  · first
    | (exfalso; omega)
    | (refine gx_throw 23 hx hq excIOE (by decide) rfl dX8_itemAt_20 dX8_itemAt_23 dX8_itemAt_24 dX8_itemAt_26 dX8_itemAt_29 (Nat.le_of_ble_eq_true rfl) (by decide) (by decide) ?_
       exact ⟨0, (P, hs, sv, T, er), by show sp_itemAt (P, hs, sv, T, er) z = _; rw [sp_itemAt, if_pos (by omega)], rfl, hQ1⟩)
  · first
    | (exfalso; omega)
    | (refine gx_iload_n hx dX8_itemAt_9 rfl ?_
       refine gx_aload_n hx dX8_itemAt_10 rfl ?_
       refine gx_getR hx flX8_47 dX8_itemAt_11 (by decide) rfl rfl ?_
       refine gx_callI hx (c_X4_sizeOfItems _ _ hP1 hY1) lkX8_228 mwX4_sizeOfItems dX8_itemAt_14 (by decide) rfl rfl rfl rfl (Nat.le_of_ble_eq_true rfl) (by decide) ⟨by decide, by decide⟩ (fun z_14 σ_14 hz_14 => ?_)
       obtain ⟨rfl, rfl⟩ := hz_14
       refine gx_icmp_lt (tgt := 30) hx dX8_itemAt_17 (by decide) ⟨by omega, by omega⟩ ⟨by omega, by omega⟩ (fun h17 => ?_) (fun h17 => ?_)
       · first
         | (exfalso; omega)
         | (obtain ⟨a9, rfl⟩ : ∃ a9 : Nat, z = (a9 : Int) := ⟨z.toNat, by omega⟩
            refine gx_aload_n hx dX8_itemAt_30 rfl ?_
            refine gx_getR hx flX8_47 dX8_itemAt_31 (by decide) rfl rfl ?_
            refine gx_iload_n hx dX8_itemAt_34 rfl ?_
            refine gx_callI hx (c_X4_lastItemUpTo (a := a9) _ _ hP1 hY1 (by omega)) lkX8_233 mwX4_lastItemUpTo dX8_itemAt_35 (by decide) rfl rfl rfl rfl (Nat.le_of_ble_eq_true rfl) (by decide) ⟨by decide, by decide⟩ (fun z_35 σ_35 hz_35 => ?_)
            obtain ⟨rfl, rfl⟩ := hz_35
            refine hret _ _ _ _ _ _ _ (by decide) (by decide) dX8_itemAt_38 rfl rfl ?_
            exact ⟨(P, hs, sv, T, er), by show sp_itemAt (P, hs, sv, T, er) (a9 : Int) = _; rw [sp_itemAt, if_neg (by omega), Int.toNat_natCast], hQ1⟩)
       · first
         | (exfalso; omega)
         | (refine gx_throw 23 hx hq excIOE (by decide) rfl dX8_itemAt_20 dX8_itemAt_23 dX8_itemAt_24 dX8_itemAt_26 dX8_itemAt_29 (Nat.le_of_ble_eq_true rfl) (by decide) (by decide) ?_
            exact ⟨0, (P, hs, sv, T, er), by show sp_itemAt (P, hs, sv, T, er) z = _; rw [sp_itemAt, if_pos (by omega)], rfl, hQ1⟩))
set_option maxRecDepth 20000 in
set_option maxHeartbeats 400000 in
theorem c_X8_addressIf (g : Gm) (l : Launch) {σ : Sg} {A : AS} {z w : Int} (hl : l.stackTraces = false) (hC : CR σ A) (hz : rg z) (hw : rg w) : KXI g l yX8_addressIf cX8_addressIf 3 ((some .int)) (4) 2 12 [.inr 69, .inl z, .inl w] σ (SPI (fn (sp_addressIf A z w)) σ) (SPX (fn (sp_addressIf A z w)) σ [exIOE, exIAE]) := by
  refine startXI hl (own := RX8) (by decide +kernel) rfl (Nat.le_of_ble_eq_true rfl) ?_
  intro X hx _ hXl hret hq
  rw [← hXl] at hl
  obtain ⟨P, hs, sv, T, er⟩ := A
  obtain ⟨hP, hH, hS, hT, hM, he1, he2, he3⟩ := id hC
  have hl40 := hP.1.1
  obtain ⟨hz1, hz2⟩ := id hz
  obtain ⟨hw1, hw2⟩ := id hw
  refine gx_aload_n hx dX8_addressIf_0 rfl ?_
  refine gx_iload_n hx dX8_addressIf_1 rfl ?_
  refine gx_callXV hx hq (c_X8_requireItem _ _ hl hP hz) lkX8_161 mwX8_requireItem dX8_addressIf_2 (by decide) rfl rfl rfl rfl (Nat.le_of_ble_eq_true rfl) (by decide) ⟨by decide, by decide⟩ (fun E σ9 h => by obtain ⟨rfl, h2, rfl⟩ := h; exact ⟨0, (P, hs, sv, T, er), by show sp_addressIf (P, hs, sv, T, er) z w = _; rw [sp_addressIf, if_pos h2], rfl, hC.refl⟩) (fun σ_2 hz_2 => ?_)
  obtain ⟨hin, rfl⟩ := hz_2
  obtain ⟨i, rfl⟩ : ∃ i : Nat, z = (i : Int) := ⟨z.toNat, by omega⟩
  have hi : i < P.length := by omega
  refine gx_aload_n hx dX8_addressIf_5 rfl ?_
  refine gx_iload_n hx dX8_addressIf_6 rfl ?_
  refine gx_callXV hx hq (c_X8_requireForm _ _ hl hw) lkX8_208 mwX8_requireForm dX8_addressIf_7 (by decide) rfl rfl rfl rfl (Nat.le_of_ble_eq_true rfl) (by decide) ⟨by decide, by decide⟩ (fun E σ9 h => by obtain ⟨rfl, h2, rfl⟩ := h; exact ⟨1, (P, hs, sv, T, er), by show sp_addressIf (P, hs, sv, T, er) (i : Int) w = _; rw [sp_addressIf, if_neg (fun h9 => h9 hin), if_pos h2], rfl, hC.refl⟩) (fun σ_7 hz_7 => ?_)
  obtain ⟨hf, rfl⟩ := hz_7
  obtain ⟨f, rfl⟩ : ∃ f : Nat, w = (f : Int) := ⟨w.toNat, by omega⟩
  refine gx_aload_n hx dX8_addressIf_10 rfl ?_
  refine gx_getR hx flX8_38 dX8_addressIf_11 (by decide) rfl rfl ?_
  refine gx_callV hx (c_X5_read (P := P) _ _ hP) lkX8_236 mwX5_read dX8_addressIf_14 (by decide) rfl rfl rfl rfl (Nat.le_of_ble_eq_true rfl) (by decide) ⟨by decide, by decide⟩ (fun σ_14 hz_14 => ?_)
  obtain ⟨hL1, hs1⟩ := hz_14
  have hP1 := hP.so hs1 (by decide)
  have hQ1 := hC.so (hs1.mono (by decide) (by decide))
  refine gx_aload_n hx dX8_addressIf_17 rfl ?_
  refine gx_getR hx flX8_47 dX8_addressIf_18 (by decide) rfl rfl ?_
  refine gx_iload_n hx dX8_addressIf_21 rfl ?_
  refine gx_iload_n hx dX8_addressIf_22 rfl ?_
  refine gx_callI hx (c_X4_addressWith (f := f) _ _ hP1 hL1 hi (by omega)) lkX8_237 mwX4_addressWith dX8_addressIf_23 (by decide) rfl rfl rfl rfl (Nat.le_of_ble_eq_true rfl) (by decide) ⟨by decide, by decide⟩ (fun z_23 σ_23 hz_23 => ?_)
  obtain ⟨rfl, rfl⟩ := hz_23
  refine hret _ _ _ _ _ _ _ (by decide) (by decide) dX8_addressIf_26 rfl rfl ?_
  exact ⟨(P, hs, sv, T, er), by show sp_addressIf (P, hs, sv, T, er) (i : Int) (f : Int) = _; rw [sp_addressIf, if_neg (fun h9 => h9 hin), if_neg (fun h9 => h9 hf), Int.toNat_natCast, Int.toNat_natCast], hQ1⟩
set_option maxRecDepth 20000 in
set_option maxHeartbeats 400000 in
theorem c_X8_possibleAddresses (g : Gm) (l : Launch) {σ : Sg} {A : AS} {z : Int} (hl : l.stackTraces = false) (hC : CR σ A) (hz : rg z) : KXI g l yX8_possibleAddresses cX8_possibleAddresses 2 ((some .int)) (5) 1 6 [.inr 69, .inl z] σ (SPI (fn (sp_possibleAddresses A z)) σ) (SPX (fn (sp_possibleAddresses A z)) σ [exIOE]) := by
  refine startXI hl (own := RX8) (by decide +kernel) rfl (Nat.le_of_ble_eq_true rfl) ?_
  intro X hx _ hXl hret hq
  rw [← hXl] at hl
  obtain ⟨P, hs, sv, T, er⟩ := A
  obtain ⟨hP, hH, hS, hT, hM, he1, he2, he3⟩ := id hC
  have hl40 := hP.1.1
  obtain ⟨hz1, hz2⟩ := id hz
  refine gx_aload_n hx dX8_possibleAddresses_0 rfl ?_
  refine gx_iload_n hx dX8_possibleAddresses_1 rfl ?_
  refine gx_callXV hx hq (c_X8_requireItem _ _ hl hP hz) lkX8_161 mwX8_requireItem dX8_possibleAddresses_2 (by decide) rfl rfl rfl rfl (Nat.le_of_ble_eq_true rfl) (by decide) ⟨by decide, by decide⟩ (fun E σ9 h => by obtain ⟨rfl, h2, rfl⟩ := h; exact ⟨0, (P, hs, sv, T, er), by show sp_possibleAddresses (P, hs, sv, T, er) z = _; rw [sp_possibleAddresses, if_pos h2], rfl, hC.refl⟩) (fun σ_2 hz_2 => ?_)
  obtain ⟨hin, rfl⟩ := hz_2
  obtain ⟨i, rfl⟩ : ∃ i : Nat, z = (i : Int) := ⟨z.toNat, by omega⟩
  have hi : i < P.length := by omega
  refine gx_aload_n hx dX8_possibleAddresses_5 rfl ?_
  refine gx_getR hx flX8_38 dX8_possibleAddresses_6 (by decide) rfl rfl ?_
  refine gx_callV hx (c_X5_read (P := P) _ _ hP) lkX8_236 mwX5_read dX8_possibleAddresses_9 (by decide) rfl rfl rfl rfl (Nat.le_of_ble_eq_true rfl) (by decide) ⟨by decide, by decide⟩ (fun σ_9 hz_9 => ?_)
  obtain ⟨hL1, hs1⟩ := hz_9
  have hP1 := hP.so hs1 (by decide)
  have hQ1 := hC.so (hs1.mono (by decide) (by decide))
  obtain ⟨S9, hS9⟩ := hQ1.1.2.2.2.2.1
  refine gx_aload_n hx dX8_possibleAddresses_12 rfl ?_
  refine gx_getR hx flX8_72 dX8_possibleAddresses_13 (by decide) rfl rfl ?_
  refine gx_iload_n hx dX8_possibleAddresses_16 rfl ?_
  refine gx_callI hx (c_X0_numberAt (S := S9) _ _ hP1 hL1 hS9 hi) lkX8_241 mwX0_numberAt dX8_possibleAddresses_17 (by decide) rfl rfl rfl rfl (Nat.le_of_ble_eq_true rfl) (by decide) ⟨by decide, by decide⟩ (fun z_17 σ_17 hz_17 => ?_)
  obtain ⟨rfl, hA2, hs2⟩ := hz_17
  refine hret _ _ _ _ _ _ _ (by decide) (by decide) dX8_possibleAddresses_20 rfl rfl ?_
  exact ⟨(P, hs, sv, T, er), by show sp_possibleAddresses (P, hs, sv, T, er) (i : Int) = _; rw [sp_possibleAddresses, if_neg (fun h9 => h9 hin), Int.toNat_natCast], hC.aset hA2 (fun k hk => (hs2 k (by omega)).trans (hs1 k (by omega)))⟩
set_option maxRecDepth 20000 in
set_option maxHeartbeats 400000 in
theorem c_X8_transferCount (g : Gm) (l : Launch) {σ : Sg} {A : AS} (hC : CR σ A) : KI g l yX8_transferCount cX8_transferCount 1 ((some .int)) (3) 0 0 [.inr 69] σ (SPI (fn (sp_transferCount A)) σ) := by
  refine startI (own := RX8) (by decide +kernel) rfl (Nat.le_of_ble_eq_true rfl) ?_
  intro X hx _ _ hret
  obtain ⟨P, hs, sv, T, er⟩ := A
  obtain ⟨hP, hH, hS, hT, hM, he1, he2, he3⟩ := id hC
  have hl40 := hP.1.1
  refine gx_aload_n hx dX8_transferCount_0 rfl ?_
  refine gx_getR hx flX8_56 dX8_transferCount_1 (by decide) rfl rfl ?_
  refine gx_callI hx (c_X7_number _ _ hP) lkX8_244 mwX7_number dX8_transferCount_4 (by decide) rfl rfl rfl rfl (Nat.le_of_ble_eq_true rfl) (by decide) ⟨by decide, by decide⟩ (fun z_4 σ_4 hz_4 => ?_)
  obtain ⟨rfl, rfl⟩ := hz_4
  refine hret _ _ _ _ _ _ _ (by decide) (by decide) dX8_transferCount_7 rfl rfl ?_
  exact ⟨(P, hs, sv, T, er), rfl, hC.refl⟩
set_option maxRecDepth 20000 in
set_option maxHeartbeats 400000 in
theorem c_X8_formCount (g : Gm) (l : Launch) {σ : Sg} {A : AS} {z : Int} (hl : l.stackTraces = false) (hC : CR σ A) (hz : rg z) : KXI g l yX8_formCount cX8_formCount 2 ((some .int)) (3) 1 6 [.inr 69, .inl z] σ (SPI (fn (sp_formCount A z)) σ) (SPX (fn (sp_formCount A z)) σ [exIAE]) := by
  refine startXI hl (own := RX8) (by decide +kernel) rfl (Nat.le_of_ble_eq_true rfl) ?_
  intro X hx _ hXl hret hq
  rw [← hXl] at hl
  obtain ⟨P, hs, sv, T, er⟩ := A
  obtain ⟨hP, hH, hS, hT, hM, he1, he2, he3⟩ := id hC
  have hl40 := hP.1.1
  obtain ⟨hz1, hz2⟩ := id hz
  refine gx_aload_n hx dX8_formCount_0 rfl ?_
  refine gx_iload_n hx dX8_formCount_1 rfl ?_
  refine gx_callXV hx hq (c_X8_requireForm _ _ hl hz) lkX8_208 mwX8_requireForm dX8_formCount_2 (by decide) rfl rfl rfl rfl (Nat.le_of_ble_eq_true rfl) (by decide) ⟨by decide, by decide⟩ (fun E σ9 h => by obtain ⟨rfl, h2, rfl⟩ := h; exact ⟨0, (P, hs, sv, T, er), by show sp_formCount (P, hs, sv, T, er) z = _; rw [sp_formCount, if_pos h2], rfl, hC.refl⟩) (fun σ_2 hz_2 => ?_)
  obtain ⟨hf, rfl⟩ := hz_2
  obtain ⟨f, rfl⟩ : ∃ f : Nat, z = (f : Int) := ⟨z.toNat, by omega⟩
  refine gx_aload_n hx dX8_formCount_5 rfl ?_
  refine gx_getR hx flX8_56 dX8_formCount_6 (by decide) rfl rfl ?_
  refine gx_iload_n hx dX8_formCount_9 rfl ?_
  refine gx_callI hx (c_X7_numberWith (f := f) _ _ hP (by omega)) lkX8_247 mwX7_numberWith dX8_formCount_10 (by decide) rfl rfl rfl rfl (Nat.le_of_ble_eq_true rfl) (by decide) ⟨by decide, by decide⟩ (fun z_10 σ_10 hz_10 => ?_)
  obtain ⟨rfl, rfl⟩ := hz_10
  refine hret _ _ _ _ _ _ _ (by decide) (by decide) dX8_formCount_13 rfl rfl ?_
  exact ⟨(P, hs, sv, T, er), by show sp_formCount (P, hs, sv, T, er) (f : Int) = _; rw [sp_formCount, if_neg (fun h9 => h9 hf), Int.toNat_natCast], hC.refl⟩
set_option maxRecDepth 20000 in
set_option maxHeartbeats 400000 in
theorem c_X8_undefinedCount (g : Gm) (l : Launch) {σ : Sg} {A : AS} (hC : CR σ A) : KI g l yX8_undefinedCount cX8_undefinedCount 1 ((some .int)) (3) 0 0 [.inr 69] σ (SPI (fn (sp_undefinedCount A)) σ) := by
  refine startI (own := RX8) (by decide +kernel) rfl (Nat.le_of_ble_eq_true rfl) ?_
  intro X hx _ _ hret
  obtain ⟨P, hs, sv, T, er⟩ := A
  obtain ⟨hP, hH, hS, hT, hM, he1, he2, he3⟩ := id hC
  have hl40 := hP.1.1
  refine gx_aload_n hx dX8_undefinedCount_0 rfl ?_
  refine gx_getR hx flX8_38 dX8_undefinedCount_1 (by decide) rfl rfl ?_
  refine gx_callV hx (c_X5_read (P := P) _ _ hP) lkX8_236 mwX5_read dX8_undefinedCount_4 (by decide) rfl rfl rfl rfl (Nat.le_of_ble_eq_true rfl) (by decide) ⟨by decide, by decide⟩ (fun σ_4 hz_4 => ?_)
  obtain ⟨hL1, hs1⟩ := hz_4
  have hP1 := hP.so hs1 (by decide)
  have hQ1 := hC.so (hs1.mono (by decide) (by decide))
  refine gx_aload_n hx dX8_undefinedCount_7 rfl ?_
  refine gx_getR hx flX8_56 dX8_undefinedCount_8 (by decide) rfl rfl ?_
  refine gx_callI hx (c_X7_numberUndefined _ _ hP1 hL1) lkX8_250 mwX7_numberUndefined dX8_undefinedCount_11 (by decide) rfl rfl rfl rfl (Nat.le_of_ble_eq_true rfl) (by decide) ⟨by decide, by decide⟩ (fun z_11 σ_11 hz_11 => ?_)
  obtain ⟨rfl, rfl⟩ := hz_11
  refine hret _ _ _ _ _ _ _ (by decide) (by decide) dX8_undefinedCount_14 rfl rfl ?_
  exact ⟨(P, hs, sv, T, er), rfl, hQ1⟩
set_option maxRecDepth 20000 in
set_option maxHeartbeats 400000 in
theorem c_X8_displacement (g : Gm) (l : Launch) {σ : Sg} {A : AS} {z : Int} (hl : l.stackTraces = false) (hC : CR σ A) (hz : rg z) : KXI g l yX8_displacement cX8_displacement 2 ((some .int)) (6) 3 18 [.inr 69, .inl z] σ (SPI (fn (sp_tr q_dsp A z)) σ) (SPX (fn (sp_tr q_dsp A z)) σ [exIOE, exIAE, nsN]) := by
  refine startXI hl (own := RX8) (by decide +kernel) rfl (Nat.le_of_ble_eq_true rfl) ?_
  intro X hx _ hXl hret hq
  rw [← hXl] at hl
  obtain ⟨P, hs, sv, T, er⟩ := A
  obtain ⟨hP, hH, hS, hT, hM, he1, he2, he3⟩ := id hC
  have hl40 := hP.1.1
  obtain ⟨hz1, hz2⟩ := id hz
  refine gx_aload_n hx dX8_displacement_0 rfl ?_
  refine gx_iload_n hx dX8_displacement_1 rfl ?_
  refine gx_callXV hx hq (c_X8_requireTarget _ _ hl hP hz) lkX8_253 mwX8_requireTarget dX8_displacement_2 (by decide) rfl rfl rfl rfl (Nat.le_of_ble_eq_true rfl) (by decide) ⟨by decide, by decide⟩ (fun E σ9 h => by
    obtain ⟨h, h3⟩ := h
    have hQ1 := hC.so (h3.mono (by decide) (by decide))
    rcases h with ⟨rfl, h⟩ | ⟨rfl, h, h2⟩ | ⟨rfl, h, h2, h4⟩
    · exact ⟨0, (P, hs, sv, T, er), by show sp_tr q_dsp (P, hs, sv, T, er) z = _; rw [sp_tr, if_pos h], rfl, hQ1⟩
    · exact ⟨1, (P, hs, sv, T, er), by show sp_tr q_dsp (P, hs, sv, T, er) z = _; rw [sp_tr, if_neg (fun h9 => h9 h), if_pos h2], rfl, hQ1⟩
    · exact ⟨2, (P, hs, sv, T, er), by show sp_tr q_dsp (P, hs, sv, T, er) z = _; rw [sp_tr, if_neg (fun h9 => h9 h), if_neg (fun h9 => h9 h2), if_pos h4], rfl, hQ1⟩) (fun σ_2 hz_2 => ?_)
  obtain ⟨⟨i, rfl, hi, ht, hd⟩, hP1, hL1, hY1, hs1⟩ := hz_2
  have hQ1 := hC.so (hs1.mono (by decide) (by decide))
  have hdr := dsp_rg hP.1 (fm P) hi
  have hin : inI P (i : Int) := by omega
  refine gx_aload_n hx dX8_displacement_5 rfl ?_
  refine gx_getR hx flX8_56 dX8_displacement_6 (by decide) rfl rfl ?_
  refine gx_iload_n hx dX8_displacement_9 rfl ?_
  refine gx_callI hx (c_X7_displacementAt _ _ hP1 hL1 (KO.refl P) hY1 hi ht hd) lkX8_256 mwX7_displacementAt dX8_displacement_10 (by decide) rfl rfl rfl rfl (Nat.le_of_ble_eq_true rfl) (by decide) ⟨by decide, by decide⟩ (fun z_10 σ_10 hz_10 => ?_)
  obtain ⟨rfl, rfl⟩ := hz_10
  refine hret _ _ _ _ _ _ _ (by decide) (by decide) dX8_displacement_13 rfl rfl ?_
  exact ⟨(P, hs, sv, T, er), by show sp_tr q_dsp (P, hs, sv, T, er) (i : Int) = _; rw [sp_tr, if_neg (fun h9 => h9 hin), Int.toNat_natCast, if_neg (fun h9 => h9 ht), if_neg (by omega), q_dsp], hQ1⟩
set_option maxRecDepth 20000 in
set_option maxHeartbeats 400000 in
theorem c_X8_fits (g : Gm) (l : Launch) {σ : Sg} {A : AS} {z : Int} (hl : l.stackTraces = false) (hC : CR σ A) (hz : rg z) : KXI g l yX8_fits cX8_fits 2 ((some .boolean)) (6) 3 18 [.inr 69, .inl z] σ (SPI (fn (sp_tr q_fit A z)) σ) (SPX (fn (sp_tr q_fit A z)) σ [exIOE, exIAE, nsN]) := by
  refine startXI hl (own := RX8) (by decide +kernel) rfl (Nat.le_of_ble_eq_true rfl) ?_
  intro X hx _ hXl hret hq
  rw [← hXl] at hl
  obtain ⟨P, hs, sv, T, er⟩ := A
  obtain ⟨hP, hH, hS, hT, hM, he1, he2, he3⟩ := id hC
  have hl40 := hP.1.1
  obtain ⟨hz1, hz2⟩ := id hz
  refine gx_aload_n hx dX8_fits_0 rfl ?_
  refine gx_iload_n hx dX8_fits_1 rfl ?_
  refine gx_callXV hx hq (c_X8_requireTarget _ _ hl hP hz) lkX8_253 mwX8_requireTarget dX8_fits_2 (by decide) rfl rfl rfl rfl (Nat.le_of_ble_eq_true rfl) (by decide) ⟨by decide, by decide⟩ (fun E σ9 h => by
    obtain ⟨h, h3⟩ := h
    have hQ1 := hC.so (h3.mono (by decide) (by decide))
    rcases h with ⟨rfl, h⟩ | ⟨rfl, h, h2⟩ | ⟨rfl, h, h2, h4⟩
    · exact ⟨0, (P, hs, sv, T, er), by show sp_tr q_fit (P, hs, sv, T, er) z = _; rw [sp_tr, if_pos h], rfl, hQ1⟩
    · exact ⟨1, (P, hs, sv, T, er), by show sp_tr q_fit (P, hs, sv, T, er) z = _; rw [sp_tr, if_neg (fun h9 => h9 h), if_pos h2], rfl, hQ1⟩
    · exact ⟨2, (P, hs, sv, T, er), by show sp_tr q_fit (P, hs, sv, T, er) z = _; rw [sp_tr, if_neg (fun h9 => h9 h), if_neg (fun h9 => h9 h2), if_pos h4], rfl, hQ1⟩) (fun σ_2 hz_2 => ?_)
  obtain ⟨⟨i, rfl, hi, ht, hd⟩, hP1, hL1, hY1, hs1⟩ := hz_2
  have hQ1 := hC.so (hs1.mono (by decide) (by decide))
  have hdr := dsp_rg hP.1 (fm P) hi
  have hin : inI P (i : Int) := by omega
  refine gx_aload_n hx dX8_fits_5 rfl ?_
  refine gx_getR hx flX8_56 dX8_fits_6 (by decide) rfl rfl ?_
  refine gx_iload_n hx dX8_fits_9 rfl ?_
  refine gx_callI hx (c_X7_isFitting _ _ hP1 hL1 (KO.refl P) hY1 hi ht hd ⟨by omega, by omega⟩) lkX8_259 mwX7_isFitting dX8_fits_10 (by decide) rfl rfl rfl rfl (Nat.le_of_ble_eq_true rfl) (by decide) ⟨by decide, by decide⟩ (fun z_10 σ_10 hz_10 => ?_)
  obtain ⟨e9, rfl⟩ := hz_10
  have e8 : z_10 = q_fit P i := by
    unfold q_fit
    split <;> omega
  refine hret _ _ _ _ _ _ _ (by decide) (by decide) dX8_fits_13 rfl (nar_z (by omega)) ?_
  rw [e8]
  exact ⟨(P, hs, sv, T, er), by show sp_tr q_fit (P, hs, sv, T, er) (i : Int) = _; rw [sp_tr, if_neg (fun h9 => h9 hin), Int.toNat_natCast, if_neg (fun h9 => h9 ht), if_neg (by omega)], hQ1⟩
set_option maxRecDepth 20000 in
set_option maxHeartbeats 400000 in
theorem c_X8_neededForm (g : Gm) (l : Launch) {σ : Sg} {A : AS} {z : Int} (hl : l.stackTraces = false) (hC : CR σ A) (hz : rg z) : KXI g l yX8_neededForm cX8_neededForm 2 ((some .int)) (6) 3 18 [.inr 69, .inl z] σ (SPI (fn (sp_tr q_ndF A z)) σ) (SPX (fn (sp_tr q_ndF A z)) σ [exIOE, exIAE, nsN]) := by
  refine startXI hl (own := RX8) (by decide +kernel) rfl (Nat.le_of_ble_eq_true rfl) ?_
  intro X hx _ hXl hret hq
  rw [← hXl] at hl
  obtain ⟨P, hs, sv, T, er⟩ := A
  obtain ⟨hP, hH, hS, hT, hM, he1, he2, he3⟩ := id hC
  have hl40 := hP.1.1
  obtain ⟨hz1, hz2⟩ := id hz
  refine gx_aload_n hx dX8_neededForm_0 rfl ?_
  refine gx_iload_n hx dX8_neededForm_1 rfl ?_
  refine gx_callXV hx hq (c_X8_requireTarget _ _ hl hP hz) lkX8_253 mwX8_requireTarget dX8_neededForm_2 (by decide) rfl rfl rfl rfl (Nat.le_of_ble_eq_true rfl) (by decide) ⟨by decide, by decide⟩ (fun E σ9 h => by
    obtain ⟨h, h3⟩ := h
    have hQ1 := hC.so (h3.mono (by decide) (by decide))
    rcases h with ⟨rfl, h⟩ | ⟨rfl, h, h2⟩ | ⟨rfl, h, h2, h4⟩
    · exact ⟨0, (P, hs, sv, T, er), by show sp_tr q_ndF (P, hs, sv, T, er) z = _; rw [sp_tr, if_pos h], rfl, hQ1⟩
    · exact ⟨1, (P, hs, sv, T, er), by show sp_tr q_ndF (P, hs, sv, T, er) z = _; rw [sp_tr, if_neg (fun h9 => h9 h), if_pos h2], rfl, hQ1⟩
    · exact ⟨2, (P, hs, sv, T, er), by show sp_tr q_ndF (P, hs, sv, T, er) z = _; rw [sp_tr, if_neg (fun h9 => h9 h), if_neg (fun h9 => h9 h2), if_pos h4], rfl, hQ1⟩) (fun σ_2 hz_2 => ?_)
  obtain ⟨⟨i, rfl, hi, ht, hd⟩, hP1, hL1, hY1, hs1⟩ := hz_2
  have hQ1 := hC.so (hs1.mono (by decide) (by decide))
  have hdr := dsp_rg hP.1 (fm P) hi
  have hin : inI P (i : Int) := by omega
  refine gx_aload_n hx dX8_neededForm_5 rfl ?_
  refine gx_getR hx flX8_56 dX8_neededForm_6 (by decide) rfl rfl ?_
  refine gx_iload_n hx dX8_neededForm_9 rfl ?_
  refine gx_callI hx (c_X7_displacementAt _ _ hP1 hL1 (KO.refl P) hY1 hi ht hd) lkX8_256 mwX7_displacementAt dX8_neededForm_10 (by decide) rfl rfl rfl rfl (Nat.le_of_ble_eq_true rfl) (by decide) ⟨by decide, by decide⟩ (fun z_10 σ_10 hz_10 => ?_)
  obtain ⟨rfl, rfl⟩ := hz_10
  refine gx_callS hx (c_X8_formFor _ _ ⟨by omega, by omega⟩) lkX8_271 mwX8_formFor dX8_neededForm_13 rfl rfl (Nat.le_of_ble_eq_true rfl) (by decide) ⟨by decide, by decide⟩ (fun z_13 σ_13 hz_13 => ?_)
  obtain ⟨rfl, rfl⟩ := hz_13
  refine hret _ _ _ _ _ _ _ (by decide) (by decide) dX8_neededForm_16 rfl rfl ?_
  exact ⟨(P, hs, sv, T, er), by show sp_tr q_ndF (P, hs, sv, T, er) (i : Int) = _; rw [sp_tr, if_neg (fun h9 => h9 hin), Int.toNat_natCast, if_neg (fun h9 => h9 ht), if_neg (by omega), q_ndF], hQ1⟩
set_option maxRecDepth 20000 in
set_option maxHeartbeats 400000 in
theorem c_X8_misfits (g : Gm) (l : Launch) {σ : Sg} {A : AS} (hl : l.stackTraces = false) (hC : CR σ A) : KXI g l yX8_misfits cX8_misfits 1 ((some .int)) (5) 1 6 [.inr 69] σ (SPI (fn (sp_misfits A)) σ) (SPX (fn (sp_misfits A)) σ [exISE]) := by
  refine startXI hl (own := RX8) (by decide +kernel) rfl (Nat.le_of_ble_eq_true rfl) ?_
  intro X hx _ hXl hret hq
  rw [← hXl] at hl
  obtain ⟨P, hs, sv, T, er⟩ := A
  obtain ⟨hP, hH, hS, hT, hM, he1, he2, he3⟩ := id hC
  have hl40 := hP.1.1
  refine gx_aload_n hx dX8_misfits_0 rfl ?_
  refine gx_callXV hx hq (c_X8_requireAllDefined _ _ hl hP) lkX8_262 mwX8_requireAllDefined dX8_misfits_1 (by decide) rfl rfl rfl rfl (Nat.le_of_ble_eq_true rfl) (by decide) ⟨by decide, by decide⟩ (fun E σ9 h => by obtain ⟨rfl, h2, h3⟩ := h; have hQ1 := hC.so (h3.mono (by decide) (by decide)); exact ⟨0, (P, hs, sv, T, er), by show sp_misfits (P, hs, sv, T, er) = _; rw [sp_misfits, if_pos h2], rfl, hQ1⟩) (fun σ_1 hz_1 => ?_)
  obtain ⟨hu, hP1, hL1, hs1⟩ := hz_1
  have hQ1 := hC.so (hs1.mono (by decide) (by decide))
  refine gx_aload_n hx dX8_misfits_4 rfl ?_
  refine gx_getR hx flX8_47 dX8_misfits_5 (by decide) rfl rfl ?_
  refine gx_callV hx (c_X4_compute (P := P) _ _ hP1 hL1) lkX8_265 mwX4_compute dX8_misfits_8 (by decide) rfl rfl rfl rfl (Nat.le_of_ble_eq_true rfl) (by decide) ⟨by decide, by decide⟩ (fun σ_8 hz_8 => ?_)
  obtain ⟨hY2, hs2⟩ := hz_8
  have hP2 := hP1.so hs2 (by decide)
  have hL2 := hL1.so (fun k _ _ => hs2 k (by omega))
  have hs12 : SO _ _ 52 61 := SO.trans hs1 (hs2.mono (by decide) (by decide))
  have hQ2 := hC.so (hs12.mono (by decide) (by decide))
  refine gx_aload_n hx dX8_misfits_11 rfl ?_
  refine gx_getR hx flX8_56 dX8_misfits_12 (by decide) rfl rfl ?_
  refine gx_callI hx (c_X7_numberMisfitting _ _ hP2 hL2 hY2 hu) lkX8_268 mwX7_numberMisfitting dX8_misfits_15 (by decide) rfl rfl rfl rfl (Nat.le_of_ble_eq_true rfl) (by decide) ⟨by decide, by decide⟩ (fun z_15 σ_15 hz_15 => ?_)
  obtain ⟨rfl, rfl⟩ := hz_15
  refine hret _ _ _ _ _ _ _ (by decide) (by decide) dX8_misfits_18 rfl rfl ?_
  exact ⟨(P, hs, sv, T, er), by show sp_misfits (P, hs, sv, T, er) = _; rw [sp_misfits, if_neg (fun h9 => h9 hu)]; rfl, hQ2⟩
set_option maxRecDepth 20000 in
set_option maxHeartbeats 400000 in
theorem c_X8_relax (g : Gm) (l : Launch) {σ : Sg} {A : AS} (hl : l.stackTraces = false) (hC : CR σ A) : KXI g l yX8_relax cX8_relax 1 ((some .int)) (6) 1 6 [.inr 69] σ (SPI (sp_relax A) σ) (SPX (sp_relax A) σ [exISE]) := by
  refine startXI hl (own := RX8) (by decide +kernel) rfl (Nat.le_of_ble_eq_true rfl) ?_
  intro X hx _ hXl hret hq
  rw [← hXl] at hl
  obtain ⟨P, hs, sv, T, er⟩ := A
  obtain ⟨hP, hH, hS, hT, hM, he1, he2, he3⟩ := id hC
  have hl40 := hP.1.1
  refine gx_aload_n hx dX8_relax_0 rfl ?_
  refine gx_callXV hx hq (c_X8_requireAllDefined _ _ hl hP) lkX8_262 mwX8_requireAllDefined dX8_relax_1 (by decide) rfl rfl rfl rfl (Nat.le_of_ble_eq_true rfl) (by decide) ⟨by decide, by decide⟩ (fun E σ9 h => by obtain ⟨rfl, h2, h3⟩ := h; have hQ1 := hC.so (h3.mono (by decide) (by decide)); exact ⟨0, (P, hs, sv, T, er), Or.inl ⟨h2, rfl, rfl, rfl⟩, rfl, hQ1⟩) (fun σ_1 hz_1 => ?_)
  obtain ⟨hu, hP1, hL1, hs1⟩ := hz_1
  have hQ1 := hC.so (hs1.mono (by decide) (by decide))
  refine gx_aload_n hx dX8_relax_4 rfl ?_
  refine gx_getR hx flX8_22 dX8_relax_5 (by decide) rfl rfl ?_
  refine gx_aload_n hx dX8_relax_8 rfl ?_
  refine gx_getR hx flX8_12 dX8_relax_9 (by decide) rfl rfl ?_
  refine gx_callV hx (c_X2_remember (hs := hs) (P := P) _ _ hQ1.1.2.1 hP1) lkX8_149 mwX2_remember dX8_relax_12 (by decide) rfl rfl rfl rfl (Nat.le_of_ble_eq_true rfl) (by decide) ⟨by decide, by decide⟩ (fun σ_12 hz_12 => ?_)
  obtain ⟨hH2, hs2⟩ := hz_12
  have hP2 := hP1.so hs2 (by decide)
  have hL2 := hL1.so (fun k _ _ => hs2 k (by omega))
  refine gx_aload_n hx dX8_relax_15 rfl ?_
  refine gx_getR hx flX8_56 dX8_relax_16 (by decide) rfl rfl ?_
  refine gx_callI hx (c_X7_growAll _ _ hP2 hL2 hu) lkX8_274 mwX7_growAll dX8_relax_19 (by decide) rfl rfl rfl rfl (Nat.le_of_ble_eq_true rfl) (by decide) ⟨by decide, by decide⟩ (fun z_19 σ_19 hz_19 => ?_)
  obtain ⟨⟨k9, rfl, hP3, hk1, hk2⟩, hs3⟩ := hz_19
  refine hret _ _ _ _ _ _ _ (by decide) (by decide) dX8_relax_22 rfl rfl ?_
  exact ⟨(itr k9 (zF P), psh P hs, sv, T, er), Or.inr ⟨hu, k9, rfl, rfl, rfl, hk1, hk2⟩, hC.change hP3 (hH2.so (fun k _ _ => hs3 k (by omega) (by omega))) (fun k hk => (hs3 k (by omega) (by omega)).trans ((hs2 k (by omega)).trans (hs1 k (by omega))))⟩
set_option maxRecDepth 20000 in
set_option maxHeartbeats 400000 in
theorem c_X8_shrink (g : Gm) (l : Launch) {σ : Sg} {A : AS} (hl : l.stackTraces = false) (hC : CR σ A) : KXI g l yX8_shrink cX8_shrink 1 ((some .int)) (6) 2 12 [.inr 69] σ (SPI (sp_shrink A) σ) (SPX (sp_shrink A) σ [exISE]) := by
  refine startXI hl (own := RX8) (by decide +kernel) rfl (Nat.le_of_ble_eq_true rfl) ?_
  intro X hx _ hXl hret hq
  rw [← hXl] at hl
  obtain ⟨P, hs, sv, T, er⟩ := A
  obtain ⟨hP, hH, hS, hT, hM, he1, he2, he3⟩ := id hC
  have hl40 := hP.1.1
  refine gx_aload_n hx dX8_shrink_0 rfl ?_
  refine gx_callXV hx hq (c_X8_requireAllDefined _ _ hl hP) lkX8_262 mwX8_requireAllDefined dX8_shrink_1 (by decide) rfl rfl rfl rfl (Nat.le_of_ble_eq_true rfl) (by decide) ⟨by decide, by decide⟩ (fun E σ9 h => by obtain ⟨rfl, h2, h3⟩ := h; have hQ1 := hC.so (h3.mono (by decide) (by decide)); exact ⟨0, (P, hs, sv, T, er), Or.inl ⟨Or.inl h2, rfl, rfl, rfl⟩, rfl, hQ1⟩) (fun σ_1 hz_1 => ?_)
  obtain ⟨hu, hP1, hL1, hs1⟩ := hz_1
  have hQ1 := hC.so (hs1.mono (by decide) (by decide))
  refine gx_aload_n hx dX8_shrink_4 rfl ?_
  refine gx_getR hx flX8_47 dX8_shrink_5 (by decide) rfl rfl ?_
  refine gx_callV hx (c_X4_compute (P := P) _ _ hP1 hL1) lkX8_265 mwX4_compute dX8_shrink_8 (by decide) rfl rfl rfl rfl (Nat.le_of_ble_eq_true rfl) (by decide) ⟨by decide, by decide⟩ (fun σ_8 hz_8 => ?_)
  obtain ⟨hY2, hs2⟩ := hz_8
  have hP2 := hP1.so hs2 (by decide)
  have hL2 := hL1.so (fun k _ _ => hs2 k (by omega))
  have hs12 : SO _ _ 52 61 := SO.trans hs1 (hs2.mono (by decide) (by decide))
  have hQ2 := hC.so (hs12.mono (by decide) (by decide))
  refine gx_aload_n hx dX8_shrink_11 rfl ?_
  refine gx_getR hx flX8_56 dX8_shrink_12 (by decide) rfl rfl ?_
  refine gx_callI hx (c_X7_numberMisfitting _ _ hP2 hL2 hY2 hu) lkX8_268 mwX7_numberMisfitting dX8_shrink_15 (by decide) rfl rfl rfl rfl (Nat.le_of_ble_eq_true rfl) (by decide) ⟨by decide, by decide⟩ (fun z_15 σ_15 hz_15 => ?_)
  obtain ⟨e9, rfl⟩ := hz_15
  change z_15 = (msf P (fm P) : Int) at e9
  have hle : msf P (fm P) ≤ P.length := cnt_le _ _
  refine gx_if_le (tgt := 32) hx dX8_shrink_18 (by decide) ⟨by omega, by omega⟩ (fun h18 => ?_) (fun h18 => ?_)
  · first
    | (exfalso; omega)
    | (refine gx_aload_n hx dX8_shrink_32 rfl ?_
       refine gx_getR hx flX8_22 dX8_shrink_33 (by decide) rfl rfl ?_
       refine gx_aload_n hx dX8_shrink_36 rfl ?_
       refine gx_getR hx flX8_12 dX8_shrink_37 (by decide) rfl rfl ?_
       refine gx_callV hx (c_X2_remember (hs := hs) (P := P) _ _ hQ2.1.2.1 hP2) lkX8_149 mwX2_remember dX8_shrink_40 (by decide) rfl rfl rfl rfl (Nat.le_of_ble_eq_true rfl) (by decide) ⟨by decide, by decide⟩ (fun σ_40 hz_40 => ?_)
       obtain ⟨hH3, hs3⟩ := hz_40
       have hP3 := hP2.so hs3 (by decide)
       have hL3 := hL2.so (fun k _ _ => hs3 k (by omega))
       refine gx_aload_n hx dX8_shrink_43 rfl ?_
       refine gx_getR hx flX8_56 dX8_shrink_44 (by decide) rfl rfl ?_
       refine gx_callI hx (c_X7_shrinkAll _ _ hP3 hL3 hu) lkX8_279 mwX7_shrinkAll dX8_shrink_47 (by decide) rfl rfl rfl rfl (Nat.le_of_ble_eq_true rfl) (by decide) ⟨by decide, by decide⟩ (fun z_47 σ_47 hz_47 => ?_)
       obtain ⟨⟨k9, rfl, hP4, hk1, hk2⟩, hs4⟩ := hz_47
       refine hret _ _ _ _ _ _ _ (by decide) (by decide) dX8_shrink_50 rfl rfl ?_
       exact ⟨((psN k9 P).1, psh P hs, sv, T, er), Or.inr ⟨hu, by omega, k9, rfl, rfl, rfl, hk1, hk2⟩, hC.change hP4 (hH3.so (fun k _ _ => hs4 k (by omega) (by omega))) (fun k hk => (hs4 k (by omega) (by omega)).trans ((hs3 k (by omega)).trans (hs12 k (by omega))))⟩)
  · first
    | (exfalso; omega)
    | (refine gx_throwW 25 hx hq excISE (by decide) rfl dX8_shrink_21 dX8_shrink_24 dX8_shrink_25 dX8_shrink_28 dX8_shrink_31 (Nat.le_of_ble_eq_true rfl) (by decide) (by decide) ?_
       exact ⟨0, (P, hs, sv, T, er), Or.inl ⟨Or.inr (by omega), rfl, rfl, rfl⟩, rfl, hQ2⟩)
set_option maxRecDepth 20000 in
set_option maxHeartbeats 400000 in
theorem c_X8_leastSize (g : Gm) (l : Launch) {σ : Sg} {A : AS} (hl : l.stackTraces = false) (hC : CR σ A) : KXI g l yX8_leastSize cX8_leastSize 1 ((some .int)) (23) 2 12 [.inr 69] σ (SPI (fn (sp_se (fun P => ((resA P).2.1 : Int)) A)) σ) (SPX (fn (sp_se (fun P => ((resA P).2.1 : Int)) A)) σ [exISE, exUOE]) := by
  refine startXI hl (own := RX8) (by decide +kernel) rfl (Nat.le_of_ble_eq_true rfl) ?_
  intro X hx _ hXl hret hq
  rw [← hXl] at hl
  obtain ⟨P, hs, sv, T, er⟩ := A
  obtain ⟨hP, hH, hS, hT, hM, he1, he2, he3⟩ := id hC
  have hl40 := hP.1.1
  refine gx_aload_n hx dX8_leastSize_0 rfl ?_
  refine gx_callXV hx hq (c_X8_requireSearchable _ _ hl hP) lkX8_282 mwX8_requireSearchable dX8_leastSize_1 (by decide) rfl rfl rfl rfl (Nat.le_of_ble_eq_true rfl) (by decide) ⟨by decide, by decide⟩ (fun E σ9 h => by
    obtain ⟨h, h3⟩ := h
    have hQ1 := hC.so (h3.mono (by decide) (by decide))
    rcases h with ⟨rfl, h⟩ | ⟨rfl, h, h2⟩
    · exact ⟨0, (P, hs, sv, T, er), by show sp_se (fun P => ((resA P).2.1 : Int)) (P, hs, sv, T, er) = _; rw [sp_se, if_pos h], rfl, hQ1⟩
    · exact ⟨1, (P, hs, sv, T, er), by show sp_se (fun P => ((resA P).2.1 : Int)) (P, hs, sv, T, er) = _; rw [sp_se, if_neg (fun h9 => h9 h), if_pos h2], rfl, hQ1⟩) (fun σ_1 hz_1 => ?_)
  obtain ⟨hu, h8, hP1, hL1, hs1⟩ := hz_1
  have hQ1 := hC.so (hs1.mono (by decide) (by decide))
  have hrA := resA_ok hP.1 h8
  refine gx_aload_n hx dX8_leastSize_4 rfl ?_
  refine gx_getR hx flX8_63 dX8_leastSize_5 (by decide) rfl rfl ?_
  refine gx_callV hx (c_X1_run _ _ hP1 hL1 hu h8) lkX8_285 mwX1_run dX8_leastSize_8 (by decide) rfl rfl rfl rfl (Nat.le_of_ble_eq_true rfl) (by decide) ⟨by decide, by decide⟩ (fun σ_8 hz_8 => ?_)
  obtain ⟨hF2, hs2⟩ := hz_8
  have hs12 : SO _ _ 52 66 := SO.trans (hs1.mono (by decide) (by decide)) (hs2.mono (by decide) (by decide))
  have hQ2 := hC.so hs12
  refine gx_aload_n hx dX8_leastSize_11 rfl ?_
  refine gx_getR hx flX8_63 dX8_leastSize_12 (by decide) rfl rfl ?_
  refine gx_callI hx (c_X1_least _ _ hF2) lkX8_288 mwX1_least dX8_leastSize_15 (by decide) rfl rfl rfl rfl (Nat.le_of_ble_eq_true rfl) (by decide) ⟨by decide, by decide⟩ (fun z_15 σ_15 hz_15 => ?_)
  obtain ⟨rfl, rfl⟩ := hz_15
  refine hret _ _ _ _ _ _ _ (by decide) (by decide) dX8_leastSize_18 rfl rfl ?_
  exact ⟨(P, hs, sv, T, er), by show sp_se (fun P => ((resA P).2.1 : Int)) (P, hs, sv, T, er) = _; rw [sp_se, if_neg (fun h9 => h9 hu), if_neg (by omega)], hQ2⟩
set_option maxRecDepth 20000 in
set_option maxHeartbeats 400000 in
theorem c_X8_consistentChoices (g : Gm) (l : Launch) {σ : Sg} {A : AS} (hl : l.stackTraces = false) (hC : CR σ A) : KXI g l yX8_consistentChoices cX8_consistentChoices 1 ((some .int)) (23) 2 12 [.inr 69] σ (SPI (fn (sp_se (fun P => ((resA P).1 : Int)) A)) σ) (SPX (fn (sp_se (fun P => ((resA P).1 : Int)) A)) σ [exISE, exUOE]) := by
  refine startXI hl (own := RX8) (by decide +kernel) rfl (Nat.le_of_ble_eq_true rfl) ?_
  intro X hx _ hXl hret hq
  rw [← hXl] at hl
  obtain ⟨P, hs, sv, T, er⟩ := A
  obtain ⟨hP, hH, hS, hT, hM, he1, he2, he3⟩ := id hC
  have hl40 := hP.1.1
  refine gx_aload_n hx dX8_consistentChoices_0 rfl ?_
  refine gx_callXV hx hq (c_X8_requireSearchable _ _ hl hP) lkX8_282 mwX8_requireSearchable dX8_consistentChoices_1 (by decide) rfl rfl rfl rfl (Nat.le_of_ble_eq_true rfl) (by decide) ⟨by decide, by decide⟩ (fun E σ9 h => by
    obtain ⟨h, h3⟩ := h
    have hQ1 := hC.so (h3.mono (by decide) (by decide))
    rcases h with ⟨rfl, h⟩ | ⟨rfl, h, h2⟩
    · exact ⟨0, (P, hs, sv, T, er), by show sp_se (fun P => ((resA P).1 : Int)) (P, hs, sv, T, er) = _; rw [sp_se, if_pos h], rfl, hQ1⟩
    · exact ⟨1, (P, hs, sv, T, er), by show sp_se (fun P => ((resA P).1 : Int)) (P, hs, sv, T, er) = _; rw [sp_se, if_neg (fun h9 => h9 h), if_pos h2], rfl, hQ1⟩) (fun σ_1 hz_1 => ?_)
  obtain ⟨hu, h8, hP1, hL1, hs1⟩ := hz_1
  have hQ1 := hC.so (hs1.mono (by decide) (by decide))
  have hrA := resA_ok hP.1 h8
  refine gx_aload_n hx dX8_consistentChoices_4 rfl ?_
  refine gx_getR hx flX8_63 dX8_consistentChoices_5 (by decide) rfl rfl ?_
  refine gx_callV hx (c_X1_run _ _ hP1 hL1 hu h8) lkX8_285 mwX1_run dX8_consistentChoices_8 (by decide) rfl rfl rfl rfl (Nat.le_of_ble_eq_true rfl) (by decide) ⟨by decide, by decide⟩ (fun σ_8 hz_8 => ?_)
  obtain ⟨hF2, hs2⟩ := hz_8
  have hs12 : SO _ _ 52 66 := SO.trans (hs1.mono (by decide) (by decide)) (hs2.mono (by decide) (by decide))
  have hQ2 := hC.so hs12
  refine gx_aload_n hx dX8_consistentChoices_11 rfl ?_
  refine gx_getR hx flX8_63 dX8_consistentChoices_12 (by decide) rfl rfl ?_
  refine gx_callI hx (c_X1_choicesFound _ _ hF2) lkX8_294 mwX1_choicesFound dX8_consistentChoices_15 (by decide) rfl rfl rfl rfl (Nat.le_of_ble_eq_true rfl) (by decide) ⟨by decide, by decide⟩ (fun z_15 σ_15 hz_15 => ?_)
  obtain ⟨rfl, rfl⟩ := hz_15
  refine hret _ _ _ _ _ _ _ (by decide) (by decide) dX8_consistentChoices_18 rfl rfl ?_
  exact ⟨(P, hs, sv, T, er), by show sp_se (fun P => ((resA P).1 : Int)) (P, hs, sv, T, er) = _; rw [sp_se, if_neg (fun h9 => h9 hu), if_neg (by omega)], hQ2⟩
set_option maxRecDepth 20000 in
set_option maxHeartbeats 400000 in
theorem c_X8_optimize (g : Gm) (l : Launch) {σ : Sg} {A : AS} (hl : l.stackTraces = false) (hC : CR σ A) : KXI g l yX8_optimize cX8_optimize 1 ((some .int)) (23) 2 12 [.inr 69] σ (SPI (fn (sp_optimize A)) σ) (SPX (fn (sp_optimize A)) σ [exISE, exUOE]) := by
  refine startXI hl (own := RX8) (by decide +kernel) rfl (Nat.le_of_ble_eq_true rfl) ?_
  intro X hx _ hXl hret hq
  rw [← hXl] at hl
  obtain ⟨P, hs, sv, T, er⟩ := A
  obtain ⟨hP, hH, hS, hT, hM, he1, he2, he3⟩ := id hC
  have hl40 := hP.1.1
  refine gx_aload_n hx dX8_optimize_0 rfl ?_
  refine gx_callXV hx hq (c_X8_requireSearchable _ _ hl hP) lkX8_282 mwX8_requireSearchable dX8_optimize_1 (by decide) rfl rfl rfl rfl (Nat.le_of_ble_eq_true rfl) (by decide) ⟨by decide, by decide⟩ (fun E σ9 h => by
    obtain ⟨h, h3⟩ := h
    have hQ1 := hC.so (h3.mono (by decide) (by decide))
    rcases h with ⟨rfl, h⟩ | ⟨rfl, h, h2⟩
    · exact ⟨0, (P, hs, sv, T, er), by show sp_optimize (P, hs, sv, T, er) = _; rw [sp_optimize, if_pos h], rfl, hQ1⟩
    · exact ⟨1, (P, hs, sv, T, er), by show sp_optimize (P, hs, sv, T, er) = _; rw [sp_optimize, if_neg (fun h9 => h9 h), if_pos h2], rfl, hQ1⟩) (fun σ_1 hz_1 => ?_)
  obtain ⟨hu, h8, hP1, hL1, hs1⟩ := hz_1
  have hQ1 := hC.so (hs1.mono (by decide) (by decide))
  have hrA := resA_ok hP.1 h8
  refine gx_aload_n hx dX8_optimize_4 rfl ?_
  refine gx_getR hx flX8_22 dX8_optimize_5 (by decide) rfl rfl ?_
  refine gx_aload_n hx dX8_optimize_8 rfl ?_
  refine gx_getR hx flX8_12 dX8_optimize_9 (by decide) rfl rfl ?_
  refine gx_callV hx (c_X2_remember (hs := hs) (P := P) _ _ hQ1.1.2.1 hP1) lkX8_149 mwX2_remember dX8_optimize_12 (by decide) rfl rfl rfl rfl (Nat.le_of_ble_eq_true rfl) (by decide) ⟨by decide, by decide⟩ (fun σ_12 hz_12 => ?_)
  obtain ⟨hH2, hs2⟩ := hz_12
  have hP2 := hP1.so hs2 (by decide)
  have hL2 := hL1.so (fun k _ _ => hs2 k (by omega))
  refine gx_aload_n hx dX8_optimize_15 rfl ?_
  refine gx_getR hx flX8_63 dX8_optimize_16 (by decide) rfl rfl ?_
  refine gx_callV hx (c_X1_run _ _ hP2 hL2 hu h8) lkX8_285 mwX1_run dX8_optimize_19 (by decide) rfl rfl rfl rfl (Nat.le_of_ble_eq_true rfl) (by decide) ⟨by decide, by decide⟩ (fun σ_19 hz_19 => ?_)
  obtain ⟨hF3, hs3⟩ := hz_19
  have hP3 := hP2.so hs3 (by decide)
  refine gx_aload_n hx dX8_optimize_22 rfl ?_
  refine gx_getR hx flX8_63 dX8_optimize_23 (by decide) rfl rfl ?_
  refine gx_callV hx (c_X1_takeBest _ _ hP3 hF3 hrA.1) lkX8_291 mwX1_takeBest dX8_optimize_26 (by decide) rfl rfl rfl rfl (Nat.le_of_ble_eq_true rfl) (by decide) ⟨by decide, by decide⟩ (fun σ_26 hz_26 => ?_)
  obtain ⟨hP4, hs4⟩ := hz_26
  have hF4 : FQ σ_26 (resA P) := ⟨by rw [hs4 63 (by omega)]; exact hF3.1, by rw [hs4 63 (by omega)]; exact hF3.2.1, fun q hq => by rw [hs4 66 (by omega)]; exact hF3.2.2 q hq⟩
  refine gx_aload_n hx dX8_optimize_29 rfl ?_
  refine gx_getR hx flX8_63 dX8_optimize_30 (by decide) rfl rfl ?_
  refine gx_callI hx (c_X1_least _ _ hF4) lkX8_288 mwX1_least dX8_optimize_33 (by decide) rfl rfl rfl rfl (Nat.le_of_ble_eq_true rfl) (by decide) ⟨by decide, by decide⟩ (fun z_33 σ_33 hz_33 => ?_)
  obtain ⟨rfl, rfl⟩ := hz_33
  refine hret _ _ _ _ _ _ _ (by decide) (by decide) dX8_optimize_36 rfl rfl ?_
  exact ⟨(setF P (resA P).2.2, psh P hs, sv, T, er), by show sp_optimize (P, hs, sv, T, er) = _; rw [sp_optimize, if_neg (fun h9 => h9 hu), if_neg (by omega)], hC.change hP4 (hH2.so (fun k _ _ => (hs4 k (by omega)).trans (hs3 k (by omega)))) (fun k hk => (hs4 k (by omega)).trans ((hs3 k (by omega)).trans ((hs2 k (by omega)).trans (hs1 k (by omega)))))⟩
set_option maxRecDepth 20000 in
set_option maxHeartbeats 400000 in
theorem c_X8_poolCount (g : Gm) (l : Launch) {σ : Sg} {A : AS} (hC : CR σ A) : KI g l yX8_poolCount cX8_poolCount 1 ((some .int)) (3) 0 0 [.inr 69] σ (SPI (fn (sp_poolCount A)) σ) := by
  refine startI (own := RX8) (by decide +kernel) rfl (Nat.le_of_ble_eq_true rfl) ?_
  intro X hx _ _ hret
  obtain ⟨P, hs, sv, T, er⟩ := A
  obtain ⟨hP, hH, hS, hT, hM, he1, he2, he3⟩ := id hC
  have hl40 := hP.1.1
  refine gx_aload_n hx dX8_poolCount_0 rfl ?_
  refine gx_getR hx flX8_38 dX8_poolCount_1 (by decide) rfl rfl ?_
  refine gx_callV hx (c_X5_read (P := P) _ _ hP) lkX8_236 mwX5_read dX8_poolCount_4 (by decide) rfl rfl rfl rfl (Nat.le_of_ble_eq_true rfl) (by decide) ⟨by decide, by decide⟩ (fun σ_4 hz_4 => ?_)
  obtain ⟨hL1, hs1⟩ := hz_4
  have hP1 := hP.so hs1 (by decide)
  have hQ1 := hC.so (hs1.mono (by decide) (by decide))
  refine gx_aload_n hx dX8_poolCount_7 rfl ?_
  refine gx_getR hx flX8_38 dX8_poolCount_8 (by decide) rfl rfl ?_
  refine gx_callI hx (c_X5_endPoolNumber _ _ hP1 hL1) lkX8_305 mwX5_endPoolNumber dX8_poolCount_11 (by decide) rfl rfl rfl rfl (Nat.le_of_ble_eq_true rfl) (by decide) ⟨by decide, by decide⟩ (fun z_11 σ_11 hz_11 => ?_)
  obtain ⟨rfl, rfl⟩ := hz_11
  refine hret _ _ _ _ _ _ _ (by decide) (by decide) dX8_poolCount_14 rfl rfl ?_
  exact ⟨(P, hs, sv, T, er), rfl, hQ1⟩
set_option maxRecDepth 20000 in
set_option maxHeartbeats 400000 in
theorem c_X8_literalCount (g : Gm) (l : Launch) {σ : Sg} {A : AS} {z : Int} (hl : l.stackTraces = false) (hC : CR σ A) (hz : rg z) : KXI g l yX8_literalCount cX8_literalCount 2 ((some .int)) (4) 1 6 [.inr 69, .inl z] σ (SPI (fn (sp_literalCount A z)) σ) (SPX (fn (sp_literalCount A z)) σ [exIOE]) := by
  refine startXI hl (own := RX8) (by decide +kernel) rfl (Nat.le_of_ble_eq_true rfl) ?_
  intro X hx _ hXl hret hq
  rw [← hXl] at hl
  obtain ⟨P, hs, sv, T, er⟩ := A
  obtain ⟨hP, hH, hS, hT, hM, he1, he2, he3⟩ := id hC
  have hl40 := hP.1.1
  obtain ⟨hz1, hz2⟩ := id hz
  refine gx_aload_n hx dX8_literalCount_0 rfl ?_
  refine gx_iload_n hx dX8_literalCount_1 rfl ?_
  refine gx_callXV hx hq (c_X8_requirePool _ _ hl hP hz) lkX8_308 mwX8_requirePool dX8_literalCount_2 (by decide) rfl rfl rfl rfl (Nat.le_of_ble_eq_true rfl) (by decide) ⟨by decide, by decide⟩ (fun E σ9 h => by obtain ⟨rfl, h2, h3⟩ := h; have hQ1 := hC.so (h3.mono (by decide) (by decide)); exact ⟨0, (P, hs, sv, T, er), by show sp_literalCount (P, hs, sv, T, er) z = _; rw [sp_literalCount, if_pos h2], rfl, hQ1⟩) (fun σ_2 hz_2 => ?_)
  obtain ⟨hp, hP1, hL1, hs1⟩ := hz_2
  obtain ⟨p, rfl⟩ : ∃ p : Nat, z = (p : Int) := ⟨z.toNat, by omega⟩
  obtain ⟨y1, y2, y3⟩ := plc_spec (P := P) p (by omega)
  have hvl := vals_le hP.1 y2
  have hQ1 := hC.so (hs1.mono (by decide) (by decide))
  refine gx_aload_n hx dX8_literalCount_5 rfl ?_
  refine gx_getR hx flX8_38 dX8_literalCount_6 (by decide) rfl rfl ?_
  refine gx_iload_n hx dX8_literalCount_9 rfl ?_
  refine gx_callI hx (by have K := c_X5_literalsIn X.1 X.2.2.1 hP1 hL1 y2 y1; rw [y3] at K; exact K) lkX8_311 mwX5_literalsIn dX8_literalCount_10 (by decide) rfl rfl rfl rfl (Nat.le_of_ble_eq_true rfl) (by decide) ⟨by decide, by decide⟩ (fun z_10 σ_10 hz_10 => ?_)
  obtain ⟨rfl, rfl⟩ := hz_10
  refine hret _ _ _ _ _ _ _ (by decide) (by decide) dX8_literalCount_13 rfl rfl ?_
  exact ⟨(P, hs, sv, T, er), by show sp_literalCount (P, hs, sv, T, er) (p : Int) = _; rw [sp_literalCount, if_neg (fun h9 => h9 hp), Int.toNat_natCast], hQ1⟩
set_option maxRecDepth 20000 in
set_option maxHeartbeats 400000 in
theorem c_X8_literal (g : Gm) (l : Launch) {σ : Sg} {A : AS} {z w : Int} (hl : l.stackTraces = false) (hC : CR σ A) (hz : rg z) (hw : rg w) : KXI g l yX8_literal cX8_literal 3 ((some .int)) (5) 2 12 [.inr 69, .inl z, .inl w] σ (SPI (fn (sp_lit q_val A z w)) σ) (SPX (fn (sp_lit q_val A z w)) σ [exIOE]) := by
  refine startXI hl (own := RX8) (by decide +kernel) rfl (Nat.le_of_ble_eq_true rfl) ?_
  intro X hx _ hXl hret hq
  rw [← hXl] at hl
  obtain ⟨P, hs, sv, T, er⟩ := A
  obtain ⟨hP, hH, hS, hT, hM, he1, he2, he3⟩ := id hC
  have hl40 := hP.1.1
  obtain ⟨hz1, hz2⟩ := id hz
  obtain ⟨hw1, hw2⟩ := id hw
  refine gx_aload_n hx dX8_literal_0 rfl ?_
  refine gx_iload_n hx dX8_literal_1 rfl ?_
  refine gx_iload_n hx dX8_literal_2 rfl ?_
  refine gx_callXV hx hq (c_X8_requireLiteral _ _ hl hP hz hw) lkX8_314 mwX8_requireLiteral dX8_literal_3 (by decide) rfl rfl rfl rfl (Nat.le_of_ble_eq_true rfl) (by decide) ⟨by decide, by decide⟩ (fun E σ9 h => by
    obtain ⟨⟨rfl, h⟩, h3⟩ := h
    have hQ1 := hC.so (h3.mono (by decide) (by decide))
    rcases h with h | ⟨h, h2⟩
    · exact ⟨0, (P, hs, sv, T, er), by show sp_lit q_val (P, hs, sv, T, er) z w = _; rw [sp_lit, if_pos h], rfl, hQ1⟩
    · exact ⟨0, (P, hs, sv, T, er), by show sp_lit q_val (P, hs, sv, T, er) z w = _; rw [sp_lit, if_neg (fun h9 => h9 h), if_pos h2], rfl, hQ1⟩) (fun σ_3 hz_3 => ?_)
  obtain ⟨hp, hx9, hP1, hL1, hs1⟩ := hz_3
  obtain ⟨p, rfl⟩ : ∃ p : Nat, z = (p : Int) := ⟨z.toNat, by omega⟩
  obtain ⟨y1, y2, y3⟩ := plc_spec (P := P) p (by omega)
  have hvl := vals_le hP.1 y2
  have hQ1 := hC.so (hs1.mono (by decide) (by decide))
  obtain ⟨n, rfl⟩ : ∃ n : Nat, w = (n : Int) := ⟨w.toNat, by omega⟩
  rw [Int.toNat_natCast] at hx9
  have hgv : (vals P (plc P p))[n]? = some ((vals P (plc P p)).getD n 0) := by rw [List.getD_eq_getElem?_getD, List.getElem?_eq_getElem (by omega)]; rfl
  refine gx_aload_n hx dX8_literal_6 rfl ?_
  refine gx_getR hx flX8_38 dX8_literal_7 (by decide) rfl rfl ?_
  refine gx_iload_n hx dX8_literal_10 rfl ?_
  refine gx_iload_n hx dX8_literal_11 rfl ?_
  refine gx_callI hx (by have K := c_X5_valueOf X.1 X.2.2.1 hP1 hL1 y2 y1 hgv; rw [y3] at K; exact K) lkX8_317 mwX5_valueOf dX8_literal_12 (by decide) rfl rfl rfl rfl (Nat.le_of_ble_eq_true rfl) (by decide) ⟨by decide, by decide⟩ (fun z_12 σ_12 hz_12 => ?_)
  obtain ⟨rfl, rfl⟩ := hz_12
  refine hret _ _ _ _ _ _ _ (by decide) (by decide) dX8_literal_15 rfl rfl ?_
  exact ⟨(P, hs, sv, T, er), by show sp_lit q_val (P, hs, sv, T, er) (p : Int) (n : Int) = _; rw [sp_lit, if_neg (fun h9 => h9 hp), Int.toNat_natCast, if_neg (fun h9 => h9 hx9), Int.toNat_natCast]; rfl, hQ1⟩
set_option maxRecDepth 20000 in
set_option maxHeartbeats 400000 in
theorem c_X8_literalAddress (g : Gm) (l : Launch) {σ : Sg} {A : AS} {z w : Int} (hl : l.stackTraces = false) (hC : CR σ A) (hz : rg z) (hw : rg w) : KXI g l yX8_literalAddress cX8_literalAddress 3 ((some .int)) (5) 2 12 [.inr 69, .inl z, .inl w] σ (SPI (fn (sp_lit q_lad A z w)) σ) (SPX (fn (sp_lit q_lad A z w)) σ [exIOE]) := by
  refine startXI hl (own := RX8) (by decide +kernel) rfl (Nat.le_of_ble_eq_true rfl) ?_
  intro X hx _ hXl hret hq
  rw [← hXl] at hl
  obtain ⟨P, hs, sv, T, er⟩ := A
  obtain ⟨hP, hH, hS, hT, hM, he1, he2, he3⟩ := id hC
  have hl40 := hP.1.1
  obtain ⟨hz1, hz2⟩ := id hz
  obtain ⟨hw1, hw2⟩ := id hw
  refine gx_aload_n hx dX8_literalAddress_0 rfl ?_
  refine gx_iload_n hx dX8_literalAddress_1 rfl ?_
  refine gx_iload_n hx dX8_literalAddress_2 rfl ?_
  refine gx_callXV hx hq (c_X8_requireLiteral _ _ hl hP hz hw) lkX8_314 mwX8_requireLiteral dX8_literalAddress_3 (by decide) rfl rfl rfl rfl (Nat.le_of_ble_eq_true rfl) (by decide) ⟨by decide, by decide⟩ (fun E σ9 h => by
    obtain ⟨⟨rfl, h⟩, h3⟩ := h
    have hQ1 := hC.so (h3.mono (by decide) (by decide))
    rcases h with h | ⟨h, h2⟩
    · exact ⟨0, (P, hs, sv, T, er), by show sp_lit q_lad (P, hs, sv, T, er) z w = _; rw [sp_lit, if_pos h], rfl, hQ1⟩
    · exact ⟨0, (P, hs, sv, T, er), by show sp_lit q_lad (P, hs, sv, T, er) z w = _; rw [sp_lit, if_neg (fun h9 => h9 h), if_pos h2], rfl, hQ1⟩) (fun σ_3 hz_3 => ?_)
  obtain ⟨hp, hx9, hP1, hL1, hs1⟩ := hz_3
  obtain ⟨p, rfl⟩ : ∃ p : Nat, z = (p : Int) := ⟨z.toNat, by omega⟩
  obtain ⟨y1, y2, y3⟩ := plc_spec (P := P) p (by omega)
  have hvl := vals_le hP.1 y2
  have hQ1 := hC.so (hs1.mono (by decide) (by decide))
  obtain ⟨n, rfl⟩ : ∃ n : Nat, w = (n : Int) := ⟨w.toNat, by omega⟩
  rw [Int.toNat_natCast] at hx9
  refine gx_aload_n hx dX8_literalAddress_6 rfl ?_
  refine gx_callR hx (c_X8_freshLayout _ _ hP1) lkX8_178 mwX8_freshLayout dX8_literalAddress_7 (by decide) rfl rfl rfl rfl (Nat.le_of_ble_eq_true rfl) (by decide) ⟨by decide, by decide⟩ (fun z_7 σ_7 hz_7 => ?_)
  obtain ⟨rfl, hL2, hY2, hs2⟩ := hz_7
  have hP2 := hP1.so hs2 (by decide)
  have hQ2 := hC.so ((SO.trans hs1 hs2).mono (lo' := 52) (hi' := 66) (by decide) (by decide))
  refine gx_iload_n hx dX8_literalAddress_10 rfl ?_
  refine gx_iload_n hx dX8_literalAddress_11 rfl ?_
  refine gx_iconst hx dX8_literalAddress_12 ?_
  refine gx_callI hx (by have K := c_X4_addressOfLiteral (ix := n) (m := 0) X.1 X.2.2.1 hP2 hL2 hY2 y2 y1 (by omega) (by decide); rw [y3] at K; exact K) lkX8_320 mwX4_addressOfLiteral dX8_literalAddress_13 (by decide) rfl rfl rfl rfl (Nat.le_of_ble_eq_true rfl) (by decide) ⟨by decide, by decide⟩ (fun z_13 σ_13 hz_13 => ?_)
  obtain ⟨rfl, rfl⟩ := hz_13
  refine hret _ _ _ _ _ _ _ (by decide) (by decide) dX8_literalAddress_16 rfl rfl ?_
  exact ⟨(P, hs, sv, T, er), by show sp_lit q_lad (P, hs, sv, T, er) (p : Int) (n : Int) = _; rw [sp_lit, if_neg (fun h9 => h9 hp), Int.toNat_natCast, if_neg (fun h9 => h9 hx9), Int.toNat_natCast]; rfl, hQ2⟩
set_option maxRecDepth 20000 in
set_option maxHeartbeats 400000 in
theorem c_X8_poolOf (g : Gm) (l : Launch) {σ : Sg} {A : AS} {z : Int} (hl : l.stackTraces = false) (hC : CR σ A) (hz : rg z) : KXI g l yX8_poolOf cX8_poolOf 2 ((some .int)) (3) 2 12 [.inr 69, .inl z] σ (SPI (fn (sp_ld q_pno A z)) σ) (SPX (fn (sp_ld q_pno A z)) σ [exIOE, exIAE]) := by
  refine startXI hl (own := RX8) (by decide +kernel) rfl (Nat.le_of_ble_eq_true rfl) ?_
  intro X hx _ hXl hret hq
  rw [← hXl] at hl
  obtain ⟨P, hs, sv, T, er⟩ := A
  obtain ⟨hP, hH, hS, hT, hM, he1, he2, he3⟩ := id hC
  have hl40 := hP.1.1
  obtain ⟨hz1, hz2⟩ := id hz
  refine gx_aload_n hx dX8_poolOf_0 rfl ?_
  refine gx_iload_n hx dX8_poolOf_1 rfl ?_
  refine gx_callXV hx hq (c_X8_requireLoad _ _ hl hP hz) lkX8_324 mwX8_requireLoad dX8_poolOf_2 (by decide) rfl rfl rfl rfl (Nat.le_of_ble_eq_true rfl) (by decide) ⟨by decide, by decide⟩ (fun E σ9 h => by
    obtain ⟨h, rfl⟩ := h
    rcases h with ⟨rfl, h⟩ | ⟨rfl, h, h2⟩
    · exact ⟨0, (P, hs, sv, T, er), by show sp_ld q_pno (P, hs, sv, T, er) z = _; rw [sp_ld, if_pos h], rfl, hC.refl⟩
    · exact ⟨1, (P, hs, sv, T, er), by show sp_ld q_pno (P, hs, sv, T, er) z = _; rw [sp_ld, if_neg (fun h9 => h9 h), if_pos h2], rfl, hC.refl⟩) (fun σ_2 hz_2 => ?_)
  obtain ⟨⟨i, rfl, hi, h6⟩, rfl⟩ := hz_2
  have hin : inI P (i : Int) := by omega
  refine gx_aload_n hx dX8_poolOf_5 rfl ?_
  refine gx_getR hx flX8_38 dX8_poolOf_6 (by decide) rfl rfl ?_
  refine gx_callV hx (c_X5_read (P := P) _ _ hP) lkX8_236 mwX5_read dX8_poolOf_9 (by decide) rfl rfl rfl rfl (Nat.le_of_ble_eq_true rfl) (by decide) ⟨by decide, by decide⟩ (fun σ_9 hz_9 => ?_)
  obtain ⟨hL1, hs1⟩ := hz_9
  have hP1 := hP.so hs1 (by decide)
  have hQ1 := hC.so (hs1.mono (by decide) (by decide))
  refine gx_aload_n hx dX8_poolOf_12 rfl ?_
  refine gx_getR hx flX8_38 dX8_poolOf_13 (by decide) rfl rfl ?_
  refine gx_iload_n hx dX8_poolOf_16 rfl ?_
  refine gx_callI hx (c_X5_poolAt _ _ hP1 hL1 hi) lkX8_327 mwX5_poolAt dX8_poolOf_17 (by decide) rfl rfl rfl rfl (Nat.le_of_ble_eq_true rfl) (by decide) ⟨by decide, by decide⟩ (fun z_17 σ_17 hz_17 => ?_)
  obtain ⟨rfl, rfl⟩ := hz_17
  refine hret _ _ _ _ _ _ _ (by decide) (by decide) dX8_poolOf_20 rfl rfl ?_
  exact ⟨(P, hs, sv, T, er), by show sp_ld q_pno (P, hs, sv, T, er) (i : Int) = _; rw [sp_ld, if_neg (fun h9 => h9 hin), Int.toNat_natCast, if_neg (fun h9 => h9 h6)]; rfl, hQ1⟩
set_option maxRecDepth 20000 in
set_option maxHeartbeats 400000 in
theorem c_X8_distance (g : Gm) (l : Launch) {σ : Sg} {A : AS} {z : Int} (hl : l.stackTraces = false) (hC : CR σ A) (hz : rg z) : KXI g l yX8_distance cX8_distance 2 ((some .int)) (5) 2 12 [.inr 69, .inl z] σ (SPI (fn (sp_ld q_dst A z)) σ) (SPX (fn (sp_ld q_dst A z)) σ [exIOE, exIAE]) := by
  refine startXI hl (own := RX8) (by decide +kernel) rfl (Nat.le_of_ble_eq_true rfl) ?_
  intro X hx _ hXl hret hq
  rw [← hXl] at hl
  obtain ⟨P, hs, sv, T, er⟩ := A
  obtain ⟨hP, hH, hS, hT, hM, he1, he2, he3⟩ := id hC
  have hl40 := hP.1.1
  obtain ⟨hz1, hz2⟩ := id hz
  refine gx_aload_n hx dX8_distance_0 rfl ?_
  refine gx_iload_n hx dX8_distance_1 rfl ?_
  refine gx_callXV hx hq (c_X8_requireLoad _ _ hl hP hz) lkX8_324 mwX8_requireLoad dX8_distance_2 (by decide) rfl rfl rfl rfl (Nat.le_of_ble_eq_true rfl) (by decide) ⟨by decide, by decide⟩ (fun E σ9 h => by
    obtain ⟨h, rfl⟩ := h
    rcases h with ⟨rfl, h⟩ | ⟨rfl, h, h2⟩
    · exact ⟨0, (P, hs, sv, T, er), by show sp_ld q_dst (P, hs, sv, T, er) z = _; rw [sp_ld, if_pos h], rfl, hC.refl⟩
    · exact ⟨1, (P, hs, sv, T, er), by show sp_ld q_dst (P, hs, sv, T, er) z = _; rw [sp_ld, if_neg (fun h9 => h9 h), if_pos h2], rfl, hC.refl⟩) (fun σ_2 hz_2 => ?_)
  obtain ⟨⟨i, rfl, hi, h6⟩, rfl⟩ := hz_2
  have hin : inI P (i : Int) := by omega
  refine gx_aload_n hx dX8_distance_5 rfl ?_
  refine gx_callR hx (c_X8_freshLayout _ _ hP) lkX8_178 mwX8_freshLayout dX8_distance_6 (by decide) rfl rfl rfl rfl (Nat.le_of_ble_eq_true rfl) (by decide) ⟨by decide, by decide⟩ (fun z_6 σ_6 hz_6 => ?_)
  obtain ⟨rfl, hL1, hY1, hs1⟩ := hz_6
  have hP1 := hP.so hs1 (by decide)
  have hQ1 := hC.so (hs1.mono (by decide) (by decide))
  refine gx_iload_n hx dX8_distance_9 rfl ?_
  refine gx_iconst hx dX8_distance_10 ?_
  refine gx_callI hx (c_X4_distanceWith (m := 0) _ _ hP1 hL1 hY1 hi h6 (by decide)) lkX8_330 mwX4_distanceWith dX8_distance_11 (by decide) rfl rfl rfl rfl (Nat.le_of_ble_eq_true rfl) (by decide) ⟨by decide, by decide⟩ (fun z_11 σ_11 hz_11 => ?_)
  obtain ⟨rfl, rfl⟩ := hz_11
  refine hret _ _ _ _ _ _ _ (by decide) (by decide) dX8_distance_14 rfl rfl ?_
  exact ⟨(P, hs, sv, T, er), by show sp_ld q_dst (P, hs, sv, T, er) (i : Int) = _; rw [sp_ld, if_neg (fun h9 => h9 hin), Int.toNat_natCast, if_neg (fun h9 => h9 h6)]; rfl, hQ1⟩
set_option maxRecDepth 20000 in
set_option maxHeartbeats 400000 in
theorem c_X8_loadsOutOfReach (g : Gm) (l : Launch) {σ : Sg} {A : AS} (hC : CR σ A) : KI g l yX8_loadsOutOfReach cX8_loadsOutOfReach 1 ((some .int)) (5) 0 0 [.inr 69] σ (SPI (fn (sp_loads A)) σ) := by
  refine startI (own := RX8) (by decide +kernel) rfl (Nat.le_of_ble_eq_true rfl) ?_
  intro X hx _ _ hret
  obtain ⟨P, hs, sv, T, er⟩ := A
  obtain ⟨hP, hH, hS, hT, hM, he1, he2, he3⟩ := id hC
  have hl40 := hP.1.1
  refine gx_aload_n hx dX8_loadsOutOfReach_0 rfl ?_
  refine gx_callR hx (c_X8_freshLayout _ _ hP) lkX8_178 mwX8_freshLayout dX8_loadsOutOfReach_1 (by decide) rfl rfl rfl rfl (Nat.le_of_ble_eq_true rfl) (by decide) ⟨by decide, by decide⟩ (fun z_1 σ_1 hz_1 => ?_)
  obtain ⟨rfl, hL1, hY1, hs1⟩ := hz_1
  have hP1 := hP.so hs1 (by decide)
  have hQ1 := hC.so (hs1.mono (by decide) (by decide))
  refine gx_callI hx (c_X4_loadsBeyondReach _ _ hP1 hL1 hY1) lkX8_333 mwX4_loadsBeyondReach dX8_loadsOutOfReach_4 (by decide) rfl rfl rfl rfl (Nat.le_of_ble_eq_true rfl) (by decide) ⟨by decide, by decide⟩ (fun z_4 σ_4 hz_4 => ?_)
  obtain ⟨rfl, rfl⟩ := hz_4
  refine hret _ _ _ _ _ _ _ (by decide) (by decide) dX8_loadsOutOfReach_7 rfl rfl ?_
  exact ⟨(P, hs, sv, T, er), rfl, hQ1⟩
set_option maxRecDepth 20000 in
set_option maxHeartbeats 400000 in
theorem c_X8_slack (g : Gm) (l : Launch) {σ : Sg} {A : AS} {z : Int} (hl : l.stackTraces = false) (hC : CR σ A) (hz : rg z) : KXI g l yX8_slack cX8_slack 2 ((some .int)) (5) 2 12 [.inr 69, .inl z] σ (SPI (sp_slack A z) σ) (SPX (sp_slack A z) σ [exIOE, exIAE]) := by
  refine startXI hl (own := RX8) (by decide +kernel) rfl (Nat.le_of_ble_eq_true rfl) ?_
  intro X hx _ hXl hret hq
  rw [← hXl] at hl
  obtain ⟨P, hs, sv, T, er⟩ := A
  obtain ⟨hP, hH, hS, hT, hM, he1, he2, he3⟩ := id hC
  have hl40 := hP.1.1
  obtain ⟨hz1, hz2⟩ := id hz
  refine gx_aload_n hx dX8_slack_0 rfl ?_
  refine gx_iload_n hx dX8_slack_1 rfl ?_
  refine gx_callXV hx hq (c_X8_requireLoad _ _ hl hP hz) lkX8_324 mwX8_requireLoad dX8_slack_2 (by decide) rfl rfl rfl rfl (Nat.le_of_ble_eq_true rfl) (by decide) ⟨by decide, by decide⟩ (fun E σ9 h => by
    obtain ⟨h, rfl⟩ := h
    rcases h with ⟨rfl, h⟩ | ⟨rfl, h, h2⟩
    · exact ⟨0, (P, hs, sv, T, er), ⟨rfl, Or.inl ⟨h, rfl, rfl⟩⟩, rfl, hC.refl⟩
    · exact ⟨1, (P, hs, sv, T, er), ⟨rfl, Or.inr (Or.inl ⟨h, h2, rfl, rfl⟩)⟩, rfl, hC.refl⟩) (fun σ_2 hz_2 => ?_)
  obtain ⟨⟨i, rfl, hi, h6⟩, rfl⟩ := hz_2
  have hin : inI P (i : Int) := by omega
  refine gx_aload_n hx dX8_slack_5 rfl ?_
  refine gx_callR hx (c_X8_freshLayout _ _ hP) lkX8_178 mwX8_freshLayout dX8_slack_6 (by decide) rfl rfl rfl rfl (Nat.le_of_ble_eq_true rfl) (by decide) ⟨by decide, by decide⟩ (fun z_6 σ_6 hz_6 => ?_)
  obtain ⟨rfl, hL1, hY1, hs1⟩ := hz_6
  have hP1 := hP.so hs1 (by decide)
  have hQ1 := hC.so (hs1.mono (by decide) (by decide))
  refine gx_iload_n hx dX8_slack_9 rfl ?_
  refine gx_callI hx (c_X4_slackOf _ _ hP1 hL1 hY1 hi h6) lkX8_336 mwX4_slackOf dX8_slack_10 (by decide) rfl rfl rfl rfl (Nat.le_of_ble_eq_true rfl) (by decide) ⟨by decide, by decide⟩ (fun z_10 σ_10 hz_10 => ?_)
  obtain ⟨⟨m9, rfl, m1, m2, m3⟩, rfl⟩ := hz_10
  refine hret _ _ _ _ _ _ _ (by decide) (by decide) dX8_slack_13 rfl rfl ?_
  exact ⟨(P, hs, sv, T, er), ⟨rfl, Or.inr (Or.inr ⟨hin, h6, rfl, m9, rfl, m1, m2, m3⟩)⟩, hQ1⟩
set_option maxRecDepth 20000 in
set_option maxHeartbeats 400000 in
theorem c_X8_undo (g : Gm) (l : Launch) {σ : Sg} {A : AS} (hl : l.stackTraces = false) (hC : CR σ A) : KXI g l yX8_undo cX8_undo 1 ((some .int)) (2) 1 6 [.inr 69] σ (SPI (fn (sp_undo A)) σ) (SPX (fn (sp_undo A)) σ [nsN]) := by
  refine startXI hl (own := RX8) (by decide +kernel) rfl (Nat.le_of_ble_eq_true rfl) ?_
  intro X hx _ hXl hret hq
  rw [← hXl] at hl
  obtain ⟨P, hs, sv, T, er⟩ := A
  obtain ⟨hP, hH, hS, hT, hM, he1, he2, he3⟩ := id hC
  have hl40 := hP.1.1
  refine gx_aload_n hx dX8_undo_0 rfl ?_
  refine gx_getR hx flX8_22 dX8_undo_1 (by decide) rfl rfl ?_
  refine gx_callI hx (c_X2_isEmpty _ _ hH) lkX8_339 mwX2_isEmpty dX8_undo_4 (by decide) rfl rfl rfl rfl (Nat.le_of_ble_eq_true rfl) (by decide) ⟨by decide, by decide⟩ (fun z_4 σ_4 hz_4 => ?_)
  obtain ⟨e9, rfl⟩ := hz_4
  have e8 := ite10 e9
  refine gx_if_eq (tgt := 21) hx dX8_undo_7 (by decide) ⟨by omega, by omega⟩ (fun h7 => ?_) (fun h7 => ?_)
  · first
    | (exfalso; omega)
    | (obtain ⟨Q9, r9, rfl⟩ : ∃ Q r, hs = Q :: r := by
         cases hs with
         | nil => simp at e8; omega
         | cons Q r => exact ⟨Q, r, rfl⟩
       refine gx_aload_n hx dX8_undo_21 rfl ?_
       refine gx_getR hx flX8_22 dX8_undo_22 (by decide) rfl rfl ?_
       refine gx_aload_n hx dX8_undo_25 rfl ?_
       refine gx_getR hx flX8_12 dX8_undo_26 (by decide) rfl rfl ?_
       refine gx_callI hx (c_X2_takeBack (hs := r9) (P := Q9) _ _ hH) lkX8_344 mwX2_takeBack dX8_undo_29 (by decide) rfl rfl rfl rfl (Nat.le_of_ble_eq_true rfl) (by decide) ⟨by decide, by decide⟩ (fun z_29 σ_29 hz_29 => ?_)
       obtain ⟨rfl, hH1, hP1, hs1⟩ := hz_29
       refine hret _ _ _ _ _ _ _ (by decide) (by decide) dX8_undo_32 rfl rfl ?_
       exact ⟨(Q9, r9, sv, T, er), rfl, hC.change hP1 hH1 (fun k hk => hs1 k (by omega) (by omega))⟩)
  · first
    | (exfalso; omega)
    | (refine gx_throwNW 31 hx hq (by decide) rfl dX8_undo_10 dX8_undo_13 dX8_undo_14 dX8_undo_17 dX8_undo_20 (Nat.le_of_ble_eq_true rfl) (by decide) (by decide) ?_
       have h0 : hs = [] := List.length_eq_zero_iff.mp (by omega)
       subst h0
       exact ⟨0, (P, [], sv, T, er), rfl, rfl, hC.refl⟩)
set_option maxRecDepth 20000 in
set_option maxHeartbeats 400000 in
theorem c_X8_save (g : Gm) (l : Launch) {σ : Sg} {A : AS} (hC : CR σ A) : KI g l yX8_save cX8_save 1 ((some .int)) (1) 0 0 [.inr 69] σ (SPI (fn (sp_save A)) σ) := by
  refine startI (own := RX8) (by decide +kernel) rfl (Nat.le_of_ble_eq_true rfl) ?_
  intro X hx _ _ hret
  obtain ⟨P, hs, sv, T, er⟩ := A
  obtain ⟨hP, hH, hS, hT, hM, he1, he2, he3⟩ := id hC
  have hl40 := hP.1.1
  refine gx_aload_n hx dX8_save_0 rfl ?_
  refine gx_getR hx flX8_16 dX8_save_1 (by decide) rfl rfl ?_
  refine gx_aload_n hx dX8_save_4 rfl ?_
  refine gx_getR hx flX8_12 dX8_save_5 (by decide) rfl rfl ?_
  refine gx_callV hx (c_X6_copyFrom (j := 1) (j2 := 0) (P := P) _ _ (by decide) (by decide) (by decide) hP) lkX8_348 mwX6_copyFrom dX8_save_8 (by decide) rfl rfl rfl rfl (Nat.le_of_ble_eq_true rfl) (by decide) ⟨by decide, by decide⟩ (fun σ_8 hz_8 => ?_)
  obtain ⟨hP1, hs1⟩ := hz_8
  have hQ := hC.saved hP1 (fun k hk => hs1 k (by omega))
  refine gx_aload_n hx dX8_save_11 rfl ?_
  refine gx_iconst hx dX8_save_12 ?_
  refine gx_put hx fpX8_76 dX8_save_13 (by decide) rfl rfl rfl rfl 9 rfl ?_
  refine gx_aload_n hx dX8_save_16 rfl ?_
  refine gx_getR hx flX8_12 dX8_save_17 (by decide) rfl rfl ?_
  refine gx_callI hx (c_X6_count (j := 0) (P := P) _ _ (by decide) hQ.1.1) lkX8_84 mwX6_count dX8_save_20 (by decide) rfl rfl rfl rfl (Nat.le_of_ble_eq_true rfl) (by decide) ⟨by decide, by decide⟩ (fun z_20 σ_20 hz_20 => ?_)
  obtain ⟨rfl, rfl⟩ := hz_20
  refine hret _ _ _ _ _ _ _ (by decide) (by decide) dX8_save_23 rfl rfl ?_
  exact ⟨(P, hs, some P, T, er), rfl, hQ⟩
set_option maxRecDepth 20000 in
set_option maxHeartbeats 400000 in
theorem c_X8_restore (g : Gm) (l : Launch) {σ : Sg} {A : AS} (hl : l.stackTraces = false) (hC : CR σ A) : KXI g l yX8_restore cX8_restore 1 ((some .int)) (1) 1 6 [.inr 69] σ (SPI (fn (sp_restore A)) σ) (SPX (fn (sp_restore A)) σ [exISE]) := by
  refine startXI hl (own := RX8) (by decide +kernel) rfl (Nat.le_of_ble_eq_true rfl) ?_
  intro X hx _ hXl hret hq
  rw [← hXl] at hl
  obtain ⟨P, hs, sv, T, er⟩ := A
  obtain ⟨hP, hH, hS, hT, hM, he1, he2, he3⟩ := id hC
  have hl40 := hP.1.1
  refine gx_aload_n hx dX8_restore_0 rfl ?_
  refine gx_getI hx flX8_76 dX8_restore_1 (by decide) rfl rfl 9 rfl ?_
  have hS9 : σ 69 9 = 0 ∨ σ 69 9 = 1 := by
    rcases hS with ⟨_, h⟩ | ⟨_, _, h, _⟩
    · exact Or.inl h
    · exact Or.inr h
  refine gx_if_ne (tgt := 18) hx dX8_restore_4 (by decide) ⟨by omega, by omega⟩ (fun h4 => ?_) (fun h4 => ?_)
  · first
    | (exfalso; omega)
    | (obtain ⟨Q9, rfl, hq9, hPQ⟩ : ∃ Q, sv = some Q ∧ σ 69 9 = 1 ∧ PR σ 1 Q := by
         rcases hS with ⟨_, h⟩ | h
         · omega
         · exact h
       refine gx_aload_n hx dX8_restore_18 rfl ?_
       refine gx_getR hx flX8_12 dX8_restore_19 (by decide) rfl rfl ?_
       refine gx_aload_n hx dX8_restore_22 rfl ?_
       refine gx_getR hx flX8_16 dX8_restore_23 (by decide) rfl rfl ?_
       refine gx_callV hx (c_X6_copyFrom (j := 0) (j2 := 1) (P := Q9) _ _ (by decide) (by decide) (by decide) hPQ) lkX8_348 mwX6_copyFrom dX8_restore_26 (by decide) rfl rfl rfl rfl (Nat.le_of_ble_eq_true rfl) (by decide) ⟨by decide, by decide⟩ (fun σ_26 hz_26 => ?_)
       obtain ⟨hP1, hs1⟩ := hz_26
       refine gx_aload_n hx dX8_restore_29 rfl ?_
       refine gx_getR hx flX8_22 dX8_restore_30 (by decide) rfl rfl ?_
       refine gx_callV hx (c_X2_forget (hs := hs) _ _ (hH.so (fun k _ _ => hs1 k (by omega)))) lkX8_91 mwX2_forget dX8_restore_33 (by decide) rfl rfl rfl rfl (Nat.le_of_ble_eq_true rfl) (by decide) ⟨by decide, by decide⟩ (fun σ_33 hz_33 => ?_)
       obtain ⟨hH2, hs2⟩ := hz_33
       have hP2 := hP1.so hs2 (by decide)
       refine gx_aload_n hx dX8_restore_36 rfl ?_
       refine gx_getR hx flX8_12 dX8_restore_37 (by decide) rfl rfl ?_
       refine gx_callI hx (c_X6_count (j := 0) (P := Q9) _ _ (by decide) hP2) lkX8_84 mwX6_count dX8_restore_40 (by decide) rfl rfl rfl rfl (Nat.le_of_ble_eq_true rfl) (by decide) ⟨by decide, by decide⟩ (fun z_40 σ_40 hz_40 => ?_)
       obtain ⟨rfl, rfl⟩ := hz_40
       refine hret _ _ _ _ _ _ _ (by decide) (by decide) dX8_restore_43 rfl rfl ?_
       exact ⟨(Q9, [], some Q9, T, er), rfl, hC.change hP2 hH2 (fun k hk => (hs2 k (by omega)).trans (hs1 k (by omega)))⟩)
  · first
    | (exfalso; omega)
    | (refine gx_throwW 32 hx hq excISE (by decide) rfl dX8_restore_7 dX8_restore_10 dX8_restore_11 dX8_restore_14 dX8_restore_17 (Nat.le_of_ble_eq_true rfl) (by decide) (by decide) ?_
       have h0 : sv = none := by
         rcases hS with ⟨h, _⟩ | ⟨_, _, h, _⟩
         · exact h
         · omega
       subst h0
       exact ⟨0, (P, hs, none, T, er), rfl, rfl, hC.refl⟩)
