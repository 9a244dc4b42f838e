/-! BranchRelaxer: what its calls share -/
set_option maxRecDepth 20000 in
set_option maxHeartbeats 400000 in
theorem c_X8_freshLayout (g : Gm) (l : Launch) {σ : Sg} {P : List It} (hP : PR σ 0 P) : KR g l yX8_freshLayout cX8_freshLayout 1 ((some (.object "BranchRelaxer$Layout"))) (4) 0 0 [.inr 69] σ (fun k σ' => k = 60 ∧ LR σ' P ∧ YR σ' P ∧ SO σ σ' 52 61) := by
  refine startR (own := RX8) (by decide +kernel) rfl (Nat.le_of_ble_eq_true rfl) ?_
  intro X hx _ _ hret
  refine gx_aload_n hx dX8_freshLayout_0 rfl ?_
  refine gx_getR hx flX8_38 dX8_freshLayout_1 (by decide) rfl rfl ?_
  refine gx_callV hx (c_X5_read (P := P) _ _ hP) lkX8_236 mwX5_read dX8_freshLayout_4 (by decide) rfl rfl rfl rfl (Nat.le_of_ble_eq_true rfl) (by decide) ⟨by decide, by decide⟩ (fun σ_4 hz_4 => ?_)
  obtain ⟨hL1, hs1⟩ := hz_4
  have hP1 := hP.so hs1 (by decide)
  refine gx_aload_n hx dX8_freshLayout_7 rfl ?_
  refine gx_getR hx flX8_47 dX8_freshLayout_8 (by decide) rfl rfl ?_
  refine gx_callV hx (c_X4_compute (P := P) _ _ hP1 hL1) lkX8_265 mwX4_compute dX8_freshLayout_11 (by decide) rfl rfl rfl rfl (Nat.le_of_ble_eq_true rfl) (by decide) ⟨by decide, by decide⟩ (fun σ_11 hz_11 => ?_)
  obtain ⟨hY2, hs2⟩ := hz_11
  refine gx_aload_n hx dX8_freshLayout_14 rfl ?_
  refine gx_getR hx flX8_47 dX8_freshLayout_15 (by decide) rfl rfl ?_
  refine hret _ _ _ _ _ _ (by decide) (by decide) dX8_freshLayout_18 ?_
  exact ⟨rfl, hL1.so (fun k _ _ => hs2 k (by omega)), hY2, fun k hk => (hs2 k (by omega)).trans (hs1 k (by omega))⟩
set_option maxRecDepth 20000 in
set_option maxHeartbeats 400000 in
theorem c_X8_requireItem (g : Gm) (l : Launch) {σ : Sg} {P : List It} {z : Int} (hl : l.stackTraces = false) (hP : PR σ 0 P) (hz : rg z) : KXV g l yX8_requireItem cX8_requireItem 2 (1) 1 6 [.inr 69, .inl z] σ (fun σ' => inI P z ∧ σ = σ') (fun E σ' => E = exIOE ∧ ¬ inI P z ∧ σ = σ') := by
  refine startXV hl (own := RX8) (by decide +kernel) rfl (Nat.le_of_ble_eq_true rfl) ?_
  intro X hx _ hXl hret hq
  rw [← hXl] at hl
  refine gx_aload_n hx dX8_requireItem_0 rfl ?_
  refine gx_getR hx flX8_12 dX8_requireItem_1 (by decide) rfl rfl ?_
  refine gx_iload_n hx dX8_requireItem_4 rfl ?_
  refine gx_callI hx (c_X6_has (j := 0) (P := P) _ _ (by decide) hP hz) lkX8_353 mwX6_has dX8_requireItem_5 (by decide) rfl rfl rfl rfl (Nat.le_of_ble_eq_true rfl) (by decide) ⟨by decide, by decide⟩ (fun z_5 σ_5 hz_5 => ?_)
  obtain ⟨e9, rfl⟩ := hz_5
  have e8 := ite10 e9
  refine gx_if_ne (tgt := 22) hx dX8_requireItem_8 (by decide) ⟨by omega, by omega⟩ (fun h8 => ?_) (fun h8 => ?_)
  · first
    | (exfalso; omega)
    | (refine hret _ _ _ _ _ (by decide) (by decide) dX8_requireItem_22 ?_
       exact ⟨by omega, rfl⟩)
  · first
    | (exfalso; omega)
    | (refine gx_throwW 16 hx hq excIOE (by decide) rfl dX8_requireItem_11 dX8_requireItem_14 dX8_requireItem_15 dX8_requireItem_18 dX8_requireItem_21 (Nat.le_of_ble_eq_true rfl) (by decide) (by decide) ?_
       exact ⟨rfl, by omega, rfl⟩)
set_option maxRecDepth 20000 in
set_option maxHeartbeats 400000 in
theorem c_X8_requireTransfer (g : Gm) (l : Launch) {σ : Sg} {P : List It} {i : Nat} (hl : l.stackTraces = false) (hP : PR σ 0 P) (hi : i < P.length) : KXV g l yX8_requireTransfer cX8_requireTransfer 2 (2) 1 6 [.inr 69, .inl (i : Int)] σ (fun σ' => isT P i ∧ σ = σ') (fun E σ' => E = exIAE ∧ ¬ isT P i ∧ σ = σ') := by
  refine startXV hl (own := RX8) (by decide +kernel) rfl (Nat.le_of_ble_eq_true rfl) ?_
  intro X hx _ hXl hret hq
  rw [← hXl] at hl
  refine gx_aload_n hx dX8_requireTransfer_0 rfl ?_
  refine gx_getR hx flX8_12 dX8_requireTransfer_1 (by decide) rfl rfl ?_
  refine gx_iload_n hx dX8_requireTransfer_4 rfl ?_
  refine gx_callI hx (c_X6_isTransfer (j := 0) (P := P) _ _ (by decide) hP hi) lkX8_358 mwX6_isTransfer dX8_requireTransfer_5 (by decide) rfl rfl rfl rfl (Nat.le_of_ble_eq_true rfl) (by decide) ⟨by decide, by decide⟩ (fun z_5 σ_5 hz_5 => ?_)
  obtain ⟨e9, rfl⟩ := hz_5
  have e8 := ite10 e9
  refine gx_if_ne (tgt := 22) hx dX8_requireTransfer_8 (by decide) ⟨by omega, by omega⟩ (fun h8 => ?_) (fun h8 => ?_)
  · first
    | (exfalso; omega)
    | (refine hret _ _ _ _ _ (by decide) (by decide) dX8_requireTransfer_22 ?_
       exact ⟨by omega, rfl⟩)
  · first
    | (exfalso; omega)
    | (refine gx_throwW 19 hx hq excIAE (by decide) rfl dX8_requireTransfer_11 dX8_requireTransfer_14 dX8_requireTransfer_15 dX8_requireTransfer_18 dX8_requireTransfer_21 (Nat.le_of_ble_eq_true rfl) (by decide) (by decide) ?_
       exact ⟨rfl, by omega, rfl⟩)
set_option maxRecDepth 20000 in
set_option maxHeartbeats 400000 in
theorem c_X8_requireForm (g : Gm) (l : Launch) {σ : Sg} {z : Int} (hl : l.stackTraces = false) (hz : rg z) : KXV g l yX8_requireForm cX8_requireForm 2 (0) 1 6 [.inr 69, .inl z] σ (fun σ' => (0 ≤ z ∧ z ≤ 2) ∧ σ = σ') (fun E σ' => E = exIAE ∧ ¬ (0 ≤ z ∧ z ≤ 2) ∧ σ = σ') := by
  refine startXV hl (own := RX8) (by decide +kernel) rfl (Nat.le_of_ble_eq_true rfl) ?_
  intro X hx _ hXl hret hq
  rw [← hXl] at hl
  obtain ⟨hz1, hz2⟩ := hz
  refine gx_iload_n hx dX8_requireForm_0 rfl ?_
  refine gx_if_lt (tgt := 9) hx dX8_requireForm_1 (by decide) ⟨by omega, by omega⟩ (fun h1 => ?_) (fun h1 => ?_)
  · first
    | (exfalso; omega)
    | (refine gx_throwW 20 hx hq excIAE (by decide) rfl dX8_requireForm_9 dX8_requireForm_12 dX8_requireForm_13 dX8_requireForm_16 dX8_requireForm_19 (Nat.le_of_ble_eq_true rfl) (by decide) (by decide) ?_
       exact ⟨rfl, by omega, rfl⟩)
  · first
    | (exfalso; omega)
    | (refine gx_iload_n hx dX8_requireForm_4 rfl ?_
       refine gx_iconst hx dX8_requireForm_5 ?_
       refine gx_icmp_le (tgt := 20) hx dX8_requireForm_6 (by decide) ⟨by omega, by omega⟩ ⟨by omega, by omega⟩ (fun h6 => ?_) (fun h6 => ?_)
       · first
         | (exfalso; omega)
         | (refine hret _ _ _ _ _ (by decide) (by decide) dX8_requireForm_20 ?_
            exact ⟨by omega, rfl⟩)
       · first
         | (exfalso; omega)
         | (refine gx_throwW 20 hx hq excIAE (by decide) rfl dX8_requireForm_9 dX8_requireForm_12 dX8_requireForm_13 dX8_requireForm_16 dX8_requireForm_19 (Nat.le_of_ble_eq_true rfl) (by decide) (by decide) ?_
            exact ⟨rfl, by omega, rfl⟩))
set_option maxRecDepth 20000 in
set_option maxHeartbeats 400000 in
theorem c_X8_requireLoad (g : Gm) (l : Launch) {σ : Sg} {P : List It} {z : Int} (hl : l.stackTraces = false) (hP : PR σ 0 P) (hz : rg z) : KXV g l yX8_requireLoad cX8_requireLoad 2 (2) 2 12 [.inr 69, .inl z] σ (fun σ' => (∃ i : Nat, z = (i : Int) ∧ i < P.length ∧ kd P i = 6) ∧ σ = σ') (fun E σ' => ((E = exIOE ∧ ¬ inI P z) ∨ (E = exIAE ∧ inI P z ∧ kd P z.toNat ≠ 6)) ∧ σ = σ') := by
  refine startXV hl (own := RX8) (by decide +kernel) rfl (Nat.le_of_ble_eq_true rfl) ?_
  intro X hx _ hXl hret hq
  rw [← hXl] at hl
  refine gx_aload_n hx dX8_requireLoad_0 rfl ?_
  refine gx_iload_n hx dX8_requireLoad_1 rfl ?_
  refine gx_callXV hx hq (c_X8_requireItem _ _ hl hP hz) lkX8_161 mwX8_requireItem dX8_requireLoad_2 (by decide) rfl rfl rfl rfl (Nat.le_of_ble_eq_true rfl) (by decide) ⟨by decide, by decide⟩ (fun E σ9 h => by obtain ⟨h1, h2, h3⟩ := h; exact ⟨Or.inl ⟨h1, h2⟩, h3⟩) (fun σ_2 hz_2 => ?_)
  obtain ⟨hin, rfl⟩ := hz_2
  obtain ⟨i, rfl⟩ : ∃ i : Nat, z = (i : Int) := ⟨z.toNat, by omega⟩
  have hi : i < P.length := by omega
  have hk9 := hP.1.2.1 i
  unfold okI at hk9
  refine gx_aload_n hx dX8_requireLoad_5 rfl ?_
  refine gx_getR hx flX8_12 dX8_requireLoad_6 (by decide) rfl rfl ?_
  refine gx_iload_n hx dX8_requireLoad_9 rfl ?_
  refine gx_callI hx (c_X6_kindAt (j := 0) (P := P) _ _ (by decide) hP hi) lkX8_168 mwX6_kindAt dX8_requireLoad_10 (by decide) rfl rfl rfl rfl (Nat.le_of_ble_eq_true rfl) (by decide) ⟨by decide, by decide⟩ (fun z_10 σ_10 hz_10 => ?_)
  obtain ⟨rfl, rfl⟩ := hz_10
  refine gx_bipush hx dX8_requireLoad_13 (by decide) ?_
  refine gx_icmp_eq (tgt := 29) hx dX8_requireLoad_15 (by decide) ⟨by omega, by omega⟩ ⟨by omega, by omega⟩ (fun h15 => ?_) (fun h15 => ?_)
  · first
    | (exfalso; omega)
    | (refine hret _ _ _ _ _ (by decide) (by decide) dX8_requireLoad_29 ?_
       exact ⟨⟨i, rfl, hi, by omega⟩, rfl⟩)
  · first
    | (exfalso; omega)
    | (refine gx_throwW 30 hx hq excIAE (by decide) rfl dX8_requireLoad_18 dX8_requireLoad_21 dX8_requireLoad_22 dX8_requireLoad_25 dX8_requireLoad_28 (Nat.le_of_ble_eq_true rfl) (by decide) (by decide) ?_
       exact ⟨Or.inr ⟨rfl, hin, by rw [Int.toNat_natCast]; omega⟩, rfl⟩)
set_option maxRecDepth 20000 in
set_option maxHeartbeats 400000 in
theorem c_X8_requireTarget (g : Gm) (l : Launch) {σ : Sg} {P : List It} {z : Int} (hl : l.stackTraces = false) (hP : PR σ 0 P) (hz : rg z) : KXV g l yX8_requireTarget cX8_requireTarget 2 (5) 3 18 [.inr 69, .inl z] σ (fun σ' => (∃ i : Nat, z = (i : Int) ∧ i < P.length ∧ isT P i ∧ 0 ≤ dfn P (op P i) P.length) ∧ PR σ' 0 P ∧ LR σ' P ∧ YR σ' P ∧ SO σ σ' 52 61) (fun E σ' => ((E = exIOE ∧ ¬ inI P z) ∨ (E = exIAE ∧ inI P z ∧ ¬ isT P z.toNat) ∨ (E = nsN ∧ inI P z ∧ isT P z.toNat ∧ dfn P (op P z.toNat) P.length = -1)) ∧ SO σ σ' 52 61) := by
  refine startXV hl (own := RX8) (by decide +kernel) rfl (Nat.le_of_ble_eq_true rfl) ?_
  intro X hx _ hXl hret hq
  rw [← hXl] at hl
  refine gx_aload_n hx dX8_requireTarget_0 rfl ?_
  refine gx_iload_n hx dX8_requireTarget_1 rfl ?_
  refine gx_callXV hx hq (c_X8_requireItem _ _ hl hP hz) lkX8_161 mwX8_requireItem dX8_requireTarget_2 (by decide) rfl rfl rfl rfl (Nat.le_of_ble_eq_true rfl) (by decide) ⟨by decide, by decide⟩ (fun E σ9 h => by obtain ⟨h1, h2, rfl⟩ := h; exact ⟨Or.inl ⟨h1, h2⟩, SO.refl⟩) (fun σ_2 hz_2 => ?_)
  obtain ⟨hin, rfl⟩ := hz_2
  obtain ⟨i, rfl⟩ : ∃ i : Nat, z = (i : Int) := ⟨z.toNat, by omega⟩
  have hi : i < P.length := by omega
  refine gx_aload_n hx dX8_requireTarget_5 rfl ?_
  refine gx_iload_n hx dX8_requireTarget_6 rfl ?_
  refine gx_callXV hx hq (c_X8_requireTransfer _ _ hl hP hi) lkX8_205 mwX8_requireTransfer dX8_requireTarget_7 (by decide) rfl rfl rfl rfl (Nat.le_of_ble_eq_true rfl) (by decide) ⟨by decide, by decide⟩ (fun E σ9 h => by obtain ⟨h1, h2, rfl⟩ := h; exact ⟨Or.inr (Or.inl ⟨h1, hin, h2⟩), SO.refl⟩) (fun σ_7 hz_7 => ?_)
  obtain ⟨ht, rfl⟩ := hz_7
  refine gx_aload_n hx dX8_requireTarget_10 rfl ?_
  refine gx_callR hx (c_X8_freshLayout _ _ hP) lkX8_178 mwX8_freshLayout dX8_requireTarget_11 (by decide) rfl rfl rfl rfl (Nat.le_of_ble_eq_true rfl) (by decide) ⟨by decide, by decide⟩ (fun z_11 σ_11 hz_11 => ?_)
  obtain ⟨rfl, hL1, hY1, hs1⟩ := hz_11
  have hP1 := hP.so hs1 (by decide)
  refine gx_pop hx dX8_requireTarget_14 ?_
  refine gx_aload_n hx dX8_requireTarget_15 rfl ?_
  refine gx_getR hx flX8_56 dX8_requireTarget_16 (by decide) rfl rfl ?_
  refine gx_iload_n hx dX8_requireTarget_19 rfl ?_
  refine gx_callI hx (c_X7_isDefined _ _ hP1 hL1 hi ht) lkX8_367 mwX7_isDefined dX8_requireTarget_20 (by decide) rfl rfl rfl rfl (Nat.le_of_ble_eq_true rfl) (by decide) ⟨by decide, by decide⟩ (fun z_20 σ_20 hz_20 => ?_)
  obtain ⟨hd9, rfl⟩ := hz_20
  have hdl := dfn_lt P (op P i) P.length
  refine gx_if_ne (tgt := 36) hx dX8_requireTarget_23 (by decide) ⟨by omega, by omega⟩ (fun h23 => ?_) (fun h23 => ?_)
  · first
    | (exfalso; omega)
    | (refine hret _ _ _ _ _ (by decide) (by decide) dX8_requireTarget_36 ?_
       exact ⟨⟨i, rfl, hi, ht, by omega⟩, hP1, hL1, hY1, hs1⟩)
  · first
    | (exfalso; omega)
    | (refine gx_throwN 22 hx hq (by decide) rfl dX8_requireTarget_26 dX8_requireTarget_29 dX8_requireTarget_30 dX8_requireTarget_32 dX8_requireTarget_35 (Nat.le_of_ble_eq_true rfl) (by decide) (by decide) ?_
       exact ⟨Or.inr (Or.inr ⟨rfl, hin, ht, by rw [Int.toNat_natCast]; omega⟩), hs1⟩)
set_option maxRecDepth 20000 in
set_option maxHeartbeats 400000 in
theorem c_X8_requireAllDefined (g : Gm) (l : Launch) {σ : Sg} {P : List It} (hl : l.stackTraces = false) (hP : PR σ 0 P) : KXV g l yX8_requireAllDefined cX8_requireAllDefined 1 (3) 1 6 [.inr 69] σ (fun σ' => udf P = 0 ∧ PR σ' 0 P ∧ LR σ' P ∧ SO σ σ' 52 61) (fun E σ' => E = exISE ∧ udf P ≠ 0 ∧ SO σ σ' 52 61) := by
  refine startXV hl (own := RX8) (by decide +kernel) rfl (Nat.le_of_ble_eq_true rfl) ?_
  intro X hx _ hXl hret hq
  rw [← hXl] at hl
  refine gx_aload_n hx dX8_requireAllDefined_0 rfl ?_
  refine gx_getR hx flX8_38 dX8_requireAllDefined_1 (by decide) rfl rfl ?_
  refine gx_callV hx (c_X5_read (P := P) _ _ hP) lkX8_236 mwX5_read dX8_requireAllDefined_4 (by decide) rfl rfl rfl rfl (Nat.le_of_ble_eq_true rfl) (by decide) ⟨by decide, by decide⟩ (fun σ_4 hz_4 => ?_)
  obtain ⟨hL1, hs1⟩ := hz_4
  have hP1 := hP.so hs1 (by decide)
  replace hs1 := hs1.mono (lo' := 52) (hi' := 61) (by decide) (by decide)
  refine gx_aload_n hx dX8_requireAllDefined_7 rfl ?_
  refine gx_getR hx flX8_56 dX8_requireAllDefined_8 (by decide) rfl rfl ?_
  refine gx_callI hx (c_X7_numberUndefined _ _ hP1 hL1) lkX8_250 mwX7_numberUndefined dX8_requireAllDefined_11 (by decide) rfl rfl rfl rfl (Nat.le_of_ble_eq_true rfl) (by decide) ⟨by decide, by decide⟩ (fun z_11 σ_11 hz_11 => ?_)
  obtain ⟨e9, rfl⟩ := hz_11
  change z_11 = (udf P : Int) at e9
  have hle : udf P ≤ P.length := cnt_le _ _
  have hl40 := hP.1.1
  refine gx_if_le (tgt := 28) hx dX8_requireAllDefined_14 (by decide) ⟨by omega, by omega⟩ (fun h14 => ?_) (fun h14 => ?_)
  · first
    | (exfalso; omega)
    | (refine hret _ _ _ _ _ (by decide) (by decide) dX8_requireAllDefined_28 ?_
       exact ⟨by omega, hP1, hL1, hs1⟩)
  · first
    | (exfalso; omega)
    | (refine gx_throwW 24 hx hq excISE (by decide) rfl dX8_requireAllDefined_17 dX8_requireAllDefined_20 dX8_requireAllDefined_21 dX8_requireAllDefined_24 dX8_requireAllDefined_27 (Nat.le_of_ble_eq_true rfl) (by decide) (by decide) ?_
       exact ⟨rfl, by omega, hs1⟩)
set_option maxRecDepth 20000 in
set_option maxHeartbeats 400000 in
theorem c_X8_requireSearchable (g : Gm) (l : Launch) {σ : Sg} {P : List It} (hl : l.stackTraces = false) (hP : PR σ 0 P) : KXV g l yX8_requireSearchable cX8_requireSearchable 1 (4) 2 12 [.inr 69] σ (fun σ' => udf P = 0 ∧ nT P ≤ 8 ∧ PR σ' 0 P ∧ LR σ' P ∧ SO σ σ' 52 61) (fun E σ' => ((E = exISE ∧ udf P ≠ 0) ∨ (E = exUOE ∧ udf P = 0 ∧ 8 < nT P)) ∧ SO σ σ' 52 61) := by
  refine startXV hl (own := RX8) (by decide +kernel) rfl (Nat.le_of_ble_eq_true rfl) ?_
  intro X hx _ hXl hret hq
  rw [← hXl] at hl
  refine gx_aload_n hx dX8_requireSearchable_0 rfl ?_
  refine gx_callXV hx hq (c_X8_requireAllDefined _ _ hl hP) lkX8_262 mwX8_requireAllDefined dX8_requireSearchable_1 (by decide) rfl rfl rfl rfl (Nat.le_of_ble_eq_true rfl) (by decide) ⟨by decide, by decide⟩ (fun E σ9 h => by obtain ⟨h1, h2, h3⟩ := h; exact ⟨Or.inl ⟨h1, h2⟩, h3⟩) (fun σ_1 hz_1 => ?_)
  obtain ⟨hu, hP1, hL1, hs1⟩ := hz_1
  refine gx_aload_n hx dX8_requireSearchable_4 rfl ?_
  refine gx_getR hx flX8_56 dX8_requireSearchable_5 (by decide) rfl rfl ?_
  refine gx_callI hx (c_X7_number _ _ hP1) lkX8_244 mwX7_number dX8_requireSearchable_8 (by decide) rfl rfl rfl rfl (Nat.le_of_ble_eq_true rfl) (by decide) ⟨by decide, by decide⟩ (fun z_8 σ_8 hz_8 => ?_)
  obtain ⟨e9, rfl⟩ := hz_8
  change z_8 = (nT P : Int) at e9
  have hle : nT P ≤ P.length := cnt_le _ _
  have hl40 := hP.1.1
  refine gx_bipush hx dX8_requireSearchable_11 (by decide) ?_
  refine gx_icmp_le (tgt := 27) hx dX8_requireSearchable_13 (by decide) ⟨by omega, by omega⟩ ⟨by omega, by omega⟩ (fun h13 => ?_) (fun h13 => ?_)
  · first
    | (exfalso; omega)
    | (refine hret _ _ _ _ _ (by decide) (by decide) dX8_requireSearchable_27 ?_
       exact ⟨hu, by omega, hP1, hL1, hs1⟩)
  · first
    | (exfalso; omega)
    | (refine gx_throwW 26 hx hq excUOE (by decide) rfl dX8_requireSearchable_16 dX8_requireSearchable_19 dX8_requireSearchable_20 dX8_requireSearchable_23 dX8_requireSearchable_26 (Nat.le_of_ble_eq_true rfl) (by decide) (by decide) ?_
       exact ⟨Or.inr ⟨rfl, hu, by omega⟩, hs1⟩)
set_option maxRecDepth 20000 in
set_option maxHeartbeats 400000 in
theorem c_X8_requirePool (g : Gm) (l : Launch) {σ : Sg} {P : List It} {z : Int} (hl : l.stackTraces = false) (hP : PR σ 0 P) (hz : rg z) : KXV g l yX8_requirePool cX8_requirePool 2 (3) 1 6 [.inr 69, .inl z] σ (fun σ' => (0 ≤ z ∧ z ≤ (pno P P.length : Int)) ∧ PR σ' 0 P ∧ LR σ' P ∧ SO σ σ' 52 61) (fun E σ' => E = exIOE ∧ ¬ (0 ≤ z ∧ z ≤ (pno P P.length : Int)) ∧ SO σ σ' 52 61) := by
  refine startXV hl (own := RX8) (by decide +kernel) rfl (Nat.le_of_ble_eq_true rfl) ?_
  intro X hx _ hXl hret hq
  rw [← hXl] at hl
  obtain ⟨hz1, hz2⟩ := hz
  have hpl := pno_le P P.length
  have hl40 := hP.1.1
  refine gx_aload_n hx dX8_requirePool_0 rfl ?_
  refine gx_getR hx flX8_38 dX8_requirePool_1 (by decide) rfl rfl ?_
  refine gx_callV hx (c_X5_read (P := P) _ _ hP) lkX8_236 mwX5_read dX8_requirePool_4 (by decide) rfl rfl rfl rfl (Nat.le_of_ble_eq_true rfl) (by decide) ⟨by decide, by decide⟩ (fun σ_4 hz_4 => ?_)
  obtain ⟨hL1, hs1⟩ := hz_4
  have hP1 := hP.so hs1 (by decide)
  replace hs1 := hs1.mono (lo' := 52) (hi' := 61) (by decide) (by decide)
  refine gx_iload_n hx dX8_requirePool_7 rfl ?_
  refine gx_if_lt (tgt := 22) hx dX8_requirePool_8 (by decide) ⟨by omega, by omega⟩ (fun h8 => ?_) (fun h8 => ?_)
  · first
    | (exfalso; omega)
    | (refine gx_throwW 28 hx hq excIOE (by decide) rfl dX8_requirePool_22 dX8_requirePool_25 dX8_requirePool_26 dX8_requirePool_29 dX8_requirePool_32 (Nat.le_of_ble_eq_true rfl) (by decide) (by decide) ?_
       exact ⟨rfl, by omega, hs1⟩)
  · first
    | (exfalso; omega)
    | (refine gx_iload_n hx dX8_requirePool_11 rfl ?_
       refine gx_aload_n hx dX8_requirePool_12 rfl ?_
       refine gx_getR hx flX8_38 dX8_requirePool_13 (by decide) rfl rfl ?_
       refine gx_callI hx (c_X5_endPoolNumber _ _ hP1 hL1) lkX8_305 mwX5_endPoolNumber dX8_requirePool_16 (by decide) rfl rfl rfl rfl (Nat.le_of_ble_eq_true rfl) (by decide) ⟨by decide, by decide⟩ (fun z_16 σ_16 hz_16 => ?_)
       obtain ⟨e9, rfl⟩ := hz_16
       refine gx_icmp_le (tgt := 33) hx dX8_requirePool_19 (by decide) ⟨by omega, by omega⟩ ⟨by omega, by omega⟩ (fun h19 => ?_) (fun h19 => ?_)
       · first
         | (exfalso; omega)
         | (refine hret _ _ _ _ _ (by decide) (by decide) dX8_requirePool_33 ?_
            exact ⟨by omega, hP1, hL1, hs1⟩)
       · first
         | (exfalso; omega)
         | (refine gx_throwW 28 hx hq excIOE (by decide) rfl dX8_requirePool_22 dX8_requirePool_25 dX8_requirePool_26 dX8_requirePool_29 dX8_requirePool_32 (Nat.le_of_ble_eq_true rfl) (by decide) (by decide) ?_
            exact ⟨rfl, by omega, hs1⟩))
set_option maxRecDepth 20000 in
set_option maxHeartbeats 400000 in
theorem c_X8_requireLiteral (g : Gm) (l : Launch) {σ : Sg} {P : List It} {z w : Int} (hl : l.stackTraces = false) (hP : PR σ 0 P) (hz : rg z) (hw : rg w) : KXV g l yX8_requireLiteral cX8_requireLiteral 3 (4) 2 12 [.inr 69, .inl z, .inl w] σ (fun σ' => (0 ≤ z ∧ z ≤ (pno P P.length : Int)) ∧ (0 ≤ w ∧ w < ((vals P (plc P z.toNat)).length : Int)) ∧ PR σ' 0 P ∧ LR σ' P ∧ SO σ σ' 52 61) (fun E σ' => (E = exIOE ∧ (¬ (0 ≤ z ∧ z ≤ (pno P P.length : Int)) ∨ ((0 ≤ z ∧ z ≤ (pno P P.length : Int)) ∧ ¬ (0 ≤ w ∧ w < ((vals P (plc P z.toNat)).length : Int))))) ∧ SO σ σ' 52 61) := by
  refine startXV hl (own := RX8) (by decide +kernel) rfl (Nat.le_of_ble_eq_true rfl) ?_
  intro X hx _ hXl hret hq
  rw [← hXl] at hl
  obtain ⟨hw1, hw2⟩ := hw
  refine gx_aload_n hx dX8_requireLiteral_0 rfl ?_
  refine gx_iload_n hx dX8_requireLiteral_1 rfl ?_
  refine gx_callXV hx hq (c_X8_requirePool _ _ hl hP hz) lkX8_308 mwX8_requirePool dX8_requireLiteral_2 (by decide) rfl rfl rfl rfl (Nat.le_of_ble_eq_true rfl) (by decide) ⟨by decide, by decide⟩ (fun E σ9 h => by obtain ⟨h1, h2, h3⟩ := h; exact ⟨⟨h1, Or.inl h2⟩, h3⟩) (fun σ_2 hz_2 => ?_)
  obtain ⟨hp, hP1, hL1, hs1⟩ := hz_2
  obtain ⟨p, rfl⟩ : ∃ p : Nat, z = (p : Int) := ⟨z.toNat, by omega⟩
  rw [Int.toNat_natCast] at *
  obtain ⟨y1, y2, y3⟩ := plc_spec (P := P) p (by omega)
  have hvl := vals_le hP.1 y2
  refine gx_iload_n hx dX8_requireLiteral_5 rfl ?_
  refine gx_if_lt (tgt := 21) hx dX8_requireLiteral_6 (by decide) ⟨by omega, by omega⟩ (fun h6 => ?_) (fun h6 => ?_)
  · first
    | (exfalso; omega)
    | (refine gx_throwW 29 hx hq excIOE (by decide) rfl dX8_requireLiteral_21 dX8_requireLiteral_24 dX8_requireLiteral_25 dX8_requireLiteral_28 dX8_requireLiteral_31 (Nat.le_of_ble_eq_true rfl) (by decide) (by decide) ?_
       exact ⟨⟨rfl, Or.inr ⟨hp, by omega⟩⟩, hs1⟩)
  · first
    | (exfalso; omega)
    | (refine gx_iload_n hx dX8_requireLiteral_9 rfl ?_
       refine gx_aload_n hx dX8_requireLiteral_10 rfl ?_
       refine gx_getR hx flX8_38 dX8_requireLiteral_11 (by decide) rfl rfl ?_
       refine gx_iload_n hx dX8_requireLiteral_14 rfl ?_
       refine gx_callI hx (by have K := c_X5_literalsIn X.1 X.2.2.1 hP1 hL1 y2 y1; rw [y3] at K; exact K) lkX8_311 mwX5_literalsIn dX8_requireLiteral_15 (by decide) rfl rfl rfl rfl (Nat.le_of_ble_eq_true rfl) (by decide) ⟨by decide, by decide⟩ (fun z_15 σ_15 hz_15 => ?_)
       obtain ⟨e9, rfl⟩ := hz_15
       refine gx_icmp_lt (tgt := 32) hx dX8_requireLiteral_18 (by decide) ⟨by omega, by omega⟩ ⟨by omega, by omega⟩ (fun h18 => ?_) (fun h18 => ?_)
       · first
         | (exfalso; omega)
         | (refine hret _ _ _ _ _ (by decide) (by decide) dX8_requireLiteral_32 ?_
            exact ⟨hp, by omega, hP1, hL1, hs1⟩)
       · first
         | (exfalso; omega)
         | (refine gx_throwW 29 hx hq excIOE (by decide) rfl dX8_requireLiteral_21 dX8_requireLiteral_24 dX8_requireLiteral_25 dX8_requireLiteral_28 dX8_requireLiteral_31 (Nat.le_of_ble_eq_true rfl) (by decide) (by decide) ?_
            exact ⟨⟨rfl, Or.inr ⟨hp, by omega⟩⟩, hs1⟩))
