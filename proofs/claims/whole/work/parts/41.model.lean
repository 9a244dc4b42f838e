/-! The reference: items, values, sizes, addresses -/
set_option maxRecDepth 20000 in
set_option maxHeartbeats 400000 in
theorem c_X9_thrown (g : Gm) (l : Launch) {σ : Sg}   : KI g l yX9_thrown cX9_thrown 1 ((some .int)) (0) 0 0 [.inr 70] σ (fun r σ' => r = σ 70 0 ∧ σ = σ') := by
  refine startI (own := RX9) (by decide +kernel) rfl (Nat.le_of_ble_eq_true rfl) ?_
  intro X hx _ _ hret
  refine gx_aload_n hx dX9_thrown_0 rfl ?_
  refine gx_getI hx flX9_46 dX9_thrown_1 (by decide) rfl rfl 0 rfl ?_
  refine hret _ _ _ _ _ _ _ (by decide) (by decide) dX9_thrown_4 rfl rfl ?_
  exact ⟨rfl, rfl⟩
set_option maxRecDepth 20000 in
set_option maxHeartbeats 400000 in
theorem c_X9_in (g : Gm) (l : Launch) {σ : Sg} {v lo hi : Int} (hv : rg v) (hlo : rg lo) (hhi : rg hi) : KI g l yX9_in cX9_in 3 ((some .boolean)) (0) 0 0 [.inl v, .inl lo, .inl hi] σ (fun r σ' => r = (if lo ≤ v ∧ v ≤ hi then 1 else 0) ∧ σ = σ') := by
  refine startI (own := RX9) (by decide +kernel) rfl (Nat.le_of_ble_eq_true rfl) ?_
  intro X hx _ _ hret
  obtain ⟨a1, a2⟩ := hv
  obtain ⟨b1, b2⟩ := hlo
  obtain ⟨d1, d2⟩ := hhi
  refine gx_iload_n hx dX9_in_0 rfl ?_
  refine gx_iload_n hx dX9_in_1 rfl ?_
  refine gx_icmp_lt (tgt := 14) hx dX9_in_2 (by decide) ⟨by omega, by omega⟩ ⟨by omega, by omega⟩ (fun h2 => ?_) (fun h2 => ?_)
  · first
    | (exfalso; omega)
    | (refine gx_iconst hx dX9_in_14 ?_
       refine hret _ _ _ _ _ _ _ (by decide) (by decide) dX9_in_15 rfl rfl ?_
       exact ⟨by first | rw [if_pos (by omega)] | rw [if_neg (by omega)], rfl⟩)
  · first
    | (exfalso; omega)
    | (refine gx_iload_n hx dX9_in_5 rfl ?_
       refine gx_iload_n hx dX9_in_6 rfl ?_
       refine gx_icmp_gt (tgt := 14) hx dX9_in_7 (by decide) ⟨by omega, by omega⟩ ⟨by omega, by omega⟩ (fun h7 => ?_) (fun h7 => ?_)
       · first
         | (exfalso; omega)
         | (refine gx_iconst hx dX9_in_14 ?_
            refine hret _ _ _ _ _ _ _ (by decide) (by decide) dX9_in_15 rfl rfl ?_
            exact ⟨by first | rw [if_pos (by omega)] | rw [if_neg (by omega)], rfl⟩)
       · first
         | (exfalso; omega)
         | (refine gx_iconst hx dX9_in_10 ?_
            refine gx_goto (tgt := 15) hx dX9_in_11 (by decide) ?_
            refine hret _ _ _ _ _ _ _ (by decide) (by decide) dX9_in_15 rfl rfl ?_
            exact ⟨by first | rw [if_pos (by omega)] | rw [if_neg (by omega)], rfl⟩))
set_option maxRecDepth 20000 in
set_option maxHeartbeats 400000 in
theorem c_X9_fails (g : Gm) (l : Launch) {σ : Sg} {v : Int}  : KI g l yX9_fails cX9_fails 2 ((some .int)) (0) 0 0 [.inr 70, .inl v] σ (fun r σ' => r = 0 ∧ σ' = upd2 σ 70 0 v) := by
  refine startI (own := RX9) (by decide +kernel) rfl (Nat.le_of_ble_eq_true rfl) ?_
  intro X hx _ _ hret
  refine gx_aload_n hx dX9_fails_0 rfl ?_
  refine gx_iload_n hx dX9_fails_1 rfl ?_
  refine gx_put hx fpX9_46 dX9_fails_2 (by decide) rfl rfl rfl rfl 0 rfl ?_
  refine gx_iconst hx dX9_fails_5 ?_
  refine hret _ _ _ _ _ _ _ (by decide) (by decide) dX9_fails_6 rfl rfl ?_
  exact ⟨rfl, rfl⟩
set_option maxRecDepth 20000 in
set_option maxHeartbeats 400000 in
theorem c_X9_done (g : Gm) (l : Launch) {σ : Sg} {v : Int}  : KI g l yX9_done cX9_done 2 ((some .int)) (0) 0 0 [.inr 70, .inl v] σ (fun r σ' => r = v ∧ σ' = upd2 σ 70 0 0) := by
  refine startI (own := RX9) (by decide +kernel) rfl (Nat.le_of_ble_eq_true rfl) ?_
  intro X hx _ _ hret
  refine gx_aload_n hx dX9_done_0 rfl ?_
  refine gx_iconst hx dX9_done_1 ?_
  refine gx_put hx fpX9_46 dX9_done_2 (by decide) rfl rfl rfl rfl 0 rfl ?_
  refine gx_iload_n hx dX9_done_5 rfl ?_
  refine hret _ _ _ _ _ _ _ (by decide) (by decide) dX9_done_6 rfl rfl ?_
  exact ⟨rfl, rfl⟩
set_option maxRecDepth 20000 in
set_option maxHeartbeats 400000 in
theorem r_X9_kind (g : Gm) (l : Launch) {σ : Sg} {z : Int} (h0 : 0 ≤ z) (h1 : z < 40) : KI g l yX9_kind cX9_kind 2 ((some .int)) (0) 0 0 [.inr 70, .inl z] σ (fun r σ' => r = σ 71 (1 + z) ∧ σ = σ') := by
  refine startI (own := RX9) (by decide +kernel) rfl (Nat.le_of_ble_eq_true rfl) ?_
  intro X hx _ _ hret
  refine gx_aload_n hx dX9_kind_0 rfl ?_
  refine gx_getR hx flX9_7 dX9_kind_1 (by decide) rfl rfl ?_
  refine gx_iconst hx dX9_kind_4 ?_
  refine gx_iload_n hx dX9_kind_5 rfl ?_
  refine gx_iadd hx dX9_kind_6 ?_
  refine gx_iald hx dX9_kind_7 (by decide) rfl (by omega) (by omega) (by decide) ?_
  refine hret _ _ _ _ _ _ _ (by decide) (by decide) dX9_kind_8 rfl rfl ?_
  exact ⟨rfl, rfl⟩
set_option maxRecDepth 20000 in
set_option maxHeartbeats 400000 in
theorem c_X9_kind (g : Gm) (l : Launch) {σ : Sg} {P : List It} {i : Nat} (hM : MP σ P) (hi : i < P.length) : KI g l yX9_kind cX9_kind 2 ((some .int)) (0) 0 0 [.inr 70, .inl (i : Int)] σ (fun r σ' => r = (kd P i : Int) ∧ σ = σ') := by
  refine startI (own := RX9) (by decide +kernel) rfl (Nat.le_of_ble_eq_true rfl) ?_
  intro X hx _ _ hret
  obtain ⟨hok, hn, hit⟩ := id hM
  have hl40 := hok.1
  refine gx_aload_n hx dX9_kind_0 rfl ?_
  refine gx_getR hx flX9_7 dX9_kind_1 (by decide) rfl rfl ?_
  refine gx_iconst hx dX9_kind_4 ?_
  refine gx_iload_n hx dX9_kind_5 rfl ?_
  refine gx_iadd hx dX9_kind_6 ?_
  refine gx_iald hx dX9_kind_7 (by decide) rfl (by omega) (by omega) (by decide) ?_
  refine hret _ _ _ _ _ _ _ (by decide) (by decide) dX9_kind_8 rfl rfl ?_
  exact ⟨(hit i hi).1, rfl⟩
set_option maxRecDepth 20000 in
set_option maxHeartbeats 400000 in
theorem r_X9_operand (g : Gm) (l : Launch) {σ : Sg} {z : Int} (h0 : 0 ≤ z) (h1 : z < 40) : KI g l yX9_operand cX9_operand 2 ((some .int)) (0) 0 0 [.inr 70, .inl z] σ (fun r σ' => r = σ 71 (41 + z) ∧ σ = σ') := by
  refine startI (own := RX9) (by decide +kernel) rfl (Nat.le_of_ble_eq_true rfl) ?_
  intro X hx _ _ hret
  refine gx_aload_n hx dX9_operand_0 rfl ?_
  refine gx_getR hx flX9_7 dX9_operand_1 (by decide) rfl rfl ?_
  refine gx_bipush hx dX9_operand_4 (by decide) ?_
  refine gx_iload_n hx dX9_operand_6 rfl ?_
  refine gx_iadd hx dX9_operand_7 ?_
  refine gx_iald hx dX9_operand_8 (by decide) rfl (by omega) (by omega) (by decide) ?_
  refine hret _ _ _ _ _ _ _ (by decide) (by decide) dX9_operand_9 rfl rfl ?_
  exact ⟨rfl, rfl⟩
set_option maxRecDepth 20000 in
set_option maxHeartbeats 400000 in
theorem c_X9_operand (g : Gm) (l : Launch) {σ : Sg} {P : List It} {i : Nat} (hM : MP σ P) (hi : i < P.length) : KI g l yX9_operand cX9_operand 2 ((some .int)) (0) 0 0 [.inr 70, .inl (i : Int)] σ (fun r σ' => r = (op P i : Int) ∧ σ = σ') := by
  refine startI (own := RX9) (by decide +kernel) rfl (Nat.le_of_ble_eq_true rfl) ?_
  intro X hx _ _ hret
  obtain ⟨hok, hn, hit⟩ := id hM
  have hl40 := hok.1
  refine gx_aload_n hx dX9_operand_0 rfl ?_
  refine gx_getR hx flX9_7 dX9_operand_1 (by decide) rfl rfl ?_
  refine gx_bipush hx dX9_operand_4 (by decide) ?_
  refine gx_iload_n hx dX9_operand_6 rfl ?_
  refine gx_iadd hx dX9_operand_7 ?_
  refine gx_iald hx dX9_operand_8 (by decide) rfl (by omega) (by omega) (by decide) ?_
  refine hret _ _ _ _ _ _ _ (by decide) (by decide) dX9_operand_9 rfl rfl ?_
  exact ⟨(hit i hi).2.1, rfl⟩
set_option maxRecDepth 20000 in
set_option maxHeartbeats 400000 in
theorem r_X9_form (g : Gm) (l : Launch) {σ : Sg} {z : Int} (h0 : 0 ≤ z) (h1 : z < 40) : KI g l yX9_form cX9_form 2 ((some .int)) (0) 0 0 [.inr 70, .inl z] σ (fun r σ' => r = σ 71 (81 + z) ∧ σ = σ') := by
  refine startI (own := RX9) (by decide +kernel) rfl (Nat.le_of_ble_eq_true rfl) ?_
  intro X hx _ _ hret
  refine gx_aload_n hx dX9_form_0 rfl ?_
  refine gx_getR hx flX9_7 dX9_form_1 (by decide) rfl rfl ?_
  refine gx_bipush hx dX9_form_4 (by decide) ?_
  refine gx_iload_n hx dX9_form_6 rfl ?_
  refine gx_iadd hx dX9_form_7 ?_
  refine gx_iald hx dX9_form_8 (by decide) rfl (by omega) (by omega) (by decide) ?_
  refine hret _ _ _ _ _ _ _ (by decide) (by decide) dX9_form_9 rfl rfl ?_
  exact ⟨rfl, rfl⟩
set_option maxRecDepth 20000 in
set_option maxHeartbeats 400000 in
theorem c_X9_form (g : Gm) (l : Launch) {σ : Sg} {P : List It} {i : Nat} (hM : MP σ P) (hi : i < P.length) : KI g l yX9_form cX9_form 2 ((some .int)) (0) 0 0 [.inr 70, .inl (i : Int)] σ (fun r σ' => r = (fm P i : Int) ∧ σ = σ') := by
  refine startI (own := RX9) (by decide +kernel) rfl (Nat.le_of_ble_eq_true rfl) ?_
  intro X hx _ _ hret
  obtain ⟨hok, hn, hit⟩ := id hM
  have hl40 := hok.1
  refine gx_aload_n hx dX9_form_0 rfl ?_
  refine gx_getR hx flX9_7 dX9_form_1 (by decide) rfl rfl ?_
  refine gx_bipush hx dX9_form_4 (by decide) ?_
  refine gx_iload_n hx dX9_form_6 rfl ?_
  refine gx_iadd hx dX9_form_7 ?_
  refine gx_iald hx dX9_form_8 (by decide) rfl (by omega) (by omega) (by decide) ?_
  refine hret _ _ _ _ _ _ _ (by decide) (by decide) dX9_form_9 rfl rfl ?_
  exact ⟨(hit i hi).2.2, rfl⟩
set_option maxRecDepth 20000 in
set_option maxHeartbeats 400000 in
theorem c_X9_forms (g : Gm) (l : Launch) {σ : Sg} {z v : Int} (h0 : 0 ≤ z) (h1 : z < 40) : KV g l yX9_forms cX9_forms 3 (0) 0 0 [.inr 70, .inl z, .inl v] σ (fun σ' => σ' = upd2 σ 71 (81 + z) v) := by
  refine startV (own := RX9) (by decide +kernel) rfl (Nat.le_of_ble_eq_true rfl) ?_
  intro X hx _ _ hret
  refine gx_aload_n hx dX9_forms_0 rfl ?_
  refine gx_getR hx flX9_7 dX9_forms_1 (by decide) rfl rfl ?_
  refine gx_bipush hx dX9_forms_4 (by decide) ?_
  refine gx_iload_n hx dX9_forms_6 rfl ?_
  refine gx_iadd hx dX9_forms_7 ?_
  refine gx_iload_n hx dX9_forms_8 rfl ?_
  refine gx_iast hx dX9_forms_9 (by decide) rfl (by omega) (by omega) (by decide) ?_
  refine hret _ _ _ _ _ (by decide) (by decide) dX9_forms_10 ?_
  exact rfl
set_option maxRecDepth 20000 in
set_option maxHeartbeats 400000 in
theorem c_X9_isItem (g : Gm) (l : Launch) {σ : Sg} {P : List It} {z : Int} (hM : MP σ P) (hz : rg z) : KI g l yX9_isItem cX9_isItem 2 ((some .boolean)) (1) 0 0 [.inr 70, .inl z] σ (fun r σ' => r = (if inI P z then 1 else 0) ∧ σ = σ') := by
  refine startI (own := RX9) (by decide +kernel) rfl (Nat.le_of_ble_eq_true rfl) ?_
  intro X hx _ _ hret
  obtain ⟨hok, hn, hit⟩ := id hM
  have hl40 := hok.1
  refine gx_iload_n hx dX9_isItem_0 rfl ?_
  refine gx_iconst hx dX9_isItem_1 ?_
  refine gx_aload_n hx dX9_isItem_2 rfl ?_
  refine gx_getR hx flX9_7 dX9_isItem_3 (by decide) rfl rfl ?_
  refine gx_iconst hx dX9_isItem_6 ?_
  refine gx_iald hx dX9_isItem_7 (by decide) rfl (by omega) (by omega) (by decide) ?_
  rw [hn]
  refine gx_iconst hx dX9_isItem_8 ?_
  refine gx_isub hx dX9_isItem_9 ?_
  refine gx_callS hx (c_X9_in (v := z) (lo := 0) (hi := (P.length : Int) - 1) _ _ hz ⟨by omega, by omega⟩ ⟨by omega, by omega⟩) lkX9_49 mwX9_in dX9_isItem_10 rfl rfl (Nat.le_of_ble_eq_true rfl) (by decide) ⟨by decide, by decide⟩ (fun z_10 σ_10 hz_10 => ?_)
  obtain ⟨e9, rfl⟩ := hz_10
  replace e9 := ite10 e9
  refine hret _ _ _ _ _ _ _ (by decide) (by decide) dX9_isItem_13 rfl (nar_z (by omega)) ?_
  exact ⟨by split <;> omega, rfl⟩
set_option maxRecDepth 20000 in
set_option maxHeartbeats 400000 in
theorem c_X9_isTransfer (g : Gm) (l : Launch) {σ : Sg} {P : List It} {i : Nat} (hM : MP σ P) (hi : i < P.length) : KI g l yX9_isTransfer cX9_isTransfer 2 ((some .boolean)) (1) 0 0 [.inr 70, .inl (i : Int)] σ (fun r σ' => r = (if isT P i then 1 else 0) ∧ σ = σ') := by
  refine startI (own := RX9) (by decide +kernel) rfl (Nat.le_of_ble_eq_true rfl) ?_
  intro X hx _ _ hret
  have hrg := hM.rg i
  refine gx_aload_n hx dX9_isTransfer_0 rfl ?_
  refine gx_iload_n hx dX9_isTransfer_1 rfl ?_
  refine gx_callI hx (c_X9_kind _ _ hM hi) lkX9_53 mwX9_kind dX9_isTransfer_2 (by decide) rfl rfl rfl rfl (Nat.le_of_ble_eq_true rfl) (by decide) ⟨by decide, by decide⟩ (fun z_2 σ_2 hz_2 => ?_)
  obtain ⟨rfl, rfl⟩ := hz_2
  refine gx_iconst hx dX9_isTransfer_5 ?_
  refine gx_iconst hx dX9_isTransfer_6 ?_
  refine gx_callS hx (c_X9_in (v := (kd P i : Int)) (lo := 4) (hi := 5) _ _ ⟨by omega, by omega⟩ ⟨by omega, by omega⟩ ⟨by omega, by omega⟩) lkX9_49 mwX9_in dX9_isTransfer_7 rfl rfl (Nat.le_of_ble_eq_true rfl) (by decide) ⟨by decide, by decide⟩ (fun z_7 σ_7 hz_7 => ?_)
  obtain ⟨e9, rfl⟩ := hz_7
  replace e9 := ite10 e9
  refine hret _ _ _ _ _ _ _ (by decide) (by decide) dX9_isTransfer_10 rfl (nar_z (by omega)) ?_
  exact ⟨by split <;> omega, rfl⟩
set_option maxRecDepth 20000 in
set_option maxHeartbeats 400000 in
theorem c_X9_valueAt (g : Gm) (l : Launch) {σ : Sg} {vs : List Nat} {v : Nat} (hV : TV σ vs) (hl : vs.length ≤ 40) (hv : v < 100) : KI g l yX9_valueAt cX9_valueAt 3 ((some .int)) (0) 0 0 [.inr 70, .inl (v : Int)] σ (fun r σ' => r = vix vs v ∧ σ = σ') := by
  refine startI (own := RX9) (by decide +kernel) rfl (Nat.le_of_ble_eq_true rfl) ?_
  intro X hx _ _ hret
  obtain ⟨hv1, hv2⟩ := id hV
  refine gx_iconst hx dX9_valueAt_0 ?_
  refine gx_istore_n hx dX9_valueAt_1 (Nat.le_of_ble_eq_true rfl) ?_
  refine gx_loop (α := Nat) (fun n => n ≤ vs.length ∧ ∀ j, j < n → vs.getD j 0 ≠ v) (fun n => vs.length - n) (fun n => [some (.inr 70), some (.inl (v : Int)), some (.inl (n : Int))]) (fun _ => []) (fun _ => σ) ?_ 0 ⟨Nat.zero_le _, fun j hj => absurd hj (Nat.not_lt_zero _)⟩
  rintro n ⟨hnl, hno⟩ ih
  refine gx_iload_n hx dX9_valueAt_2 rfl ?_
  refine gx_aload_n hx dX9_valueAt_3 rfl ?_
  refine gx_getI hx flX9_60 dX9_valueAt_4 (by decide) rfl rfl 11 rfl ?_
  refine gx_icmp_ge (tgt := 28) hx dX9_valueAt_7 (by decide) ⟨by omega, by omega⟩ ⟨by omega, by omega⟩ (fun h7 => ?_) (fun h7 => ?_)
  · first
    | (exfalso; omega)
    | (refine gx_iconst hx dX9_valueAt_28 ?_
       refine hret _ _ _ _ _ _ _ (by decide) (by decide) dX9_valueAt_29 rfl rfl ?_
       exact ⟨(vix_no (fun j hj => hno j (by omega))).symm, rfl⟩)
  · first
    | (exfalso; omega)
    | (refine gx_aload_n hx dX9_valueAt_10 rfl ?_
       refine gx_getR hx flX9_30 dX9_valueAt_11 (by decide) rfl rfl ?_
       refine gx_iload_n hx dX9_valueAt_14 rfl ?_
       refine gx_iald hx dX9_valueAt_15 (by decide) rfl (by omega) (by omega) (by decide) ?_
       have hvn := hv2 n (by omega)
       refine gx_iload_n hx dX9_valueAt_16 rfl ?_
       refine gx_icmp_ne (tgt := 22) hx dX9_valueAt_17 (by decide) ⟨by omega, by omega⟩ ⟨by omega, by omega⟩ (fun h17 => ?_) (fun h17 => ?_)
       · first
         | (exfalso; omega)
         | (refine gx_iinc hx dX9_valueAt_22 (Nat.le_of_ble_eq_true rfl) rfl ?_
            refine gx_goto (tgt := 2) hx dX9_valueAt_25 (by decide) ?_
            refine ih (n + 1) ⟨by omega, fun j hj => ?_⟩ (by omega)
            rcases Nat.lt_or_ge j n with h | h
            · exact hno j h
            · have e : j = n := by omega
              subst e
              omega)
       · first
         | (exfalso; omega)
         | (refine gx_iload_n hx dX9_valueAt_20 rfl ?_
            refine hret _ _ _ _ _ _ _ (by decide) (by decide) dX9_valueAt_21 rfl rfl ?_
            exact ⟨(vix_at (by omega) (by omega) hno).symm, rfl⟩))
set_option maxRecDepth 20000 in
set_option maxHeartbeats 400000 in
theorem c_X9_upTo (g : Gm) (l : Launch) {σ : Sg} {a u : Nat} (ha : a < 200000) (hu : 0 < u) (hu2 : u ≤ 16) : KI g l yX9_upTo cX9_upTo 2 ((some .int)) (0) 0 0 [.inl (a : Int), .inl (u : Int)] σ (fun r σ' => r = ((a + gap a u : Nat) : Int) ∧ σ = σ') := by
  refine startI (own := RX9) (by decide +kernel) rfl (Nat.le_of_ble_eq_true rfl) ?_
  intro X hx _ _ hret
  refine gx_iload_n hx dX9_upTo_0 rfl ?_
  refine gx_iload_n hx dX9_upTo_1 rfl ?_
  refine gx_iadd hx dX9_upTo_2 ?_
  refine gx_iconst hx dX9_upTo_3 ?_
  refine gx_isub hx dX9_upTo_4 ?_
  refine gx_iload_n hx dX9_upTo_5 rfl ?_
  refine gx_idiv hx dX9_upTo_6 ⟨by omega, by omega⟩ ⟨by omega, by omega⟩ (by omega) (by omega) ?_
  refine gx_iload_n hx dX9_upTo_7 rfl ?_
  refine gx_imul hx dX9_upTo_8 ?_
  refine hret _ _ _ _ _ _ _ (by decide) (by decide) dX9_upTo_9 rfl rfl ?_
  exact ⟨upTo_gapI a u hu, rfl⟩
set_option maxRecDepth 20000 in
set_option maxHeartbeats 400000 in
theorem c_X9_transferSize (g : Gm) (l : Launch) {σ : Sg} {k f : Nat} (hk : k = 4 ∨ k = 5) (hf : f ≤ 2) : KI g l yX9_transferSize cX9_transferSize 2 ((some .int)) (0) 0 0 [.inl (k : Int), .inl (f : Int)] σ (fun r σ' => r = ((if k = 4 then jsz f else bsz f : Nat) : Int) ∧ σ = σ') := by
  refine startI (own := RX9) (by decide +kernel) rfl (Nat.le_of_ble_eq_true rfl) ?_
  intro X hx _ _ hret
  refine gx_iload_n hx dX9_transferSize_0 rfl ?_
  refine gx_if_ne (tgt := 8) hx dX9_transferSize_1 (by decide) ⟨by omega, by omega⟩ (fun h1 => ?_) (fun h1 => ?_)
  · first
    | (exfalso; omega)
    | (refine gx_iload_n hx dX9_transferSize_8 rfl ?_
       refine gx_iconst hx dX9_transferSize_9 ?_
       refine gx_icmp_ne (tgt := 26) hx dX9_transferSize_10 (by decide) ⟨by omega, by omega⟩ ⟨by omega, by omega⟩ (fun h10 => ?_) (fun h10 => ?_)
       · first
         | (exfalso; omega)
         | (refine gx_iload_n hx dX9_transferSize_26 rfl ?_
            refine gx_iconst hx dX9_transferSize_27 ?_
            refine gx_icmp_ne (tgt := 35) hx dX9_transferSize_28 (by decide) ⟨by omega, by omega⟩ ⟨by omega, by omega⟩ (fun h28 => ?_) (fun h28 => ?_)
            · first
              | (exfalso; omega)
              | (refine gx_bipush hx dX9_transferSize_35 (by decide) ?_
                 refine hret _ _ _ _ _ _ _ (by decide) (by decide) dX9_transferSize_37 rfl rfl ?_
                 exact ⟨by unfold jsz bsz; (repeat' split) <;> omega, rfl⟩)
            · first
              | (exfalso; omega)
              | (refine gx_iconst hx dX9_transferSize_31 ?_
                 refine gx_goto (tgt := 37) hx dX9_transferSize_32 (by decide) ?_
                 refine hret _ _ _ _ _ _ _ (by decide) (by decide) dX9_transferSize_37 rfl rfl ?_
                 exact ⟨by unfold jsz bsz; (repeat' split) <;> omega, rfl⟩))
       · first
         | (exfalso; omega)
         | (refine gx_iload_n hx dX9_transferSize_13 rfl ?_
            refine gx_iconst hx dX9_transferSize_14 ?_
            refine gx_icmp_ne (tgt := 22) hx dX9_transferSize_15 (by decide) ⟨by omega, by omega⟩ ⟨by omega, by omega⟩ (fun h15 => ?_) (fun h15 => ?_)
            · first
              | (exfalso; omega)
              | (refine gx_iconst hx dX9_transferSize_22 ?_
                 refine gx_goto (tgt := 37) hx dX9_transferSize_23 (by decide) ?_
                 refine hret _ _ _ _ _ _ _ (by decide) (by decide) dX9_transferSize_37 rfl rfl ?_
                 exact ⟨by unfold jsz bsz; (repeat' split) <;> omega, rfl⟩)
            · first
              | (exfalso; omega)
              | (refine gx_iconst hx dX9_transferSize_18 ?_
                 refine gx_goto (tgt := 37) hx dX9_transferSize_19 (by decide) ?_
                 refine hret _ _ _ _ _ _ _ (by decide) (by decide) dX9_transferSize_37 rfl rfl ?_
                 exact ⟨by unfold jsz bsz; (repeat' split) <;> omega, rfl⟩)))
  · first
    | (exfalso; omega)
    | (refine gx_iconst hx dX9_transferSize_4 ?_
       refine gx_goto (tgt := 37) hx dX9_transferSize_5 (by decide) ?_
       refine hret _ _ _ _ _ _ _ (by decide) (by decide) dX9_transferSize_37 rfl rfl ?_
       exact ⟨by unfold jsz bsz; (repeat' split) <;> omega, rfl⟩)
set_option maxRecDepth 20000 in
set_option maxHeartbeats 400000 in
theorem c_X9_tellValues (g : Gm) (l : Launch) {σ : Sg} {P : List It} {q : Nat} (hM : MP σ P) (hq : q ≤ P.length) : KV g l yX9_tellValues cX9_tellValues 4 (1) 0 0 [.inr 70, .inl (q : Int)] σ (fun σ' => TV σ' (vals P q) ∧ FR σ σ' c1 f1) := by
  refine startV (own := RX9) (by decide +kernel) rfl (Nat.le_of_ble_eq_true rfl) ?_
  intro X hx _ _ hret
  obtain ⟨hok, hn, hit⟩ := id hM
  have hl40 := hok.1
  refine gx_iload_n hx dX9_tellValues_0 rfl ?_
  refine gx_istore_n hx dX9_tellValues_1 (Nat.le_of_ble_eq_true rfl) ?_
  refine gx_loop (α := Nat) (fun n => n ≤ q ∧ ∀ j, n ≤ j → j < q → kd P j ≠ 7) (fun n => n) (fun n => [some (.inr 70), some (.inl (q : Int)), some (.inl (n : Int)), none]) (fun _ => []) (fun _ => σ) ?_ q ⟨Nat.le_refl _, fun j h1 h2 => by omega⟩
  rintro n ⟨hnq, hno⟩ ih
  refine gx_iload_n hx dX9_tellValues_2 rfl ?_
  refine gx_if_le (tgt := 24) hx dX9_tellValues_3 (by decide) ⟨by omega, by omega⟩ (fun h3 => ?_) (fun h3 => ?_)
  · first
    | (exfalso; omega)
    | (have hv0 : vals P n = [] := by
         apply vals_7
         first
         | (left; omega)
         | (right; exact ⟨by omega, by rw [show n - 1 = b by omega]; omega⟩)
       have hnq9 : n ≤ q := hnq
       refine gx_aload_n hx dX9_tellValues_24 rfl ?_
       refine gx_iconst hx dX9_tellValues_25 ?_
       refine gx_put hx fpX9_60 dX9_tellValues_26 (by decide) rfl rfl rfl rfl 11 rfl ?_
       refine gx_iload_n hx dX9_tellValues_29 rfl ?_
       refine gx_istore_n hx dX9_tellValues_30 (Nat.le_of_ble_eq_true rfl) ?_
       refine gx_loop (α := Nat × Sg) (fun x => n ≤ x.1 ∧ x.1 ≤ q ∧ TV x.2 (vals P x.1) ∧ FR σ x.2 c1 f1) (fun x => q - x.1) (fun x => [some (.inr 70), some (.inl (q : Int)), some (.inl (n : Int)), some (.inl (x.1 : Int))]) (fun _ => []) (fun x => x.2) ?_ (n, upd2 σ 70 11 0) ⟨Nat.le_refl _, hnq, ⟨by dsimp only; rw [upd2_at, hv0]; rfl, fun k hk => by dsimp only at hk; rw [hv0] at hk; exact absurd hk (Nat.not_lt_zero _)⟩, FR.updF rfl⟩
       rintro ⟨i, τ⟩ ⟨hin, hiq, hV1, hF1⟩ ih2
       dsimp only at hin hiq hV1 hF1 ih2 ⊢
       have hM1 := hM.fr hF1 rfl
       have hvi := vals_len hok i
       have hvl : (vals P i).length ≤ 40 := by omega
       obtain ⟨hv1, hv2⟩ := id hV1
       refine gx_iload_n hx dX9_tellValues_31 rfl ?_
       refine gx_iload_n hx dX9_tellValues_32 rfl ?_
       refine gx_icmp_ge (tgt := 89) hx dX9_tellValues_33 (by decide) ⟨by omega, by omega⟩ ⟨by omega, by omega⟩ (fun h33 => ?_) (fun h33 => ?_)
       · first
         | (exfalso; omega)
         | (refine hret _ _ _ _ _ (by decide) (by decide) dX9_tellValues_89 ?_
            have ei : i = q := by omega
            subst ei
            exact ⟨hV1, hF1⟩)
       · first
         | (exfalso; omega)
         | (refine gx_aload_n hx dX9_tellValues_36 rfl ?_
            refine gx_iload_n hx dX9_tellValues_37 rfl ?_
            refine gx_callI hx (c_X9_kind (i := i) _ _ hM1 (by omega)) lkX9_53 mwX9_kind dX9_tellValues_38 (by decide) rfl rfl rfl rfl (Nat.le_of_ble_eq_true rfl) (by decide) ⟨by decide, by decide⟩ (fun z_38 σ_38 hz_38 => ?_)
            obtain ⟨rfl, rfl⟩ := hz_38
            have hri := hM.rg i
            refine gx_bipush hx dX9_tellValues_41 (by decide) ?_
            refine gx_icmp_ne (tgt := 83) hx dX9_tellValues_43 (by decide) ⟨by omega, by omega⟩ ⟨by omega, by omega⟩ (fun h43 => ?_) (fun h43 => ?_)
            · first
              | (exfalso; omega)
              | (refine gx_iinc hx dX9_tellValues_83 (Nat.le_of_ble_eq_true rfl) rfl ?_
                 refine gx_goto (tgt := 31) hx dX9_tellValues_86 (by decide) ?_
                 have hvs : vals P (i + 1) = if kd P i = 6 ∧ op P i ∉ vals P i then vals P i ++ [op P i] else vals P i := by
                   rw [vals, if_neg (hno i (by omega) (by omega))]
                 first
                 | (refine ih2 (i + 1, τ) ⟨by omega, by omega, ?_, hF1⟩ (by dsimp only; omega)
                    dsimp only
                    rw [hvs, if_neg (by
                      rintro ⟨h6, h7⟩
                      first
                      | omega
                      | (rw [vix, if_neg h7] at e9; omega))]
                    exact hV1)
                 | (have hnm : op P i ∉ vals P i := by
                      intro h7
                      rw [vix, if_pos h7] at e9
                      omega
                    refine ih2 (i + 1, upd2 (upd2 τ 76 (τ 70 11) (op P i : Int)) 70 11 (upd2 τ 76 (τ 70 11) (op P i : Int) 70 11 + 1)) ⟨by omega, by omega, ?_, hF1.trans (FR.trans (FR.upd (by decide) rfl) (FR.updF rfl))⟩ (by dsimp only; omega)
                    dsimp only
                    rw [hvs, if_pos ⟨by omega, hnm⟩]
                    refine ⟨?_, fun k hk => ?_⟩
                    · rw [upd2_at, upd2_c (by decide), hv1, List.length_append]
                      rfl
                    · rw [List.length_append] at hk
                      simp only [List.length_cons, List.length_nil] at hk
                      rw [upd2_c (by decide), getD_app]
                      by_cases hkl : k = (vals P i).length
                      · rw [if_pos hkl, hkl, hv1, upd2_at]
                        exact ⟨rfl, by omega⟩
                      · rw [if_neg hkl, upd2_z (by rw [hv1]; omega)]
                        exact hv2 k (by omega)))
            · first
              | (exfalso; omega)
              | (refine gx_aload_n hx dX9_tellValues_46 rfl ?_
                 refine gx_aload_n hx dX9_tellValues_47 rfl ?_
                 refine gx_iload_n hx dX9_tellValues_48 rfl ?_
                 refine gx_callI hx (c_X9_operand (i := i) _ _ hM1 (by omega)) lkX9_63 mwX9_operand dX9_tellValues_49 (by decide) rfl rfl rfl rfl (Nat.le_of_ble_eq_true rfl) (by decide) ⟨by decide, by decide⟩ (fun z_49 σ_49 hz_49 => ?_)
                 obtain ⟨rfl, rfl⟩ := hz_49
                 refine gx_callI hx (c_X9_valueAt (vs := vals P i) _ _ hV1 hvl (by omega)) lkX9_66 mwX9_valueAt dX9_tellValues_52 (by decide) rfl rfl rfl rfl (Nat.le_of_ble_eq_true rfl) (by decide) ⟨by decide, by decide⟩ (fun z_52 σ_52 hz_52 => ?_)
                 obtain ⟨e9, rfl⟩ := hz_52
                 have e8 : z_52 = -1 ∨ (0 ≤ z_52 ∧ z_52 < 1000) := by
                   have h7 : (vals P i).idxOf (op P i) ≤ (vals P i).length := List.idxOf_le_length
                   rw [e9, vix]
                   split <;> omega
                 refine gx_iconst hx dX9_tellValues_55 ?_
                 refine gx_icmp_ne (tgt := 83) hx dX9_tellValues_56 (by decide) ⟨by omega, by omega⟩ ⟨by omega, by omega⟩ (fun h56 => ?_) (fun h56 => ?_)
                 · first
                   | (exfalso; omega)
                   | (refine gx_iinc hx dX9_tellValues_83 (Nat.le_of_ble_eq_true rfl) rfl ?_
                      refine gx_goto (tgt := 31) hx dX9_tellValues_86 (by decide) ?_
                      have hvs : vals P (i + 1) = if kd P i = 6 ∧ op P i ∉ vals P i then vals P i ++ [op P i] else vals P i := by
                        rw [vals, if_neg (hno i (by omega) (by omega))]
                      first
                      | (refine ih2 (i + 1, τ) ⟨by omega, by omega, ?_, hF1⟩ (by dsimp only; omega)
                         dsimp only
                         rw [hvs, if_neg (by
                           rintro ⟨h6, h7⟩
                           first
                           | omega
                           | (rw [vix, if_neg h7] at e9; omega))]
                         exact hV1)
                      | (have hnm : op P i ∉ vals P i := by
                           intro h7
                           rw [vix, if_pos h7] at e9
                           omega
                         refine ih2 (i + 1, upd2 (upd2 τ 76 (τ 70 11) (op P i : Int)) 70 11 (upd2 τ 76 (τ 70 11) (op P i : Int) 70 11 + 1)) ⟨by omega, by omega, ?_, hF1.trans (FR.trans (FR.upd (by decide) rfl) (FR.updF rfl))⟩ (by dsimp only; omega)
                         dsimp only
                         rw [hvs, if_pos ⟨by omega, hnm⟩]
                         refine ⟨?_, fun k hk => ?_⟩
                         · rw [upd2_at, upd2_c (by decide), hv1, List.length_append]
                           rfl
                         · rw [List.length_append] at hk
                           simp only [List.length_cons, List.length_nil] at hk
                           rw [upd2_c (by decide), getD_app]
                           by_cases hkl : k = (vals P i).length
                           · rw [if_pos hkl, hkl, hv1, upd2_at]
                             exact ⟨rfl, by omega⟩
                           · rw [if_neg hkl, upd2_z (by rw [hv1]; omega)]
                             exact hv2 k (by omega)))
                 · first
                   | (exfalso; omega)
                   | (refine gx_aload_n hx dX9_tellValues_59 rfl ?_
                      refine gx_getR hx flX9_30 dX9_tellValues_60 (by decide) rfl rfl ?_
                      refine gx_aload_n hx dX9_tellValues_63 rfl ?_
                      refine gx_getI hx flX9_60 dX9_tellValues_64 (by decide) rfl rfl 11 rfl ?_
                      refine gx_aload_n hx dX9_tellValues_67 rfl ?_
                      refine gx_iload_n hx dX9_tellValues_68 rfl ?_
                      refine gx_callI hx (c_X9_operand (i := i) _ _ hM1 (by omega)) lkX9_63 mwX9_operand dX9_tellValues_69 (by decide) rfl rfl rfl rfl (Nat.le_of_ble_eq_true rfl) (by decide) ⟨by decide, by decide⟩ (fun z_69 σ_69 hz_69 => ?_)
                      obtain ⟨rfl, rfl⟩ := hz_69
                      refine gx_iast hx dX9_tellValues_72 (by decide) rfl (by omega) (by omega) (by decide) ?_
                      refine gx_aload_n hx dX9_tellValues_73 rfl ?_
                      refine gx_dup hx dX9_tellValues_74 ?_
                      refine gx_getI hx flX9_60 dX9_tellValues_75 (by decide) rfl rfl 11 rfl ?_
                      refine gx_iconst hx dX9_tellValues_78 ?_
                      refine gx_iadd hx dX9_tellValues_79 ?_
                      refine gx_put hx fpX9_60 dX9_tellValues_80 (by decide) rfl rfl rfl rfl 11 rfl ?_
                      refine gx_iinc hx dX9_tellValues_83 (Nat.le_of_ble_eq_true rfl) rfl ?_
                      refine gx_goto (tgt := 31) hx dX9_tellValues_86 (by decide) ?_
                      have hvs : vals P (i + 1) = if kd P i = 6 ∧ op P i ∉ vals P i then vals P i ++ [op P i] else vals P i := by
                        rw [vals, if_neg (hno i (by omega) (by omega))]
                      first
                      | (refine ih2 (i + 1, τ) ⟨by omega, by omega, ?_, hF1⟩ (by dsimp only; omega)
                         dsimp only
                         rw [hvs, if_neg (by
                           rintro ⟨h6, h7⟩
                           first
                           | omega
                           | (rw [vix, if_neg h7] at e9; omega))]
                         exact hV1)
                      | (have hnm : op P i ∉ vals P i := by
                           intro h7
                           rw [vix, if_pos h7] at e9
                           omega
                         refine ih2 (i + 1, upd2 (upd2 τ 76 (τ 70 11) (op P i : Int)) 70 11 (upd2 τ 76 (τ 70 11) (op P i : Int) 70 11 + 1)) ⟨by omega, by omega, ?_, hF1.trans (FR.trans (FR.upd (by decide) rfl) (FR.updF rfl))⟩ (by dsimp only; omega)
                         dsimp only
                         rw [hvs, if_pos ⟨by omega, hnm⟩]
                         refine ⟨?_, fun k hk => ?_⟩
                         · rw [upd2_at, upd2_c (by decide), hv1, List.length_append]
                           rfl
                         · rw [List.length_append] at hk
                           simp only [List.length_cons, List.length_nil] at hk
                           rw [upd2_c (by decide), getD_app]
                           by_cases hkl : k = (vals P i).length
                           · rw [if_pos hkl, hkl, hv1, upd2_at]
                             exact ⟨rfl, by omega⟩
                           · rw [if_neg hkl, upd2_z (by rw [hv1]; omega)]
                             exact hv2 k (by omega))))))
  · first
    | (exfalso; omega)
    | (refine gx_aload_n hx dX9_tellValues_6 rfl ?_
       refine gx_iload_n hx dX9_tellValues_7 rfl ?_
       refine gx_iconst hx dX9_tellValues_8 ?_
       refine gx_isub hx dX9_tellValues_9 ?_
       obtain ⟨b, hb⟩ : ∃ b, n = b + 1 := ⟨n - 1, by omega⟩
       rw [show (n : Int) - 1 = (b : Int) by omega]
       refine gx_callI hx (c_X9_kind (i := b) _ _ hM (by omega)) lkX9_53 mwX9_kind dX9_tellValues_10 (by decide) rfl rfl rfl rfl (Nat.le_of_ble_eq_true rfl) (by decide) ⟨by decide, by decide⟩ (fun z_10 σ_10 hz_10 => ?_)
       obtain ⟨rfl, rfl⟩ := hz_10
       have hrb := hM.rg b
       refine gx_bipush hx dX9_tellValues_13 (by decide) ?_
       refine gx_icmp_eq (tgt := 24) hx dX9_tellValues_15 (by decide) ⟨by omega, by omega⟩ ⟨by omega, by omega⟩ (fun h15 => ?_) (fun h15 => ?_)
       · first
         | (exfalso; omega)
         | (have hv0 : vals P n = [] := by
              apply vals_7
              first
              | (left; omega)
              | (right; exact ⟨by omega, by rw [show n - 1 = b by omega]; omega⟩)
            have hnq9 : n ≤ q := hnq
            refine gx_aload_n hx dX9_tellValues_24 rfl ?_
            refine gx_iconst hx dX9_tellValues_25 ?_
            refine gx_put hx fpX9_60 dX9_tellValues_26 (by decide) rfl rfl rfl rfl 11 rfl ?_
            refine gx_iload_n hx dX9_tellValues_29 rfl ?_
            refine gx_istore_n hx dX9_tellValues_30 (Nat.le_of_ble_eq_true rfl) ?_
            refine gx_loop (α := Nat × Sg) (fun x => n ≤ x.1 ∧ x.1 ≤ q ∧ TV x.2 (vals P x.1) ∧ FR σ x.2 c1 f1) (fun x => q - x.1) (fun x => [some (.inr 70), some (.inl (q : Int)), some (.inl (n : Int)), some (.inl (x.1 : Int))]) (fun _ => []) (fun x => x.2) ?_ (n, upd2 σ 70 11 0) ⟨Nat.le_refl _, hnq, ⟨by dsimp only; rw [upd2_at, hv0]; rfl, fun k hk => by dsimp only at hk; rw [hv0] at hk; exact absurd hk (Nat.not_lt_zero _)⟩, FR.updF rfl⟩
            rintro ⟨i, τ⟩ ⟨hin, hiq, hV1, hF1⟩ ih2
            dsimp only at hin hiq hV1 hF1 ih2 ⊢
            have hM1 := hM.fr hF1 rfl
            have hvi := vals_len hok i
            have hvl : (vals P i).length ≤ 40 := by omega
            obtain ⟨hv1, hv2⟩ := id hV1
            refine gx_iload_n hx dX9_tellValues_31 rfl ?_
            refine gx_iload_n hx dX9_tellValues_32 rfl ?_
            refine gx_icmp_ge (tgt := 89) hx dX9_tellValues_33 (by decide) ⟨by omega, by omega⟩ ⟨by omega, by omega⟩ (fun h33 => ?_) (fun h33 => ?_)
            · first
              | (exfalso; omega)
              | (refine hret _ _ _ _ _ (by decide) (by decide) dX9_tellValues_89 ?_
                 have ei : i = q := by omega
                 subst ei
                 exact ⟨hV1, hF1⟩)
            · first
              | (exfalso; omega)
              | (refine gx_aload_n hx dX9_tellValues_36 rfl ?_
                 refine gx_iload_n hx dX9_tellValues_37 rfl ?_
                 refine gx_callI hx (c_X9_kind (i := i) _ _ hM1 (by omega)) lkX9_53 mwX9_kind dX9_tellValues_38 (by decide) rfl rfl rfl rfl (Nat.le_of_ble_eq_true rfl) (by decide) ⟨by decide, by decide⟩ (fun z_38 σ_38 hz_38 => ?_)
                 obtain ⟨rfl, rfl⟩ := hz_38
                 have hri := hM.rg i
                 refine gx_bipush hx dX9_tellValues_41 (by decide) ?_
                 refine gx_icmp_ne (tgt := 83) hx dX9_tellValues_43 (by decide) ⟨by omega, by omega⟩ ⟨by omega, by omega⟩ (fun h43 => ?_) (fun h43 => ?_)
                 · first
                   | (exfalso; omega)
                   | (refine gx_iinc hx dX9_tellValues_83 (Nat.le_of_ble_eq_true rfl) rfl ?_
                      refine gx_goto (tgt := 31) hx dX9_tellValues_86 (by decide) ?_
                      have hvs : vals P (i + 1) = if kd P i = 6 ∧ op P i ∉ vals P i then vals P i ++ [op P i] else vals P i := by
                        rw [vals, if_neg (hno i (by omega) (by omega))]
                      first
                      | (refine ih2 (i + 1, τ) ⟨by omega, by omega, ?_, hF1⟩ (by dsimp only; omega)
                         dsimp only
                         rw [hvs, if_neg (by
                           rintro ⟨h6, h7⟩
                           first
                           | omega
                           | (rw [vix, if_neg h7] at e9; omega))]
                         exact hV1)
                      | (have hnm : op P i ∉ vals P i := by
                           intro h7
                           rw [vix, if_pos h7] at e9
                           omega
                         refine ih2 (i + 1, upd2 (upd2 τ 76 (τ 70 11) (op P i : Int)) 70 11 (upd2 τ 76 (τ 70 11) (op P i : Int) 70 11 + 1)) ⟨by omega, by omega, ?_, hF1.trans (FR.trans (FR.upd (by decide) rfl) (FR.updF rfl))⟩ (by dsimp only; omega)
                         dsimp only
                         rw [hvs, if_pos ⟨by omega, hnm⟩]
                         refine ⟨?_, fun k hk => ?_⟩
                         · rw [upd2_at, upd2_c (by decide), hv1, List.length_append]
                           rfl
                         · rw [List.length_append] at hk
                           simp only [List.length_cons, List.length_nil] at hk
                           rw [upd2_c (by decide), getD_app]
                           by_cases hkl : k = (vals P i).length
                           · rw [if_pos hkl, hkl, hv1, upd2_at]
                             exact ⟨rfl, by omega⟩
                           · rw [if_neg hkl, upd2_z (by rw [hv1]; omega)]
                             exact hv2 k (by omega)))
                 · first
                   | (exfalso; omega)
                   | (refine gx_aload_n hx dX9_tellValues_46 rfl ?_
                      refine gx_aload_n hx dX9_tellValues_47 rfl ?_
                      refine gx_iload_n hx dX9_tellValues_48 rfl ?_
                      refine gx_callI hx (c_X9_operand (i := i) _ _ hM1 (by omega)) lkX9_63 mwX9_operand dX9_tellValues_49 (by decide) rfl rfl rfl rfl (Nat.le_of_ble_eq_true rfl) (by decide) ⟨by decide, by decide⟩ (fun z_49 σ_49 hz_49 => ?_)
                      obtain ⟨rfl, rfl⟩ := hz_49
                      refine gx_callI hx (c_X9_valueAt (vs := vals P i) _ _ hV1 hvl (by omega)) lkX9_66 mwX9_valueAt dX9_tellValues_52 (by decide) rfl rfl rfl rfl (Nat.le_of_ble_eq_true rfl) (by decide) ⟨by decide, by decide⟩ (fun z_52 σ_52 hz_52 => ?_)
                      obtain ⟨e9, rfl⟩ := hz_52
                      have e8 : z_52 = -1 ∨ (0 ≤ z_52 ∧ z_52 < 1000) := by
                        have h7 : (vals P i).idxOf (op P i) ≤ (vals P i).length := List.idxOf_le_length
                        rw [e9, vix]
                        split <;> omega
                      refine gx_iconst hx dX9_tellValues_55 ?_
                      refine gx_icmp_ne (tgt := 83) hx dX9_tellValues_56 (by decide) ⟨by omega, by omega⟩ ⟨by omega, by omega⟩ (fun h56 => ?_) (fun h56 => ?_)
                      · first
                        | (exfalso; omega)
                        | (refine gx_iinc hx dX9_tellValues_83 (Nat.le_of_ble_eq_true rfl) rfl ?_
                           refine gx_goto (tgt := 31) hx dX9_tellValues_86 (by decide) ?_
                           have hvs : vals P (i + 1) = if kd P i = 6 ∧ op P i ∉ vals P i then vals P i ++ [op P i] else vals P i := by
                             rw [vals, if_neg (hno i (by omega) (by omega))]
                           first
                           | (refine ih2 (i + 1, τ) ⟨by omega, by omega, ?_, hF1⟩ (by dsimp only; omega)
                              dsimp only
                              rw [hvs, if_neg (by
                                rintro ⟨h6, h7⟩
                                first
                                | omega
                                | (rw [vix, if_neg h7] at e9; omega))]
                              exact hV1)
                           | (have hnm : op P i ∉ vals P i := by
                                intro h7
                                rw [vix, if_pos h7] at e9
                                omega
                              refine ih2 (i + 1, upd2 (upd2 τ 76 (τ 70 11) (op P i : Int)) 70 11 (upd2 τ 76 (τ 70 11) (op P i : Int) 70 11 + 1)) ⟨by omega, by omega, ?_, hF1.trans (FR.trans (FR.upd (by decide) rfl) (FR.updF rfl))⟩ (by dsimp only; omega)
                              dsimp only
                              rw [hvs, if_pos ⟨by omega, hnm⟩]
                              refine ⟨?_, fun k hk => ?_⟩
                              · rw [upd2_at, upd2_c (by decide), hv1, List.length_append]
                                rfl
                              · rw [List.length_append] at hk
                                simp only [List.length_cons, List.length_nil] at hk
                                rw [upd2_c (by decide), getD_app]
                                by_cases hkl : k = (vals P i).length
                                · rw [if_pos hkl, hkl, hv1, upd2_at]
                                  exact ⟨rfl, by omega⟩
                                · rw [if_neg hkl, upd2_z (by rw [hv1]; omega)]
                                  exact hv2 k (by omega)))
                      · first
                        | (exfalso; omega)
                        | (refine gx_aload_n hx dX9_tellValues_59 rfl ?_
                           refine gx_getR hx flX9_30 dX9_tellValues_60 (by decide) rfl rfl ?_
                           refine gx_aload_n hx dX9_tellValues_63 rfl ?_
                           refine gx_getI hx flX9_60 dX9_tellValues_64 (by decide) rfl rfl 11 rfl ?_
                           refine gx_aload_n hx dX9_tellValues_67 rfl ?_
                           refine gx_iload_n hx dX9_tellValues_68 rfl ?_
                           refine gx_callI hx (c_X9_operand (i := i) _ _ hM1 (by omega)) lkX9_63 mwX9_operand dX9_tellValues_69 (by decide) rfl rfl rfl rfl (Nat.le_of_ble_eq_true rfl) (by decide) ⟨by decide, by decide⟩ (fun z_69 σ_69 hz_69 => ?_)
                           obtain ⟨rfl, rfl⟩ := hz_69
                           refine gx_iast hx dX9_tellValues_72 (by decide) rfl (by omega) (by omega) (by decide) ?_
                           refine gx_aload_n hx dX9_tellValues_73 rfl ?_
                           refine gx_dup hx dX9_tellValues_74 ?_
                           refine gx_getI hx flX9_60 dX9_tellValues_75 (by decide) rfl rfl 11 rfl ?_
                           refine gx_iconst hx dX9_tellValues_78 ?_
                           refine gx_iadd hx dX9_tellValues_79 ?_
                           refine gx_put hx fpX9_60 dX9_tellValues_80 (by decide) rfl rfl rfl rfl 11 rfl ?_
                           refine gx_iinc hx dX9_tellValues_83 (Nat.le_of_ble_eq_true rfl) rfl ?_
                           refine gx_goto (tgt := 31) hx dX9_tellValues_86 (by decide) ?_
                           have hvs : vals P (i + 1) = if kd P i = 6 ∧ op P i ∉ vals P i then vals P i ++ [op P i] else vals P i := by
                             rw [vals, if_neg (hno i (by omega) (by omega))]
                           first
                           | (refine ih2 (i + 1, τ) ⟨by omega, by omega, ?_, hF1⟩ (by dsimp only; omega)
                              dsimp only
                              rw [hvs, if_neg (by
                                rintro ⟨h6, h7⟩
                                first
                                | omega
                                | (rw [vix, if_neg h7] at e9; omega))]
                              exact hV1)
                           | (have hnm : op P i ∉ vals P i := by
                                intro h7
                                rw [vix, if_pos h7] at e9
                                omega
                              refine ih2 (i + 1, upd2 (upd2 τ 76 (τ 70 11) (op P i : Int)) 70 11 (upd2 τ 76 (τ 70 11) (op P i : Int) 70 11 + 1)) ⟨by omega, by omega, ?_, hF1.trans (FR.trans (FR.upd (by decide) rfl) (FR.updF rfl))⟩ (by dsimp only; omega)
                              dsimp only
                              rw [hvs, if_pos ⟨by omega, hnm⟩]
                              refine ⟨?_, fun k hk => ?_⟩
                              · rw [upd2_at, upd2_c (by decide), hv1, List.length_append]
                                rfl
                              · rw [List.length_append] at hk
                                simp only [List.length_cons, List.length_nil] at hk
                                rw [upd2_c (by decide), getD_app]
                                by_cases hkl : k = (vals P i).length
                                · rw [if_pos hkl, hkl, hv1, upd2_at]
                                  exact ⟨rfl, by omega⟩
                                · rw [if_neg hkl, upd2_z (by rw [hv1]; omega)]
                                  exact hv2 k (by omega))))))
       · first
         | (exfalso; omega)
         | (refine gx_iinc hx dX9_tellValues_18 (Nat.le_of_ble_eq_true rfl) rfl ?_
            refine gx_goto (tgt := 2) hx dX9_tellValues_21 (by decide) ?_
            refine GJ.cong (by rw [show ((b : Nat) : Int) = (n : Int) + -1 by omega]; rfl) rfl rfl (ih b ⟨by omega, fun j h1 h2 => ?_⟩ (by omega))
            rcases Nat.lt_or_ge b j with h | h
            · exact hno j (by omega) h2
            · have e : j = b := by omega
              subst e
              omega))
