/-! Program: reads -/
set_option maxRecDepth 20000 in
theorem c_X6_count (g : Gm) (l : Launch) {σ : Sg} {j : Nat} {P : List It} (hj : j < 12) (hP : PR σ j P) : KI g l yX6_count cX6_count 1 ((some .int)) 0 0 0 [.inr (4 * j)] σ (fun z σ' => z = (P.length : Int) ∧ σ' = σ) := by
  refine startI (own := RX6) (by decide +kernel) rfl (Nat.le_of_ble_eq_true rfl) ?_
  intro X hx _ _ hret
  obtain ⟨hn, hc, hg9⟩ := id hP
  refine gx_aload_n hx dX6_count_0 rfl ?_
  refine gx_getI hx flX6_21 dX6_count_1 (by omega) (shp_o hj) rfl 3 rfl ?_
  refine hret _ _ _ _ _ _ _ (by decide) (by decide) dX6_count_4 rfl rfl ?_
  exact ⟨hc, rfl⟩
set_option maxRecDepth 20000 in
theorem c_X6_isFull (g : Gm) (l : Launch) {σ : Sg} {j : Nat} {P : List It} (hj : j < 12) (hP : PR σ j P) : KI g l yX6_isFull cX6_isFull 1 ((some .boolean)) 0 0 0 [.inr (4 * j)] σ (fun z σ' => z = (if P.length = 40 then 1 else 0) ∧ σ' = σ) := by
  refine startI (own := RX6) (by decide +kernel) rfl (Nat.le_of_ble_eq_true rfl) ?_
  intro X hx _ _ hret
  obtain ⟨hn, hc, hg9⟩ := id hP
  refine gx_aload_n hx dX6_isFull_0 rfl ?_
  refine gx_getI hx flX6_21 dX6_isFull_1 (by omega) (shp_o hj) rfl 3 rfl ?_
  refine gx_bipush hx dX6_isFull_4 (by decide) ?_
  refine gx_icmp_lt (tgt := 13) hx dX6_isFull_6 (by decide) ⟨by omega, by omega⟩ ⟨by omega, by omega⟩ (fun h6 => ?_) (fun h6 => ?_)
  · first
    | (exfalso; omega)
    | (refine gx_iconst hx dX6_isFull_13 ?_
       refine hret _ _ _ _ _ _ _ (by decide) (by decide) dX6_isFull_14 rfl rfl ?_
       exact ⟨by first | rw [if_pos (by omega)] | rw [if_neg (by omega)], rfl⟩)
  · first
    | (exfalso; omega)
    | (refine gx_iconst hx dX6_isFull_9 ?_
       refine gx_goto (tgt := 14) hx dX6_isFull_10 (by decide) ?_
       refine hret _ _ _ _ _ _ _ (by decide) (by decide) dX6_isFull_14 rfl rfl ?_
       exact ⟨by first | rw [if_pos (by omega)] | rw [if_neg (by omega)], rfl⟩)
set_option maxRecDepth 20000 in
theorem c_X6_has (g : Gm) (l : Launch) {σ : Sg} {j : Nat} {P : List It} {z : Int} (hj : j < 12) (hP : PR σ j P) (hz : rg z) : KI g l yX6_has cX6_has 2 ((some .boolean)) 0 0 0 [.inr (4 * j), .inl z] σ (fun r σ' => r = (if 0 ≤ z ∧ z < (P.length : Int) then 1 else 0) ∧ σ' = σ) := by
  refine startI (own := RX6) (by decide +kernel) rfl (Nat.le_of_ble_eq_true rfl) ?_
  intro X hx _ _ hret
  obtain ⟨hn, hc, hg9⟩ := id hP
  obtain ⟨hz1, hz2⟩ := hz
  refine gx_iload_n hx dX6_has_0 rfl ?_
  refine gx_if_lt (tgt := 16) hx dX6_has_1 (by decide) ⟨by omega, by omega⟩ (fun h1 => ?_) (fun h1 => ?_)
  · first
    | (exfalso; omega)
    | (refine gx_iconst hx dX6_has_16 ?_
       refine hret _ _ _ _ _ _ _ (by decide) (by decide) dX6_has_17 rfl rfl ?_
       exact ⟨by first | rw [if_pos (by omega)] | rw [if_neg (by omega)], rfl⟩)
  · first
    | (exfalso; omega)
    | (refine gx_iload_n hx dX6_has_4 rfl ?_
       refine gx_aload_n hx dX6_has_5 rfl ?_
       refine gx_getI hx flX6_21 dX6_has_6 (by omega) (shp_o hj) rfl 3 rfl ?_
       refine gx_icmp_ge (tgt := 16) hx dX6_has_9 (by decide) ⟨by omega, by omega⟩ ⟨by omega, by omega⟩ (fun h9 => ?_) (fun h9 => ?_)
       · first
         | (exfalso; omega)
         | (refine gx_iconst hx dX6_has_16 ?_
            refine hret _ _ _ _ _ _ _ (by decide) (by decide) dX6_has_17 rfl rfl ?_
            exact ⟨by first | rw [if_pos (by omega)] | rw [if_neg (by omega)], rfl⟩)
       · first
         | (exfalso; omega)
         | (refine gx_iconst hx dX6_has_12 ?_
            refine gx_goto (tgt := 17) hx dX6_has_13 (by decide) ?_
            refine hret _ _ _ _ _ _ _ (by decide) (by decide) dX6_has_17 rfl rfl ?_
            exact ⟨by first | rw [if_pos (by omega)] | rw [if_neg (by omega)], rfl⟩))
set_option maxRecDepth 20000 in
theorem c_X6_kindAt (g : Gm) (l : Launch) {σ : Sg} {j : Nat} {P : List It} {i : Nat} (hj : j < 12) (hP : PR σ j P) (hi : i < P.length) : KI g l yX6_kindAt cX6_kindAt 2 ((some .int)) 0 0 0 [.inr (4 * j), .inl (i : Int)] σ (fun z σ' => z = (kd P i : Int) ∧ σ' = σ) := by
  refine startI (own := RX6) (by decide +kernel) rfl (Nat.le_of_ble_eq_true rfl) ?_
  intro X hx _ _ hret
  obtain ⟨hn, hc, hg9⟩ := id hP
  obtain ⟨g1, g2, g3⟩ := hg9 i hi
  refine gx_iload_n hx dX6_kindAt_0 rfl ?_
  refine gx_if_lt (tgt := 21) hx dX6_kindAt_1 (by decide) ⟨by omega, by omega⟩ (fun h1 => ?_) (fun h1 => ?_)
  · first
    | (exfalso; omega)
    | (refine gx_iconst hx dX6_kindAt_21 ?_
       refine hret _ _ _ _ _ _ _ (by decide) (by decide) dX6_kindAt_22 rfl rfl ?_
       exact ⟨g1, rfl⟩)
  · first
    | (exfalso; omega)
    | (refine gx_iload_n hx dX6_kindAt_4 rfl ?_
       refine gx_aload_n hx dX6_kindAt_5 rfl ?_
       refine gx_getI hx flX6_21 dX6_kindAt_6 (by omega) (shp_o hj) rfl 3 rfl ?_
       refine gx_icmp_ge (tgt := 21) hx dX6_kindAt_9 (by decide) ⟨by omega, by omega⟩ ⟨by omega, by omega⟩ (fun h9 => ?_) (fun h9 => ?_)
       · first
         | (exfalso; omega)
         | (refine gx_iconst hx dX6_kindAt_21 ?_
            refine hret _ _ _ _ _ _ _ (by decide) (by decide) dX6_kindAt_22 rfl rfl ?_
            exact ⟨g1, rfl⟩)
       · first
         | (exfalso; omega)
         | (refine gx_aload_n hx dX6_kindAt_12 rfl ?_
            refine gx_getR hx flX6_9 dX6_kindAt_13 (by omega) (shp_o hj) rfl ?_
            refine gx_iload_n hx dX6_kindAt_16 rfl ?_
            refine gx_iald hx dX6_kindAt_17 (by omega) (shp_a1 hj) (by omega) (by omega) (by decide) ?_
            refine gx_goto (tgt := 22) hx dX6_kindAt_18 (by decide) ?_
            refine hret _ _ _ _ _ _ _ (by decide) (by decide) dX6_kindAt_22 rfl rfl ?_
            exact ⟨g1, rfl⟩))
set_option maxRecDepth 20000 in
theorem c_X6_operandAt (g : Gm) (l : Launch) {σ : Sg} {j : Nat} {P : List It} {i : Nat} (hj : j < 12) (hP : PR σ j P) (hi : i < P.length) : KI g l yX6_operandAt cX6_operandAt 2 ((some .int)) 0 0 0 [.inr (4 * j), .inl (i : Int)] σ (fun z σ' => z = (op P i : Int) ∧ σ' = σ) := by
  refine startI (own := RX6) (by decide +kernel) rfl (Nat.le_of_ble_eq_true rfl) ?_
  intro X hx _ _ hret
  obtain ⟨hn, hc, hg9⟩ := id hP
  obtain ⟨g1, g2, g3⟩ := hg9 i hi
  refine gx_iload_n hx dX6_operandAt_0 rfl ?_
  refine gx_if_lt (tgt := 21) hx dX6_operandAt_1 (by decide) ⟨by omega, by omega⟩ (fun h1 => ?_) (fun h1 => ?_)
  · first
    | (exfalso; omega)
    | (refine gx_iconst hx dX6_operandAt_21 ?_
       refine hret _ _ _ _ _ _ _ (by decide) (by decide) dX6_operandAt_22 rfl rfl ?_
       exact ⟨g2, rfl⟩)
  · first
    | (exfalso; omega)
    | (refine gx_iload_n hx dX6_operandAt_4 rfl ?_
       refine gx_aload_n hx dX6_operandAt_5 rfl ?_
       refine gx_getI hx flX6_21 dX6_operandAt_6 (by omega) (shp_o hj) rfl 3 rfl ?_
       refine gx_icmp_ge (tgt := 21) hx dX6_operandAt_9 (by decide) ⟨by omega, by omega⟩ ⟨by omega, by omega⟩ (fun h9 => ?_) (fun h9 => ?_)
       · first
         | (exfalso; omega)
         | (refine gx_iconst hx dX6_operandAt_21 ?_
            refine hret _ _ _ _ _ _ _ (by decide) (by decide) dX6_operandAt_22 rfl rfl ?_
            exact ⟨g2, rfl⟩)
       · first
         | (exfalso; omega)
         | (refine gx_aload_n hx dX6_operandAt_12 rfl ?_
            refine gx_getR hx flX6_15 dX6_operandAt_13 (by omega) (shp_o hj) rfl ?_
            refine gx_iload_n hx dX6_operandAt_16 rfl ?_
            refine gx_iald hx dX6_operandAt_17 (by omega) (shp_a2 hj) (by omega) (by omega) (by decide) ?_
            refine gx_goto (tgt := 22) hx dX6_operandAt_18 (by decide) ?_
            refine hret _ _ _ _ _ _ _ (by decide) (by decide) dX6_operandAt_22 rfl rfl ?_
            exact ⟨g2, rfl⟩))
set_option maxRecDepth 20000 in
theorem c_X6_formAt (g : Gm) (l : Launch) {σ : Sg} {j : Nat} {P : List It} {i : Nat} (hj : j < 12) (hP : PR σ j P) (hi : i < P.length) : KI g l yX6_formAt cX6_formAt 2 ((some .int)) 0 0 0 [.inr (4 * j), .inl (i : Int)] σ (fun z σ' => z = (fm P i : Int) ∧ σ' = σ) := by
  refine startI (own := RX6) (by decide +kernel) rfl (Nat.le_of_ble_eq_true rfl) ?_
  intro X hx _ _ hret
  obtain ⟨hn, hc, hg9⟩ := id hP
  obtain ⟨g1, g2, g3⟩ := hg9 i hi
  refine gx_iload_n hx dX6_formAt_0 rfl ?_
  refine gx_if_lt (tgt := 21) hx dX6_formAt_1 (by decide) ⟨by omega, by omega⟩ (fun h1 => ?_) (fun h1 => ?_)
  · first
    | (exfalso; omega)
    | (refine gx_iconst hx dX6_formAt_21 ?_
       refine hret _ _ _ _ _ _ _ (by decide) (by decide) dX6_formAt_22 rfl rfl ?_
       exact ⟨g3, rfl⟩)
  · first
    | (exfalso; omega)
    | (refine gx_iload_n hx dX6_formAt_4 rfl ?_
       refine gx_aload_n hx dX6_formAt_5 rfl ?_
       refine gx_getI hx flX6_21 dX6_formAt_6 (by omega) (shp_o hj) rfl 3 rfl ?_
       refine gx_icmp_ge (tgt := 21) hx dX6_formAt_9 (by decide) ⟨by omega, by omega⟩ ⟨by omega, by omega⟩ (fun h9 => ?_) (fun h9 => ?_)
       · first
         | (exfalso; omega)
         | (refine gx_iconst hx dX6_formAt_21 ?_
            refine hret _ _ _ _ _ _ _ (by decide) (by decide) dX6_formAt_22 rfl rfl ?_
            exact ⟨g3, rfl⟩)
       · first
         | (exfalso; omega)
         | (refine gx_aload_n hx dX6_formAt_12 rfl ?_
            refine gx_getR hx flX6_18 dX6_formAt_13 (by omega) (shp_o hj) rfl ?_
            refine gx_iload_n hx dX6_formAt_16 rfl ?_
            refine gx_iald hx dX6_formAt_17 (by omega) (shp_a3 hj) (by omega) (by omega) (by decide) ?_
            refine gx_goto (tgt := 22) hx dX6_formAt_18 (by decide) ?_
            refine hret _ _ _ _ _ _ _ (by decide) (by decide) dX6_formAt_22 rfl rfl ?_
            exact ⟨g3, rfl⟩))
