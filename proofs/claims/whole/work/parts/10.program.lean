/-! Program -/
set_option maxRecDepth 20000 in
set_option maxHeartbeats 400000 in
theorem c_X6_count (g : Gm) (l : Launch) {σ : Sg} {j : Nat} {P : List It} (hj : j < 12) (hP : PR σ j P) : KI g l yX6_count cX6_count 1 ((some .int)) 0 0 0 [.inr (4 * j)] σ (fun z σ' => z = (P.length : Int) ∧ σ = σ') := by
  refine startI (own := RX6) (by decide +kernel) rfl (Nat.le_of_ble_eq_true rfl) ?_
  intro X hx _ _ hret
  obtain ⟨hok, hc, hg9⟩ := id hP
  have hn := hok.1
  refine gx_aload_n hx dX6_count_0 rfl ?_
  refine gx_getI hx flX6_21 dX6_count_1 (by omega) (shp_o hj) rfl 3 rfl ?_
  refine hret _ _ _ _ _ _ _ (by decide) (by decide) dX6_count_4 rfl rfl ?_
  exact ⟨hc, rfl⟩
set_option maxRecDepth 20000 in
set_option maxHeartbeats 400000 in
theorem c_X6_isFull (g : Gm) (l : Launch) {σ : Sg} {j : Nat} {P : List It} (hj : j < 12) (hP : PR σ j P) : KI g l yX6_isFull cX6_isFull 1 ((some .boolean)) 0 0 0 [.inr (4 * j)] σ (fun z σ' => z = (if P.length = 40 then 1 else 0) ∧ σ = σ') := by
  refine startI (own := RX6) (by decide +kernel) rfl (Nat.le_of_ble_eq_true rfl) ?_
  intro X hx _ _ hret
  obtain ⟨hok, hc, hg9⟩ := id hP
  have hn := hok.1
  refine gx_aload_n hx dX6_isFull_0 rfl ?_
  refine gx_getI hx flX6_21 dX6_isFull_1 (by omega) (shp_o hj) rfl 3 rfl ?_
  refine gx_bipush hx dX6_isFull_4 (by decide) ?_
  refine gx_icmp_lt (tgt := 13) hx dX6_isFull_6 (by decide) ⟨by omega, by omega⟩ ⟨by omega, by omega⟩ (fun h6 => ?_) (fun h6 => ?_)
  · first
    | (exfalso; omega)
    | (refine gx_iconst hx dX6_isFull_13 ?_
       refine hret _ _ _ _ _ _ _ (by decide) (by decide) dX6_isFull_14 rfl rfl ?_
       exact ⟨by first | rw [if_pos (by omega)] | rw [if_neg (by omega)], rfl⟩)
  · first
    | (exfalso; omega)
    | (refine gx_iconst hx dX6_isFull_9 ?_
       refine gx_goto (tgt := 14) hx dX6_isFull_10 (by decide) ?_
       refine hret _ _ _ _ _ _ _ (by decide) (by decide) dX6_isFull_14 rfl rfl ?_
       exact ⟨by first | rw [if_pos (by omega)] | rw [if_neg (by omega)], rfl⟩)
set_option maxRecDepth 20000 in
set_option maxHeartbeats 400000 in
theorem c_X6_has (g : Gm) (l : Launch) {σ : Sg} {j : Nat} {P : List It} {z : Int} (hj : j < 12) (hP : PR σ j P) (hz : rg z) : KI g l yX6_has cX6_has 2 ((some .boolean)) 0 0 0 [.inr (4 * j), .inl z] σ (fun r σ' => r = (if 0 ≤ z ∧ z < (P.length : Int) then 1 else 0) ∧ σ = σ') := by
  refine startI (own := RX6) (by decide +kernel) rfl (Nat.le_of_ble_eq_true rfl) ?_
  intro X hx _ _ hret
  obtain ⟨hok, hc, hg9⟩ := id hP
  have hn := hok.1
  obtain ⟨hz1, hz2⟩ := hz
  refine gx_iload_n hx dX6_has_0 rfl ?_
  refine gx_if_lt (tgt := 16) hx dX6_has_1 (by decide) ⟨by omega, by omega⟩ (fun h1 => ?_) (fun h1 => ?_)
  · first
    | (exfalso; omega)
    | (refine gx_iconst hx dX6_has_16 ?_
       refine hret _ _ _ _ _ _ _ (by decide) (by decide) dX6_has_17 rfl rfl ?_
       exact ⟨by first | rw [if_pos (by omega)] | rw [if_neg (by omega)], rfl⟩)
  · first
    | (exfalso; omega)
    | (refine gx_iload_n hx dX6_has_4 rfl ?_
       refine gx_aload_n hx dX6_has_5 rfl ?_
       refine gx_getI hx flX6_21 dX6_has_6 (by omega) (shp_o hj) rfl 3 rfl ?_
       refine gx_icmp_ge (tgt := 16) hx dX6_has_9 (by decide) ⟨by omega, by omega⟩ ⟨by omega, by omega⟩ (fun h9 => ?_) (fun h9 => ?_)
       · first
         | (exfalso; omega)
         | (refine gx_iconst hx dX6_has_16 ?_
            refine hret _ _ _ _ _ _ _ (by decide) (by decide) dX6_has_17 rfl rfl ?_
            exact ⟨by first | rw [if_pos (by omega)] | rw [if_neg (by omega)], rfl⟩)
       · first
         | (exfalso; omega)
         | (refine gx_iconst hx dX6_has_12 ?_
            refine gx_goto (tgt := 17) hx dX6_has_13 (by decide) ?_
            refine hret _ _ _ _ _ _ _ (by decide) (by decide) dX6_has_17 rfl rfl ?_
            exact ⟨by first | rw [if_pos (by omega)] | rw [if_neg (by omega)], rfl⟩))
set_option maxRecDepth 20000 in
set_option maxHeartbeats 400000 in
theorem c_X6_kindAt (g : Gm) (l : Launch) {σ : Sg} {j : Nat} {P : List It} {i : Nat} (hj : j < 12) (hP : PR σ j P) (hi : i < P.length) : KI g l yX6_kindAt cX6_kindAt 2 ((some .int)) 0 0 0 [.inr (4 * j), .inl (i : Int)] σ (fun z σ' => z = (kd P i : Int) ∧ σ = σ') := by
  refine startI (own := RX6) (by decide +kernel) rfl (Nat.le_of_ble_eq_true rfl) ?_
  intro X hx _ _ hret
  obtain ⟨hok, hc, hg9⟩ := id hP
  have hn := hok.1
  obtain ⟨g1, g2, g3⟩ := hg9 i hi
  refine gx_iload_n hx dX6_kindAt_0 rfl ?_
  refine gx_if_lt (tgt := 21) hx dX6_kindAt_1 (by decide) ⟨by omega, by omega⟩ (fun h1 => ?_) (fun h1 => ?_)
  · first
    | (exfalso; omega)
    | (refine gx_iconst hx dX6_kindAt_21 ?_
       refine hret _ _ _ _ _ _ _ (by decide) (by decide) dX6_kindAt_22 rfl rfl ?_
       exact ⟨g1, rfl⟩)
  · first
    | (exfalso; omega)
    | (refine gx_iload_n hx dX6_kindAt_4 rfl ?_
       refine gx_aload_n hx dX6_kindAt_5 rfl ?_
       refine gx_getI hx flX6_21 dX6_kindAt_6 (by omega) (shp_o hj) rfl 3 rfl ?_
       refine gx_icmp_ge (tgt := 21) hx dX6_kindAt_9 (by decide) ⟨by omega, by omega⟩ ⟨by omega, by omega⟩ (fun h9 => ?_) (fun h9 => ?_)
       · first
         | (exfalso; omega)
         | (refine gx_iconst hx dX6_kindAt_21 ?_
            refine hret _ _ _ _ _ _ _ (by decide) (by decide) dX6_kindAt_22 rfl rfl ?_
            exact ⟨g1, rfl⟩)
       · first
         | (exfalso; omega)
         | (refine gx_aload_n hx dX6_kindAt_12 rfl ?_
            refine gx_getR hx flX6_9 dX6_kindAt_13 (by omega) (shp_o hj) rfl ?_
            refine gx_iload_n hx dX6_kindAt_16 rfl ?_
            refine gx_iald hx dX6_kindAt_17 (by omega) (shp_a1 hj) (by omega) (by omega) (by decide) ?_
            refine gx_goto (tgt := 22) hx dX6_kindAt_18 (by decide) ?_
            refine hret _ _ _ _ _ _ _ (by decide) (by decide) dX6_kindAt_22 rfl rfl ?_
            exact ⟨g1, rfl⟩))
set_option maxRecDepth 20000 in
set_option maxHeartbeats 400000 in
theorem c_X6_operandAt (g : Gm) (l : Launch) {σ : Sg} {j : Nat} {P : List It} {i : Nat} (hj : j < 12) (hP : PR σ j P) (hi : i < P.length) : KI g l yX6_operandAt cX6_operandAt 2 ((some .int)) 0 0 0 [.inr (4 * j), .inl (i : Int)] σ (fun z σ' => z = (op P i : Int) ∧ σ = σ') := by
  refine startI (own := RX6) (by decide +kernel) rfl (Nat.le_of_ble_eq_true rfl) ?_
  intro X hx _ _ hret
  obtain ⟨hok, hc, hg9⟩ := id hP
  have hn := hok.1
  obtain ⟨g1, g2, g3⟩ := hg9 i hi
  refine gx_iload_n hx dX6_operandAt_0 rfl ?_
  refine gx_if_lt (tgt := 21) hx dX6_operandAt_1 (by decide) ⟨by omega, by omega⟩ (fun h1 => ?_) (fun h1 => ?_)
  · first
    | (exfalso; omega)
    | (refine gx_iconst hx dX6_operandAt_21 ?_
       refine hret _ _ _ _ _ _ _ (by decide) (by decide) dX6_operandAt_22 rfl rfl ?_
       exact ⟨g2, rfl⟩)
  · first
    | (exfalso; omega)
    | (refine gx_iload_n hx dX6_operandAt_4 rfl ?_
       refine gx_aload_n hx dX6_operandAt_5 rfl ?_
       refine gx_getI hx flX6_21 dX6_operandAt_6 (by omega) (shp_o hj) rfl 3 rfl ?_
       refine gx_icmp_ge (tgt := 21) hx dX6_operandAt_9 (by decide) ⟨by omega, by omega⟩ ⟨by omega, by omega⟩ (fun h9 => ?_) (fun h9 => ?_)
       · first
         | (exfalso; omega)
         | (refine gx_iconst hx dX6_operandAt_21 ?_
            refine hret _ _ _ _ _ _ _ (by decide) (by decide) dX6_operandAt_22 rfl rfl ?_
            exact ⟨g2, rfl⟩)
       · first
         | (exfalso; omega)
         | (refine gx_aload_n hx dX6_operandAt_12 rfl ?_
            refine gx_getR hx flX6_15 dX6_operandAt_13 (by omega) (shp_o hj) rfl ?_
            refine gx_iload_n hx dX6_operandAt_16 rfl ?_
            refine gx_iald hx dX6_operandAt_17 (by omega) (shp_a2 hj) (by omega) (by omega) (by decide) ?_
            refine gx_goto (tgt := 22) hx dX6_operandAt_18 (by decide) ?_
            refine hret _ _ _ _ _ _ _ (by decide) (by decide) dX6_operandAt_22 rfl rfl ?_
            exact ⟨g2, rfl⟩))
set_option maxRecDepth 20000 in
set_option maxHeartbeats 400000 in
theorem c_X6_formAt (g : Gm) (l : Launch) {σ : Sg} {j : Nat} {P : List It} {i : Nat} (hj : j < 12) (hP : PR σ j P) (hi : i < P.length) : KI g l yX6_formAt cX6_formAt 2 ((some .int)) 0 0 0 [.inr (4 * j), .inl (i : Int)] σ (fun z σ' => z = (fm P i : Int) ∧ σ = σ') := by
  refine startI (own := RX6) (by decide +kernel) rfl (Nat.le_of_ble_eq_true rfl) ?_
  intro X hx _ _ hret
  obtain ⟨hok, hc, hg9⟩ := id hP
  have hn := hok.1
  obtain ⟨g1, g2, g3⟩ := hg9 i hi
  refine gx_iload_n hx dX6_formAt_0 rfl ?_
  refine gx_if_lt (tgt := 21) hx dX6_formAt_1 (by decide) ⟨by omega, by omega⟩ (fun h1 => ?_) (fun h1 => ?_)
  · first
    | (exfalso; omega)
    | (refine gx_iconst hx dX6_formAt_21 ?_
       refine hret _ _ _ _ _ _ _ (by decide) (by decide) dX6_formAt_22 rfl rfl ?_
       exact ⟨g3, rfl⟩)
  · first
    | (exfalso; omega)
    | (refine gx_iload_n hx dX6_formAt_4 rfl ?_
       refine gx_aload_n hx dX6_formAt_5 rfl ?_
       refine gx_getI hx flX6_21 dX6_formAt_6 (by omega) (shp_o hj) rfl 3 rfl ?_
       refine gx_icmp_ge (tgt := 21) hx dX6_formAt_9 (by decide) ⟨by omega, by omega⟩ ⟨by omega, by omega⟩ (fun h9 => ?_) (fun h9 => ?_)
       · first
         | (exfalso; omega)
         | (refine gx_iconst hx dX6_formAt_21 ?_
            refine hret _ _ _ _ _ _ _ (by decide) (by decide) dX6_formAt_22 rfl rfl ?_
            exact ⟨g3, rfl⟩)
       · first
         | (exfalso; omega)
         | (refine gx_aload_n hx dX6_formAt_12 rfl ?_
            refine gx_getR hx flX6_18 dX6_formAt_13 (by omega) (shp_o hj) rfl ?_
            refine gx_iload_n hx dX6_formAt_16 rfl ?_
            refine gx_iald hx dX6_formAt_17 (by omega) (shp_a3 hj) (by omega) (by omega) (by decide) ?_
            refine gx_goto (tgt := 22) hx dX6_formAt_18 (by decide) ?_
            refine hret _ _ _ _ _ _ _ (by decide) (by decide) dX6_formAt_22 rfl rfl ?_
            exact ⟨g3, rfl⟩))
set_option maxRecDepth 20000 in
set_option maxHeartbeats 400000 in
theorem c_X6_isTransfer (g : Gm) (l : Launch) {σ : Sg} {j : Nat} {P : List It} {i : Nat} (hj : j < 12) (hP : PR σ j P) (hi : i < P.length) : KI g l yX6_isTransfer cX6_isTransfer 3 ((some .boolean)) 1 0 0 [.inr (4 * j), .inl (i : Int)] σ (fun z σ' => z = (if kd P i = 4 ∨ kd P i = 5 then 1 else 0) ∧ σ = σ') := by
  refine startI (own := RX6) (by decide +kernel) rfl (Nat.le_of_ble_eq_true rfl) ?_
  intro X hx _ _ hret
  obtain ⟨hok, hc, hg9⟩ := id hP
  have hn := hok.1
  have hb : kd P i < 8 := by
    have := hok.2.1 i
    unfold okI at this
    omega
  refine gx_aload_n hx dX6_isTransfer_0 rfl ?_
  refine gx_iload_n hx dX6_isTransfer_1 rfl ?_
  refine gx_callI hx (c_X6_kindAt _ _ hj hP hi) lkX6_25 mwX6_kindAt dX6_isTransfer_2 (by omega) (shp_o hj) rfl rfl rfl (Nat.le_of_ble_eq_true rfl) (by decide) ⟨by decide, by decide⟩ (fun z_2 σ_2 hz_2 => ?_)
  obtain ⟨rfl, rfl⟩ := hz_2
  refine gx_istore_n hx dX6_isTransfer_5 (Nat.le_of_ble_eq_true rfl) ?_
  refine gx_iload_n hx dX6_isTransfer_6 rfl ?_
  refine gx_iconst hx dX6_isTransfer_7 ?_
  refine gx_icmp_eq (tgt := 16) hx dX6_isTransfer_8 (by decide) ⟨by omega, by omega⟩ ⟨by omega, by omega⟩ (fun h8 => ?_) (fun h8 => ?_)
  · first
    | (exfalso; omega)
    | (refine gx_iconst hx dX6_isTransfer_16 ?_
       refine gx_goto (tgt := 21) hx dX6_isTransfer_17 (by decide) ?_
       refine hret _ _ _ _ _ _ _ (by decide) (by decide) dX6_isTransfer_21 rfl rfl ?_
       exact ⟨by first | rw [if_pos (by omega)] | rw [if_neg (by omega)], rfl⟩)
  · first
    | (exfalso; omega)
    | (refine gx_iload_n hx dX6_isTransfer_11 rfl ?_
       refine gx_iconst hx dX6_isTransfer_12 ?_
       refine gx_icmp_ne (tgt := 20) hx dX6_isTransfer_13 (by decide) ⟨by omega, by omega⟩ ⟨by omega, by omega⟩ (fun h13 => ?_) (fun h13 => ?_)
       · first
         | (exfalso; omega)
         | (refine gx_iconst hx dX6_isTransfer_20 ?_
            refine hret _ _ _ _ _ _ _ (by decide) (by decide) dX6_isTransfer_21 rfl rfl ?_
            exact ⟨by first | rw [if_pos (by omega)] | rw [if_neg (by omega)], rfl⟩)
       · first
         | (exfalso; omega)
         | (refine gx_iconst hx dX6_isTransfer_16 ?_
            refine gx_goto (tgt := 21) hx dX6_isTransfer_17 (by decide) ?_
            refine hret _ _ _ _ _ _ _ (by decide) (by decide) dX6_isTransfer_21 rfl rfl ?_
            exact ⟨by first | rw [if_pos (by omega)] | rw [if_neg (by omega)], rfl⟩))
set_option maxRecDepth 20000 in
set_option maxHeartbeats 400000 in
theorem c_X6_defines (g : Gm) (l : Launch) {σ : Sg} {j : Nat} {P : List It} {lb : Nat} (hj : j < 12) (hP : PR σ j P) (hlb : lb < 100) : KI g l yX6_defines cX6_defines 3 ((some .boolean)) 0 0 0 [.inr (4 * j), .inl (lb : Int)] σ (fun z σ' => (z = 1 ∧ (∃ i, i < P.length ∧ kd P i = 2 ∧ op P i = lb) ∨ z = 0 ∧ ∀ i, i < P.length → ¬ (kd P i = 2 ∧ op P i = lb)) ∧ σ = σ') := by
  refine startI (own := RX6) (by decide +kernel) rfl (Nat.le_of_ble_eq_true rfl) ?_
  intro X hx _ _ hret
  obtain ⟨hok, hc, hg9⟩ := id hP
  have hn := hok.1
  refine gx_iconst hx dX6_defines_0 ?_
  refine gx_istore_n hx dX6_defines_1 (Nat.le_of_ble_eq_true rfl) ?_
  refine gx_loop (α := Nat) (fun i => i ≤ P.length ∧ ∀ q, q < i → ¬ (kd P q = 2 ∧ op P q = lb)) (fun i => P.length - i) (fun i => [some (.inr (4 * j)), some (.inl (lb : Int)), some (.inl (i : Int))]) (fun _ => []) (fun _ => σ) ?_ 0 ⟨Nat.zero_le _, fun q hq => absurd hq (Nat.not_lt_zero q)⟩
  rintro i ⟨hi, hno⟩ ih
  have hb : i < P.length → σ (4 * j + 1) (i : Int) = (kd P i : Int) ∧ σ (4 * j + 2) (i : Int) = (op P i : Int) := fun h => ⟨(hg9 i h).1, (hg9 i h).2.1⟩
  have hb2 : kd P i < 8 ∧ op P i < 100 := by
    have := hok.2.1 i
    unfold okI at this
    omega
  refine gx_iload_n hx dX6_defines_2 rfl ?_
  refine gx_aload_n hx dX6_defines_3 rfl ?_
  refine gx_getI hx flX6_21 dX6_defines_4 (by omega) (shp_o hj) rfl 3 rfl ?_
  refine gx_icmp_ge (tgt := 38) hx dX6_defines_7 (by decide) ⟨by omega, by omega⟩ ⟨by omega, by omega⟩ (fun h7 => ?_) (fun h7 => ?_)
  · first
    | (exfalso; omega)
    | (refine gx_iconst hx dX6_defines_38 ?_
       refine hret _ _ _ _ _ _ _ (by decide) (by decide) dX6_defines_39 rfl rfl ?_
       first
       | exact ⟨Or.inl ⟨rfl, i, by omega, by omega, by omega⟩, rfl⟩
       | exact ⟨Or.inr ⟨rfl, fun q hq => hno q (by omega)⟩, rfl⟩)
  · first
    | (exfalso; omega)
    | (refine gx_aload_n hx dX6_defines_10 rfl ?_
       refine gx_getR hx flX6_9 dX6_defines_11 (by omega) (shp_o hj) rfl ?_
       refine gx_iload_n hx dX6_defines_14 rfl ?_
       refine gx_iald hx dX6_defines_15 (by omega) (shp_a1 hj) (by omega) (by omega) (by decide) ?_
       refine gx_iconst hx dX6_defines_16 ?_
       refine gx_icmp_ne (tgt := 32) hx dX6_defines_17 (by decide) ⟨by omega, by omega⟩ ⟨by omega, by omega⟩ (fun h17 => ?_) (fun h17 => ?_)
       · first
         | (exfalso; omega)
         | (refine gx_iinc hx dX6_defines_32 (Nat.le_of_ble_eq_true rfl) rfl ?_
            refine gx_goto (tgt := 2) hx dX6_defines_35 (by decide) ?_
            exact ih (i + 1) ⟨by omega, fun q hq => by
              rcases Nat.lt_or_ge q i with h | h
              · exact hno q h
              · have e : q = i := by omega
                subst e
                omega⟩ (by omega))
       · first
         | (exfalso; omega)
         | (refine gx_aload_n hx dX6_defines_20 rfl ?_
            refine gx_getR hx flX6_15 dX6_defines_21 (by omega) (shp_o hj) rfl ?_
            refine gx_iload_n hx dX6_defines_24 rfl ?_
            refine gx_iald hx dX6_defines_25 (by omega) (shp_a2 hj) (by omega) (by omega) (by decide) ?_
            refine gx_iload_n hx dX6_defines_26 rfl ?_
            refine gx_icmp_ne (tgt := 32) hx dX6_defines_27 (by decide) ⟨by omega, by omega⟩ ⟨by omega, by omega⟩ (fun h27 => ?_) (fun h27 => ?_)
            · first
              | (exfalso; omega)
              | (refine gx_iinc hx dX6_defines_32 (Nat.le_of_ble_eq_true rfl) rfl ?_
                 refine gx_goto (tgt := 2) hx dX6_defines_35 (by decide) ?_
                 exact ih (i + 1) ⟨by omega, fun q hq => by
                   rcases Nat.lt_or_ge q i with h | h
                   · exact hno q h
                   · have e : q = i := by omega
                     subst e
                     omega⟩ (by omega))
            · first
              | (exfalso; omega)
              | (refine gx_iconst hx dX6_defines_30 ?_
                 refine hret _ _ _ _ _ _ _ (by decide) (by decide) dX6_defines_31 rfl rfl ?_
                 first
                 | exact ⟨Or.inl ⟨rfl, i, by omega, by omega, by omega⟩, rfl⟩
                 | exact ⟨Or.inr ⟨rfl, fun q hq => hno q (by omega)⟩, rfl⟩)))
set_option maxRecDepth 20000 in
set_option maxHeartbeats 400000 in
theorem c_X6_clear (g : Gm) (l : Launch) {σ : Sg} {j : Nat} {P : List It} (hj : j < 12) (hP : PR σ j P) : KV g l yX6_clear cX6_clear 1 0 0 0 [.inr (4 * j)] σ (fun σ' => PR σ' j [] ∧ SO σ σ' (4 * j) (4 * j + 3)) := by
  refine startV (own := RX6) (by decide +kernel) rfl (Nat.le_of_ble_eq_true rfl) ?_
  intro X hx _ _ hret
  obtain ⟨hok, hc, hg9⟩ := id hP
  have hn := hok.1
  refine gx_aload_n hx dX6_clear_0 rfl ?_
  refine gx_iconst hx dX6_clear_1 ?_
  refine gx_put hx fpX6_21 dX6_clear_2 (by omega) (shp_o hj) rfl rfl rfl 3 rfl ?_
  refine hret _ _ _ _ _ (by decide) (by decide) dX6_clear_5 ?_
  refine ⟨⟨⟨by decide, fun i => ?_, fun a b ha => absurd ha (Nat.not_lt_zero a)⟩, ?_, fun i hi => absurd hi (Nat.not_lt_zero i)⟩, SO.upd (by omega) (by omega)⟩
  · obtain ⟨e1, e2, e3⟩ := ok_out (P := []) (i := i) (Nat.zero_le i)
    rw [e1, e2, e3]
    exact okI_def
  · rw [upd2_at]
    rfl
set_option maxRecDepth 20000 in
set_option maxHeartbeats 400000 in
theorem c_X6_putForm (g : Gm) (l : Launch) {σ : Sg} {j : Nat} {P : List It} {i f : Nat} (hj : j < 12) (hP : PR σ j P) (hi : i < P.length) (hf : f ≤ 2) (ht : kd P i = 4 ∨ kd P i = 5 ∨ f = 0) : KV g l yX6_putForm cX6_putForm 3 1 0 0 [.inr (4 * j), .inl (i : Int), .inl (f : Int)] σ (fun σ' => PR σ' j (stF P i f) ∧ SO σ σ' (4 * j) (4 * j + 3)) := by
  refine startV (own := RX6) (by decide +kernel) rfl (Nat.le_of_ble_eq_true rfl) ?_
  intro X hx _ _ hret
  obtain ⟨hok, hc, hg9⟩ := id hP
  have hn := hok.1
  refine gx_aload_n hx dX6_putForm_0 rfl ?_
  refine gx_iload_n hx dX6_putForm_1 rfl ?_
  refine gx_callI hx (c_X6_has _ _ hj hP ⟨by omega, by omega⟩) lkX6_29 mwX6_has dX6_putForm_2 (by omega) (shp_o hj) rfl rfl rfl (Nat.le_of_ble_eq_true rfl) (by decide) ⟨by decide, by decide⟩ (fun z_2 σ_2 hz_2 => ?_)
  obtain ⟨e9, rfl⟩ := hz_2
  rw [if_pos (by omega)] at e9
  subst e9
  refine gx_if_eq (tgt := 15) hx dX6_putForm_5 (by decide) ⟨by omega, by omega⟩ (fun h5 => ?_) (fun h5 => ?_)
  · first
    | (exfalso; omega)
    | (refine hret _ _ _ _ _ (by decide) (by decide) dX6_putForm_15 ?_
       refine ⟨⟨stF_ok hok hf ht, ?_, fun q hq => ?_⟩, SO.upd (by omega) (by omega)⟩
       · rw [upd2_ne (by omega), stF_len]
         exact hc
       · rw [stF_len] at hq
         obtain ⟨e1, e2, e3⟩ := stF_at P i f q
         obtain ⟨g1, g2, g3⟩ := hg9 q hq
         rw [e1, e2, e3, upd2_ne (by omega), upd2_ne (by omega)]
         refine ⟨g1, g2, ?_⟩
         by_cases hqi : q = i
         · subst hqi
           rw [upd2_at, if_pos ⟨rfl, hi⟩]
         · rw [upd2_ne (by omega), if_neg (fun h => hqi h.1)]
           exact g3)
  · first
    | (exfalso; omega)
    | (refine gx_aload_n hx dX6_putForm_8 rfl ?_
       refine gx_getR hx flX6_18 dX6_putForm_9 (by omega) (shp_o hj) rfl ?_
       refine gx_iload_n hx dX6_putForm_12 rfl ?_
       refine gx_iload_n hx dX6_putForm_13 rfl ?_
       refine gx_iast hx dX6_putForm_14 (by omega) (shp_a3 hj) (by omega) (by omega) (by decide) ?_
       refine hret _ _ _ _ _ (by decide) (by decide) dX6_putForm_15 ?_
       refine ⟨⟨stF_ok hok hf ht, ?_, fun q hq => ?_⟩, SO.upd (by omega) (by omega)⟩
       · rw [upd2_ne (by omega), stF_len]
         exact hc
       · rw [stF_len] at hq
         obtain ⟨e1, e2, e3⟩ := stF_at P i f q
         obtain ⟨g1, g2, g3⟩ := hg9 q hq
         rw [e1, e2, e3, upd2_ne (by omega), upd2_ne (by omega)]
         refine ⟨g1, g2, ?_⟩
         by_cases hqi : q = i
         · subst hqi
           rw [upd2_at, if_pos ⟨rfl, hi⟩]
         · rw [upd2_ne (by omega), if_neg (fun h => hqi h.1)]
           exact g3)
set_option maxRecDepth 20000 in
set_option maxHeartbeats 400000 in
theorem c_X6_putAt (g : Gm) (l : Launch) {σ : Sg} {j : Nat} {P : List It} {p k o f : Nat} (hj : j < 12) (hP : PR σ j P) (hp : p ≤ P.length) (hf : P.length < 40) (hx9 : okI k o f) (hd : k = 2 → ∀ i, i < P.length → ¬ (kd P i = 2 ∧ op P i = o)) : KV g l yX6_putAt cX6_putAt 6 1 0 0 [.inr (4 * j), .inl (p : Int), .inl (k : Int), .inl (o : Int), .inl (f : Int)] σ (fun σ' => PR σ' j (insA P p (k, o, f)) ∧ SO σ σ' (4 * j) (4 * j + 3)) := by
  refine startV (own := RX6) (by decide +kernel) rfl (Nat.le_of_ble_eq_true rfl) ?_
  intro X hx _ _ hret
  obtain ⟨hok, hc, hg9⟩ := id hP
  have hn := hok.1
  refine gx_aload_n hx dX6_putAt_0 rfl ?_
  refine gx_callI hx (c_X6_isFull _ _ hj hP) lkX6_33 mwX6_isFull dX6_putAt_1 (by omega) (shp_o hj) rfl rfl rfl (Nat.le_of_ble_eq_true rfl) (by decide) ⟨by decide, by decide⟩ (fun z_1 σ_1 hz_1 => ?_)
  obtain ⟨e9, rfl⟩ := hz_1
  rw [if_neg (by omega)] at e9
  subst e9
  refine gx_if_ne (tgt := 19) hx dX6_putAt_4 (by decide) ⟨by omega, by omega⟩ (fun h4 => ?_) (fun h4 => ?_)
  · first
    | (exfalso; omega)
    | (refine hret _ _ _ _ _ (by decide) (by decide) dX6_putAt_19 ?_
       refine ⟨⟨insA_ok hok hp hf hx9 hd, ?_, fun q hq => ?_⟩, fun k' hk' => ?_⟩
       · rw [insA_len _ hp]
         simp only [upd2]
         rw [if_pos ⟨trivial, trivial⟩, if_neg (by omega), if_neg (by omega), if_neg (by omega), if_neg (by omega), hc]
         omega
       · rw [insA_len _ hp] at hq
         obtain ⟨e1, e2, e3⟩ := insA_at (k, o, f) hp q
         rw [e1, e2, e3]
         have g0 := hg9 q
         have g1 := hg9 (q - 1)
         have e9 : 0 < q → ((q - 1 : Nat) : Int) = (q : Int) - 1 := by omega
         have ei : i = p := by omega
         subst ei
         simp only [upd2, true_and, and_true, false_and, and_false, if_true, if_false, true_or, or_true, false_or, or_false]
         rcases Nat.lt_trichotomy q i with h | h | h
         · obtain ⟨g2, g3, g4⟩ := g0 (by omega)
           refine ⟨?_, ?_, ?_⟩
           all_goals (repeat' split)
           all_goals first | rfl | (exfalso; omega) | omega
         · refine ⟨?_, ?_, ?_⟩
           all_goals (repeat' split)
           all_goals first | rfl | (exfalso; omega) | omega
         · obtain ⟨g2, g3, g4⟩ := g1 (by omega)
           rw [e9 (by omega)] at g2 g3 g4
           refine ⟨?_, ?_, ?_⟩
           all_goals (repeat' split)
           all_goals first | rfl | (exfalso; omega) | omega
       · funext q
         simp only [upd2]
         rw [if_neg (by omega), if_neg (by omega), if_neg (by omega), if_neg (by omega), if_neg (by omega)])
  · first
    | (exfalso; omega)
    | (refine gx_iload_n hx dX6_putAt_7 rfl ?_
       refine gx_if_lt (tgt := 19) hx dX6_putAt_8 (by decide) ⟨by omega, by omega⟩ (fun h8 => ?_) (fun h8 => ?_)
       · first
         | (exfalso; omega)
         | (refine hret _ _ _ _ _ (by decide) (by decide) dX6_putAt_19 ?_
            refine ⟨⟨insA_ok hok hp hf hx9 hd, ?_, fun q hq => ?_⟩, fun k' hk' => ?_⟩
            · rw [insA_len _ hp]
              simp only [upd2]
              rw [if_pos ⟨trivial, trivial⟩, if_neg (by omega), if_neg (by omega), if_neg (by omega), if_neg (by omega), hc]
              omega
            · rw [insA_len _ hp] at hq
              obtain ⟨e1, e2, e3⟩ := insA_at (k, o, f) hp q
              rw [e1, e2, e3]
              have g0 := hg9 q
              have g1 := hg9 (q - 1)
              have e9 : 0 < q → ((q - 1 : Nat) : Int) = (q : Int) - 1 := by omega
              have ei : i = p := by omega
              subst ei
              simp only [upd2, true_and, and_true, false_and, and_false, if_true, if_false, true_or, or_true, false_or, or_false]
              rcases Nat.lt_trichotomy q i with h | h | h
              · obtain ⟨g2, g3, g4⟩ := g0 (by omega)
                refine ⟨?_, ?_, ?_⟩
                all_goals (repeat' split)
                all_goals first | rfl | (exfalso; omega) | omega
              · refine ⟨?_, ?_, ?_⟩
                all_goals (repeat' split)
                all_goals first | rfl | (exfalso; omega) | omega
              · obtain ⟨g2, g3, g4⟩ := g1 (by omega)
                rw [e9 (by omega)] at g2 g3 g4
                refine ⟨?_, ?_, ?_⟩
                all_goals (repeat' split)
                all_goals first | rfl | (exfalso; omega) | omega
            · funext q
              simp only [upd2]
              rw [if_neg (by omega), if_neg (by omega), if_neg (by omega), if_neg (by omega), if_neg (by omega)])
       · first
         | (exfalso; omega)
         | (refine gx_iload_n hx dX6_putAt_11 rfl ?_
            refine gx_aload_n hx dX6_putAt_12 rfl ?_
            refine gx_getI hx flX6_21 dX6_putAt_13 (by omega) (shp_o hj) rfl 3 rfl ?_
            refine gx_icmp_le (tgt := 20) hx dX6_putAt_16 (by decide) ⟨by omega, by omega⟩ ⟨by omega, by omega⟩ (fun h16 => ?_) (fun h16 => ?_)
            · first
              | (exfalso; omega)
              | (refine gx_aload_n hx dX6_putAt_20 rfl ?_
                 refine gx_getI hx flX6_21 dX6_putAt_21 (by omega) (shp_o hj) rfl 3 rfl ?_
                 refine gx_istore hx dX6_putAt_24 (Nat.le_of_ble_eq_true rfl) ?_
                 refine GJ.cong (L' := [some (.inr (4 * j)), some (.inl (p : Int)), some (.inl (k : Int)), some (.inl (o : Int)), some (.inl (f : Int)), some (.inl ((P.length : Nat) : Int))]) (st' := []) (σ' := (fun i => fun k q => if (k = 4 * j + 1 ∨ k = 4 * j + 2 ∨ k = 4 * j + 3) ∧ (i : Int) < q ∧ q ≤ (P.length : Int) then σ k (q - 1) else σ k q) P.length) (by rw [← hc]; rfl) rfl (by
                   funext k q
                   dsimp only
                   rw [if_neg (by omega)]) ?_
                 refine gx_loop (α := Nat) (fun i => p ≤ i ∧ i ≤ P.length) (fun i => i) (fun i => [some (.inr (4 * j)), some (.inl (p : Int)), some (.inl (k : Int)), some (.inl (o : Int)), some (.inl (f : Int)), some (.inl (i : Int))]) (fun _ => []) (fun i => fun k q => if (k = 4 * j + 1 ∨ k = 4 * j + 2 ∨ k = 4 * j + 3) ∧ (i : Int) < q ∧ q ≤ (P.length : Int) then σ k (q - 1) else σ k q) ?_ P.length ⟨hp, Nat.le_refl _⟩
                 rintro i ⟨hi1, hi2⟩ ih
                 refine gx_iload hx dX6_putAt_26 rfl ?_
                 refine gx_iload_n hx dX6_putAt_28 rfl ?_
                 refine gx_icmp_le (tgt := 86) hx dX6_putAt_29 (by decide) ⟨by omega, by omega⟩ ⟨by omega, by omega⟩ (fun h29 => ?_) (fun h29 => ?_)
                 · first
                   | (exfalso; omega)
                   | (refine gx_aload_n hx dX6_putAt_86 rfl ?_
                      refine gx_getR hx flX6_9 dX6_putAt_87 (by omega) (shp_o hj) rfl ?_
                      refine gx_iload_n hx dX6_putAt_90 rfl ?_
                      refine gx_iload_n hx dX6_putAt_91 rfl ?_
                      refine gx_iast hx dX6_putAt_92 (by omega) (shp_a1 hj) (by omega) (by omega) (by decide) ?_
                      refine gx_aload_n hx dX6_putAt_93 rfl ?_
                      refine gx_getR hx flX6_15 dX6_putAt_94 (by omega) (shp_o hj) rfl ?_
                      refine gx_iload_n hx dX6_putAt_97 rfl ?_
                      refine gx_iload_n hx dX6_putAt_98 rfl ?_
                      refine gx_iast hx dX6_putAt_99 (by omega) (shp_a2 hj) (by omega) (by omega) (by decide) ?_
                      refine gx_aload_n hx dX6_putAt_100 rfl ?_
                      refine gx_getR hx flX6_18 dX6_putAt_101 (by omega) (shp_o hj) rfl ?_
                      refine gx_iload_n hx dX6_putAt_104 rfl ?_
                      refine gx_iload hx dX6_putAt_105 rfl ?_
                      refine gx_iast hx dX6_putAt_107 (by omega) (shp_a3 hj) (by omega) (by omega) (by decide) ?_
                      refine gx_aload_n hx dX6_putAt_108 rfl ?_
                      refine gx_dup hx dX6_putAt_109 ?_
                      refine gx_getI hx flX6_21 dX6_putAt_110 (by omega) (shp_o hj) rfl 3 rfl ?_
                      refine gx_iconst hx dX6_putAt_113 ?_
                      refine gx_iadd hx dX6_putAt_114 ?_
                      refine gx_put hx fpX6_21 dX6_putAt_115 (by omega) (shp_o hj) rfl rfl rfl 3 rfl ?_
                      refine hret _ _ _ _ _ (by decide) (by decide) dX6_putAt_118 ?_
                      refine ⟨⟨insA_ok hok hp hf hx9 hd, ?_, fun q hq => ?_⟩, fun k' hk' => ?_⟩
                      · rw [insA_len _ hp]
                        simp only [upd2]
                        rw [if_pos ⟨trivial, trivial⟩, if_neg (by omega), if_neg (by omega), if_neg (by omega), if_neg (by omega), hc]
                        omega
                      · rw [insA_len _ hp] at hq
                        obtain ⟨e1, e2, e3⟩ := insA_at (k, o, f) hp q
                        rw [e1, e2, e3]
                        have g0 := hg9 q
                        have g1 := hg9 (q - 1)
                        have e9 : 0 < q → ((q - 1 : Nat) : Int) = (q : Int) - 1 := by omega
                        have ei : i = p := by omega
                        subst ei
                        simp only [upd2, true_and, and_true, false_and, and_false, if_true, if_false, true_or, or_true, false_or, or_false]
                        rcases Nat.lt_trichotomy q i with h | h | h
                        · obtain ⟨g2, g3, g4⟩ := g0 (by omega)
                          refine ⟨?_, ?_, ?_⟩
                          all_goals (repeat' split)
                          all_goals first | rfl | (exfalso; omega) | omega
                        · refine ⟨?_, ?_, ?_⟩
                          all_goals (repeat' split)
                          all_goals first | rfl | (exfalso; omega) | omega
                        · obtain ⟨g2, g3, g4⟩ := g1 (by omega)
                          rw [e9 (by omega)] at g2 g3 g4
                          refine ⟨?_, ?_, ?_⟩
                          all_goals (repeat' split)
                          all_goals first | rfl | (exfalso; omega) | omega
                      · funext q
                        simp only [upd2]
                        rw [if_neg (by omega), if_neg (by omega), if_neg (by omega), if_neg (by omega), if_neg (by omega)])
                 · first
                   | (exfalso; omega)
                   | (refine gx_aload_n hx dX6_putAt_32 rfl ?_
                      refine gx_getR hx flX6_9 dX6_putAt_33 (by omega) (shp_o hj) rfl ?_
                      refine gx_iload hx dX6_putAt_36 rfl ?_
                      refine gx_aload_n hx dX6_putAt_38 rfl ?_
                      refine gx_getR hx flX6_9 dX6_putAt_39 (by omega) (shp_o hj) rfl ?_
                      refine gx_iload hx dX6_putAt_42 rfl ?_
                      refine gx_iconst hx dX6_putAt_44 ?_
                      refine gx_isub hx dX6_putAt_45 ?_
                      refine gx_iald hx dX6_putAt_46 (by omega) (shp_a1 hj) (by omega) (by omega) (by decide) ?_
                      refine gx_iast hx dX6_putAt_47 (by omega) (shp_a1 hj) (by omega) (by omega) (by decide) ?_
                      refine gx_aload_n hx dX6_putAt_48 rfl ?_
                      refine gx_getR hx flX6_15 dX6_putAt_49 (by omega) (shp_o hj) rfl ?_
                      refine gx_iload hx dX6_putAt_52 rfl ?_
                      refine gx_aload_n hx dX6_putAt_54 rfl ?_
                      refine gx_getR hx flX6_15 dX6_putAt_55 (by omega) (shp_o hj) rfl ?_
                      refine gx_iload hx dX6_putAt_58 rfl ?_
                      refine gx_iconst hx dX6_putAt_60 ?_
                      refine gx_isub hx dX6_putAt_61 ?_
                      refine gx_iald hx dX6_putAt_62 (by omega) (shp_a2 hj) (by omega) (by omega) (by decide) ?_
                      refine gx_iast hx dX6_putAt_63 (by omega) (shp_a2 hj) (by omega) (by omega) (by decide) ?_
                      refine gx_aload_n hx dX6_putAt_64 rfl ?_
                      refine gx_getR hx flX6_18 dX6_putAt_65 (by omega) (shp_o hj) rfl ?_
                      refine gx_iload hx dX6_putAt_68 rfl ?_
                      refine gx_aload_n hx dX6_putAt_70 rfl ?_
                      refine gx_getR hx flX6_18 dX6_putAt_71 (by omega) (shp_o hj) rfl ?_
                      refine gx_iload hx dX6_putAt_74 rfl ?_
                      refine gx_iconst hx dX6_putAt_76 ?_
                      refine gx_isub hx dX6_putAt_77 ?_
                      refine gx_iald hx dX6_putAt_78 (by omega) (shp_a3 hj) (by omega) (by omega) (by decide) ?_
                      refine gx_iast hx dX6_putAt_79 (by omega) (shp_a3 hj) (by omega) (by omega) (by decide) ?_
                      refine gx_iinc hx dX6_putAt_80 (Nat.le_of_ble_eq_true rfl) rfl ?_
                      refine gx_goto (tgt := 26) hx dX6_putAt_83 (by decide) ?_
                      refine GJ.cong ?_ rfl ?_ (ih (i - 1) ⟨by omega, by omega⟩ (by omega))
                      · rw [show ((i - 1 : Nat) : Int) = (i : Int) + (-1) by omega]
                        rfl
                      · funext k' q
                        simp only [upd2]
                        have e1 : ((i - 1 : Nat) : Int) = (i : Int) - 1 := by omega
                        rw [e1]
                        repeat' split
                        all_goals first | rfl | (exfalso; omega) | exact cg σ (by omega) (by omega)))
            · first
              | (exfalso; omega)
              | (refine hret _ _ _ _ _ (by decide) (by decide) dX6_putAt_19 ?_
                 refine ⟨⟨insA_ok hok hp hf hx9 hd, ?_, fun q hq => ?_⟩, fun k' hk' => ?_⟩
                 · rw [insA_len _ hp]
                   simp only [upd2]
                   rw [if_pos ⟨trivial, trivial⟩, if_neg (by omega), if_neg (by omega), if_neg (by omega), if_neg (by omega), hc]
                   omega
                 · rw [insA_len _ hp] at hq
                   obtain ⟨e1, e2, e3⟩ := insA_at (k, o, f) hp q
                   rw [e1, e2, e3]
                   have g0 := hg9 q
                   have g1 := hg9 (q - 1)
                   have e9 : 0 < q → ((q - 1 : Nat) : Int) = (q : Int) - 1 := by omega
                   have ei : i = p := by omega
                   subst ei
                   simp only [upd2, true_and, and_true, false_and, and_false, if_true, if_false, true_or, or_true, false_or, or_false]
                   rcases Nat.lt_trichotomy q i with h | h | h
                   · obtain ⟨g2, g3, g4⟩ := g0 (by omega)
                     refine ⟨?_, ?_, ?_⟩
                     all_goals (repeat' split)
                     all_goals first | rfl | (exfalso; omega) | omega
                   · refine ⟨?_, ?_, ?_⟩
                     all_goals (repeat' split)
                     all_goals first | rfl | (exfalso; omega) | omega
                   · obtain ⟨g2, g3, g4⟩ := g1 (by omega)
                     rw [e9 (by omega)] at g2 g3 g4
                     refine ⟨?_, ?_, ?_⟩
                     all_goals (repeat' split)
                     all_goals first | rfl | (exfalso; omega) | omega
                 · funext q
                   simp only [upd2]
                   rw [if_neg (by omega), if_neg (by omega), if_neg (by omega), if_neg (by omega), if_neg (by omega)])))
set_option maxRecDepth 20000 in
set_option maxHeartbeats 400000 in
theorem c_X6_takeOut (g : Gm) (l : Launch) {σ : Sg} {j : Nat} {P : List It} {p : Nat} (hj : j < 12) (hP : PR σ j P) (hp : p < P.length) : KV g l yX6_takeOut cX6_takeOut 3 1 0 0 [.inr (4 * j), .inl (p : Int)] σ (fun σ' => PR σ' j (P.eraseIdx p) ∧ SO σ σ' (4 * j) (4 * j + 3)) := by
  refine startV (own := RX6) (by decide +kernel) rfl (Nat.le_of_ble_eq_true rfl) ?_
  intro X hx _ _ hret
  obtain ⟨hok, hc, hg9⟩ := id hP
  have hn := hok.1
  refine gx_aload_n hx dX6_takeOut_0 rfl ?_
  refine gx_iload_n hx dX6_takeOut_1 rfl ?_
  refine gx_callI hx (c_X6_has _ _ hj hP ⟨by omega, by omega⟩) lkX6_29 mwX6_has dX6_takeOut_2 (by omega) (shp_o hj) rfl rfl rfl (Nat.le_of_ble_eq_true rfl) (by decide) ⟨by decide, by decide⟩ (fun z_2 σ_2 hz_2 => ?_)
  obtain ⟨e9, rfl⟩ := hz_2
  rw [if_pos (by omega)] at e9
  subst e9
  refine gx_if_ne (tgt := 9) hx dX6_takeOut_5 (by decide) ⟨by omega, by omega⟩ (fun h5 => ?_) (fun h5 => ?_)
  · first
    | (exfalso; omega)
    | (refine gx_iload_n hx dX6_takeOut_9 rfl ?_
       refine gx_istore_n hx dX6_takeOut_10 (Nat.le_of_ble_eq_true rfl) ?_
       refine GJ.cong (L' := [some (.inr (4 * j)), some (.inl (p : Int)), some (.inl (p : Int))]) (st' := []) (σ' := (fun i => fun k q => if (k = 4 * j + 1 ∨ k = 4 * j + 2 ∨ k = 4 * j + 3) ∧ (p : Int) ≤ q ∧ q < (i : Int) then σ k (q + 1) else σ k q) p) rfl rfl (by
         funext k q
         dsimp only
         rw [if_neg (by omega)]) ?_
       refine gx_loop (α := Nat) (fun i => p ≤ i ∧ i ≤ P.length - 1) (fun i => P.length - i) (fun i => [some (.inr (4 * j)), some (.inl (p : Int)), some (.inl (i : Int))]) (fun _ => []) (fun i => fun k q => if (k = 4 * j + 1 ∨ k = 4 * j + 2 ∨ k = 4 * j + 3) ∧ (p : Int) ≤ q ∧ q < (i : Int) then σ k (q + 1) else σ k q) ?_ p ⟨Nat.le_refl _, by omega⟩
       rintro i ⟨hi1, hi2⟩ ih
       have hcc : (if (4 * j = 4 * j + 1 ∨ 4 * j = 4 * j + 2 ∨ 4 * j = 4 * j + 3) ∧ (p : Int) ≤ 3 ∧ (3 : Int) < (i : Int) then σ (4 * j) (3 + 1) else σ (4 * j) 3) = (P.length : Int) := by
         rw [if_neg (by omega)]; exact hc
       refine gx_iload_n hx dX6_takeOut_11 rfl ?_
       refine gx_aload_n hx dX6_takeOut_12 rfl ?_
       refine gx_getI hx flX6_21 dX6_takeOut_13 (by omega) (shp_o hj) rfl 3 rfl ?_
       refine gx_iconst hx dX6_takeOut_16 ?_
       refine gx_isub hx dX6_takeOut_17 ?_
       refine gx_icmp_ge (tgt := 69) hx dX6_takeOut_18 (by decide) ⟨by omega, by omega⟩ ⟨by omega, by omega⟩ (fun h18 => ?_) (fun h18 => ?_)
       · first
         | (exfalso; omega)
         | (refine gx_aload_n hx dX6_takeOut_69 rfl ?_
            refine gx_dup hx dX6_takeOut_70 ?_
            refine gx_getI hx flX6_21 dX6_takeOut_71 (by omega) (shp_o hj) rfl 3 rfl ?_
            refine gx_iconst hx dX6_takeOut_74 ?_
            refine gx_isub hx dX6_takeOut_75 ?_
            refine gx_put hx fpX6_21 dX6_takeOut_76 (by omega) (shp_o hj) rfl rfl rfl 3 rfl ?_
            refine hret _ _ _ _ _ (by decide) (by decide) dX6_takeOut_79 ?_
            refine ⟨⟨era_ok hok hp, ?_, fun q hq => ?_⟩, fun k' hk' => ?_⟩
            · rw [era_len hp]
              simp only [upd2]
              rw [if_pos ⟨trivial, trivial⟩, if_neg (by omega), hc]
              omega
            · rw [era_len hp] at hq
              obtain ⟨e1, e2, e3⟩ := era_at (P := P) (p := p) q
              rw [e1, e2, e3]
              obtain ⟨g2, g3, g4⟩ := hg9 q (by omega)
              obtain ⟨f2, f3, f4⟩ := hg9 (q + 1) (by omega)
              have e9 : ((q + 1 : Nat) : Int) = (q : Int) + 1 := by omega
              rw [e9] at f2 f3 f4
              have ei : i = P.length - 1 := by omega
              subst ei
              simp only [upd2, true_and, and_true, false_and, and_false, if_true, if_false, true_or, or_true, false_or, or_false]
              refine ⟨?_, ?_, ?_⟩
              all_goals (repeat' split)
              all_goals first | rfl | (exfalso; omega) | omega
            · funext q
              simp only [upd2]
              rw [if_neg (by omega), if_neg (by omega)])
       · first
         | (exfalso; omega)
         | (refine gx_aload_n hx dX6_takeOut_21 rfl ?_
            refine gx_getR hx flX6_9 dX6_takeOut_22 (by omega) (shp_o hj) rfl ?_
            refine gx_iload_n hx dX6_takeOut_25 rfl ?_
            refine gx_aload_n hx dX6_takeOut_26 rfl ?_
            refine gx_getR hx flX6_9 dX6_takeOut_27 (by omega) (shp_o hj) rfl ?_
            refine gx_iload_n hx dX6_takeOut_30 rfl ?_
            refine gx_iconst hx dX6_takeOut_31 ?_
            refine gx_iadd hx dX6_takeOut_32 ?_
            refine gx_iald hx dX6_takeOut_33 (by omega) (shp_a1 hj) (by omega) (by omega) (by decide) ?_
            refine gx_iast hx dX6_takeOut_34 (by omega) (shp_a1 hj) (by omega) (by omega) (by decide) ?_
            refine gx_aload_n hx dX6_takeOut_35 rfl ?_
            refine gx_getR hx flX6_15 dX6_takeOut_36 (by omega) (shp_o hj) rfl ?_
            refine gx_iload_n hx dX6_takeOut_39 rfl ?_
            refine gx_aload_n hx dX6_takeOut_40 rfl ?_
            refine gx_getR hx flX6_15 dX6_takeOut_41 (by omega) (shp_o hj) rfl ?_
            refine gx_iload_n hx dX6_takeOut_44 rfl ?_
            refine gx_iconst hx dX6_takeOut_45 ?_
            refine gx_iadd hx dX6_takeOut_46 ?_
            refine gx_iald hx dX6_takeOut_47 (by omega) (shp_a2 hj) (by omega) (by omega) (by decide) ?_
            refine gx_iast hx dX6_takeOut_48 (by omega) (shp_a2 hj) (by omega) (by omega) (by decide) ?_
            refine gx_aload_n hx dX6_takeOut_49 rfl ?_
            refine gx_getR hx flX6_18 dX6_takeOut_50 (by omega) (shp_o hj) rfl ?_
            refine gx_iload_n hx dX6_takeOut_53 rfl ?_
            refine gx_aload_n hx dX6_takeOut_54 rfl ?_
            refine gx_getR hx flX6_18 dX6_takeOut_55 (by omega) (shp_o hj) rfl ?_
            refine gx_iload_n hx dX6_takeOut_58 rfl ?_
            refine gx_iconst hx dX6_takeOut_59 ?_
            refine gx_iadd hx dX6_takeOut_60 ?_
            refine gx_iald hx dX6_takeOut_61 (by omega) (shp_a3 hj) (by omega) (by omega) (by decide) ?_
            refine gx_iast hx dX6_takeOut_62 (by omega) (shp_a3 hj) (by omega) (by omega) (by decide) ?_
            refine gx_iinc hx dX6_takeOut_63 (Nat.le_of_ble_eq_true rfl) rfl ?_
            refine gx_goto (tgt := 11) hx dX6_takeOut_66 (by decide) ?_
            refine GJ.cong rfl rfl ?_ (ih (i + 1) ⟨by omega, by omega⟩ (by omega))
            funext k' q
            simp only [upd2]
            repeat' split
            all_goals first | rfl | (exfalso; omega) | exact cg σ (by omega) (by omega)))
  · first
    | (exfalso; omega)
    | (refine hret _ _ _ _ _ (by decide) (by decide) dX6_takeOut_8 ?_
       refine ⟨⟨era_ok hok hp, ?_, fun q hq => ?_⟩, fun k' hk' => ?_⟩
       · rw [era_len hp]
         simp only [upd2]
         rw [if_pos ⟨trivial, trivial⟩, if_neg (by omega), hc]
         omega
       · rw [era_len hp] at hq
         obtain ⟨e1, e2, e3⟩ := era_at (P := P) (p := p) q
         rw [e1, e2, e3]
         obtain ⟨g2, g3, g4⟩ := hg9 q (by omega)
         obtain ⟨f2, f3, f4⟩ := hg9 (q + 1) (by omega)
         have e9 : ((q + 1 : Nat) : Int) = (q : Int) + 1 := by omega
         rw [e9] at f2 f3 f4
         have ei : i = P.length - 1 := by omega
         subst ei
         simp only [upd2, true_and, and_true, false_and, and_false, if_true, if_false, true_or, or_true, false_or, or_false]
         refine ⟨?_, ?_, ?_⟩
         all_goals (repeat' split)
         all_goals first | rfl | (exfalso; omega) | omega
       · funext q
         simp only [upd2]
         rw [if_neg (by omega), if_neg (by omega)])
set_option maxRecDepth 20000 in
set_option maxHeartbeats 400000 in
theorem c_X6_copyFrom (g : Gm) (l : Launch) {σ : Sg} {j j2 : Nat} {P : List It} (hj : j < 12) (hj2 : j2 < 12) (hne : j ≠ j2) (hP : PR σ j2 P) : KV g l yX6_copyFrom cX6_copyFrom 3 0 0 0 [.inr (4 * j), .inr (4 * j2)] σ (fun σ' => PR σ' j P ∧ SO σ σ' (4 * j) (4 * j + 3)) := by
  refine startV (own := RX6) (by decide +kernel) rfl (Nat.le_of_ble_eq_true rfl) ?_
  intro X hx _ _ hret
  obtain ⟨hok, hc, hg9⟩ := id hP
  have hn := hok.1
  refine gx_iconst hx dX6_copyFrom_0 ?_
  refine gx_istore_n hx dX6_copyFrom_1 (Nat.le_of_ble_eq_true rfl) ?_
  refine GJ.cong (L' := [some (.inr (4 * j)), some (.inr (4 * j2)), some (.inl ((0 : Nat) : Int))]) (st' := []) (σ' := (fun i => fun k q => if (k = 4 * j + 1 ∨ k = 4 * j + 2 ∨ k = 4 * j + 3) ∧ 0 ≤ q ∧ q < (i : Int) then σ (k - 4 * j + 4 * j2) q else σ k q) 0) rfl rfl (by
    funext k q
    dsimp only
    rw [if_neg (by omega)]) ?_
  refine gx_loop (α := Nat) (fun i => i ≤ P.length) (fun i => P.length - i) (fun i => [some (.inr (4 * j)), some (.inr (4 * j2)), some (.inl (i : Int))]) (fun _ => []) (fun i => fun k q => if (k = 4 * j + 1 ∨ k = 4 * j + 2 ∨ k = 4 * j + 3) ∧ 0 ≤ q ∧ q < (i : Int) then σ (k - 4 * j + 4 * j2) q else σ k q) ?_ 0 (Nat.zero_le _)
  intro i hi ih
  have hcc : (if (4 * j2 = 4 * j + 1 ∨ 4 * j2 = 4 * j + 2 ∨ 4 * j2 = 4 * j + 3) ∧ (0 : Int) ≤ 3 ∧ (3 : Int) < (i : Int) then σ (4 * j2 - 4 * j + 4 * j2) 3 else σ (4 * j2) 3) = (P.length : Int) := by
    rw [if_neg (by omega)]; exact hc
  refine gx_iload_n hx dX6_copyFrom_2 rfl ?_
  refine gx_aload_n hx dX6_copyFrom_3 rfl ?_
  refine gx_getI hx flX6_21 dX6_copyFrom_4 (by omega) (shp_o hj2) rfl 3 rfl ?_
  refine gx_icmp_ge (tgt := 52) hx dX6_copyFrom_7 (by decide) ⟨by omega, by omega⟩ ⟨by omega, by omega⟩ (fun h7 => ?_) (fun h7 => ?_)
  · first
    | (exfalso; omega)
    | (refine gx_aload_n hx dX6_copyFrom_52 rfl ?_
       refine gx_aload_n hx dX6_copyFrom_53 rfl ?_
       refine gx_getI hx flX6_21 dX6_copyFrom_54 (by omega) (shp_o hj2) rfl 3 rfl ?_
       refine gx_put hx fpX6_21 dX6_copyFrom_57 (by omega) (shp_o hj) rfl rfl rfl 3 rfl ?_
       refine hret _ _ _ _ _ (by decide) (by decide) dX6_copyFrom_60 ?_
       refine ⟨⟨hok, ?_, fun q hq => ?_⟩, fun k' hk' => ?_⟩
       · rw [upd2_at, hcc]
       · obtain ⟨g2, g3, g4⟩ := hg9 q (by omega)
         have t1 : 4 * j + 1 - 4 * j + 4 * j2 = 4 * j2 + 1 := by omega
         have t2 : 4 * j + 2 - 4 * j + 4 * j2 = 4 * j2 + 2 := by omega
         have t3 : 4 * j + 3 - 4 * j + 4 * j2 = 4 * j2 + 3 := by omega
         simp only [upd2, t1, t2, t3, true_and, and_true, false_and, and_false, if_true, if_false, true_or, or_true, false_or, or_false]
         refine ⟨?_, ?_, ?_⟩
         all_goals (repeat' split)
         all_goals first | assumption | (exfalso; omega)
       · funext q
         simp only [upd2]
         rw [if_neg (by omega), if_neg (by omega)])
  · first
    | (exfalso; omega)
    | (refine gx_aload_n hx dX6_copyFrom_10 rfl ?_
       refine gx_getR hx flX6_9 dX6_copyFrom_11 (by omega) (shp_o hj) rfl ?_
       refine gx_iload_n hx dX6_copyFrom_14 rfl ?_
       refine gx_aload_n hx dX6_copyFrom_15 rfl ?_
       refine gx_getR hx flX6_9 dX6_copyFrom_16 (by omega) (shp_o hj2) rfl ?_
       refine gx_iload_n hx dX6_copyFrom_19 rfl ?_
       refine gx_iald hx dX6_copyFrom_20 (by omega) (shp_a1 hj2) (by omega) (by omega) (by decide) ?_
       refine gx_iast hx dX6_copyFrom_21 (by omega) (shp_a1 hj) (by omega) (by omega) (by decide) ?_
       refine gx_aload_n hx dX6_copyFrom_22 rfl ?_
       refine gx_getR hx flX6_15 dX6_copyFrom_23 (by omega) (shp_o hj) rfl ?_
       refine gx_iload_n hx dX6_copyFrom_26 rfl ?_
       refine gx_aload_n hx dX6_copyFrom_27 rfl ?_
       refine gx_getR hx flX6_15 dX6_copyFrom_28 (by omega) (shp_o hj2) rfl ?_
       refine gx_iload_n hx dX6_copyFrom_31 rfl ?_
       refine gx_iald hx dX6_copyFrom_32 (by omega) (shp_a2 hj2) (by omega) (by omega) (by decide) ?_
       refine gx_iast hx dX6_copyFrom_33 (by omega) (shp_a2 hj) (by omega) (by omega) (by decide) ?_
       refine gx_aload_n hx dX6_copyFrom_34 rfl ?_
       refine gx_getR hx flX6_18 dX6_copyFrom_35 (by omega) (shp_o hj) rfl ?_
       refine gx_iload_n hx dX6_copyFrom_38 rfl ?_
       refine gx_aload_n hx dX6_copyFrom_39 rfl ?_
       refine gx_getR hx flX6_18 dX6_copyFrom_40 (by omega) (shp_o hj2) rfl ?_
       refine gx_iload_n hx dX6_copyFrom_43 rfl ?_
       refine gx_iald hx dX6_copyFrom_44 (by omega) (shp_a3 hj2) (by omega) (by omega) (by decide) ?_
       refine gx_iast hx dX6_copyFrom_45 (by omega) (shp_a3 hj) (by omega) (by omega) (by decide) ?_
       refine gx_iinc hx dX6_copyFrom_46 (Nat.le_of_ble_eq_true rfl) rfl ?_
       refine gx_goto (tgt := 2) hx dX6_copyFrom_49 (by decide) ?_
       refine GJ.cong rfl rfl ?_ (ih (i + 1) (by omega) (by omega))
       funext k' q
       simp only [upd2]
       repeat' split
       all_goals first | rfl | (exfalso; omega) | exact cg σ (by omega) (by omega))
