/-! History -/
set_option maxRecDepth 20000 in
set_option maxHeartbeats 400000 in
theorem c_X2_isEmpty (g : Gm) (l : Launch) {σ : Sg} {hs : List (List It)} (hH : HR σ hs) : KI g l yX2_isEmpty cX2_isEmpty 1 ((some .boolean)) 0 0 0 [.inr 48] σ (fun r σ' => r = (if hs.length = 0 then 1 else 0) ∧ σ = σ') := by
  refine startI (own := RX2) (by decide +kernel) rfl (Nat.le_of_ble_eq_true rfl) ?_
  intro X hx _ _ hret
  obtain ⟨hl9, hw1, hw2, hrm, hps⟩ := id hH
  refine gx_aload_n hx dX2_isEmpty_0 rfl ?_
  refine gx_getI hx flX2_21 dX2_isEmpty_1 (by decide) rfl rfl 2 rfl ?_
  refine gx_if_ne (tgt := 11) hx dX2_isEmpty_4 (by decide) ⟨by omega, by omega⟩ (fun h4 => ?_) (fun h4 => ?_)
  · first
    | (exfalso; omega)
    | (refine gx_iconst hx dX2_isEmpty_11 ?_
       refine hret _ _ _ _ _ _ _ (by decide) (by decide) dX2_isEmpty_12 rfl rfl ?_
       exact ⟨by first | rw [if_pos (by omega)] | rw [if_neg (by omega)], rfl⟩)
  · first
    | (exfalso; omega)
    | (refine gx_iconst hx dX2_isEmpty_7 ?_
       refine gx_goto (tgt := 12) hx dX2_isEmpty_8 (by decide) ?_
       refine hret _ _ _ _ _ _ _ (by decide) (by decide) dX2_isEmpty_12 rfl rfl ?_
       exact ⟨by first | rw [if_pos (by omega)] | rw [if_neg (by omega)], rfl⟩)
set_option maxRecDepth 20000 in
set_option maxHeartbeats 400000 in
theorem c_X2_forget (g : Gm) (l : Launch) {σ : Sg} {hs : List (List It)} (hH : HR σ hs) : KV g l yX2_forget cX2_forget 1 0 0 0 [.inr 48] σ (fun σ' => HR σ' [] ∧ SO σ σ' 48 48) := by
  refine startV (own := RX2) (by decide +kernel) rfl (Nat.le_of_ble_eq_true rfl) ?_
  intro X hx _ _ hret
  obtain ⟨hl9, hw1, hw2, hrm, hps⟩ := id hH
  refine gx_aload_n hx dX2_forget_0 rfl ?_
  refine gx_iconst hx dX2_forget_1 ?_
  refine gx_put hx fpX2_21 dX2_forget_2 (by decide) rfl rfl rfl rfl 2 rfl ?_
  refine hret _ _ _ _ _ (by decide) (by decide) dX2_forget_5 ?_
  exact ⟨⟨by decide, by rw [upd2_ne (by decide)]; exact hw1, by rw [upd2_ne (by decide)]; exact hw2, by rw [upd2_at]; rfl, fun t Q hQ => by simp at hQ⟩, SO.upd (by decide) (by decide)⟩
set_option maxRecDepth 20000 in
set_option maxHeartbeats 400000 in
theorem c_X2_remember (g : Gm) (l : Launch) {σ : Sg} {hs : List (List It)} {P : List It} (hH : HR σ hs) (hP : PR σ 0 P) : KV g l yX2_remember cX2_remember 2 1 0 0 [.inr 48, .inr 0] σ (fun σ' => HR σ' ((P :: hs).take 10) ∧ SO σ σ' 8 48) := by
  refine startV (own := RX2) (by decide +kernel) rfl (Nat.le_of_ble_eq_true rfl) ?_
  intro X hx _ _ hret
  obtain ⟨hl9, hw1, hw2, hrm, hps⟩ := id hH
  refine gx_aload_n hx dX2_remember_0 rfl ?_
  refine gx_aload_n hx dX2_remember_1 rfl ?_
  refine gx_getI hx flX2_17 dX2_remember_2 (by decide) rfl rfl 1 rfl ?_
  refine gx_bipush hx dX2_remember_5 (by decide) ?_
  refine gx_icmp_ge (tgt := 19) hx dX2_remember_7 (by decide) ⟨by omega, by omega⟩ ⟨by omega, by omega⟩ (fun h7 => ?_) (fun h7 => ?_)
  · first
    | (exfalso; omega)
    | (refine gx_iconst hx dX2_remember_19 ?_
       refine GJ.top (fun v hv => ?_)
       have hv9 : v = (σ 48 1 + 1) % 10 := by omega
       have hw : 2 + v.toNat < 12 := by omega
       refine gx_put hx fpX2_17 dX2_remember_20 (by decide) rfl rfl rfl rfl 1 rfl ?_
       refine gx_aload_n hx dX2_remember_23 rfl ?_
       refine gx_getR hx flX2_11 dX2_remember_24 (by decide) rfl rfl ?_
       refine gx_aload_n hx dX2_remember_27 rfl ?_
       refine gx_getI hx flX2_17 dX2_remember_28 (by decide) rfl rfl 1 rfl ?_
       rw [upd2_at]
       refine gx_aald hx dX2_remember_31 (by decide) rfl (by omega) (by omega) (by decide) ?_
       refine gx_aload_n hx dX2_remember_32 rfl ?_
       refine gx_callV hx (c_X6_copyFrom (j := 2 + v.toNat) (j2 := 0) (P := P) _ _ hw (by decide) (by omega) (hP.so (SO.upd (lo := 48) (hi := 48) (by decide) (by decide)) (by decide))) lkX2_25 mwX6_copyFrom dX2_remember_33 (by omega) (shp_o hw) rfl rfl rfl (Nat.le_of_ble_eq_true rfl) (by decide) ⟨by decide, by decide⟩ (fun σ_33 hz_33 => ?_)
       obtain ⟨q1, q2⟩ := hz_33
       have e1 : σ_33 48 = upd2 σ 48 1 v 48 := q2 48 (by omega)
       have e2 : σ_33 48 1 = v := by rw [e1, upd2_at]
       have e3 : σ_33 48 2 = (hs.length : Int) := by rw [e1, upd2_ne (by decide)]; exact hrm
       have e4 : ∀ k, 8 ≤ k → k < 48 → ¬ (4 * (2 + v.toNat) ≤ k ∧ k ≤ 4 * (2 + v.toNat) + 3) → σ_33 k = σ k := fun k a1 a2 a3 => (q2 k (by omega)).trans (upd2_other k (by omega))
       have e5 : SO σ σ_33 8 48 := fun k hk => (q2 k (by omega)).trans (upd2_other k (by omega))
       refine gx_aload_n hx dX2_remember_36 rfl ?_
       refine gx_getI hx flX2_21 dX2_remember_37 (by decide) rfl rfl 2 rfl ?_
       refine gx_bipush hx dX2_remember_40 (by decide) ?_
       refine gx_icmp_ge (tgt := 55) hx dX2_remember_42 (by decide) ⟨by omega, by omega⟩ ⟨by omega, by omega⟩ (fun h42 => ?_) (fun h42 => ?_)
       · first
         | (exfalso; omega)
         | (refine hret _ _ _ _ _ (by decide) (by decide) dX2_remember_55 ?_
            first
            | exact ⟨HR_push hH hv9 q1 e4 e2 (by rw [e3, if_neg (by omega)]; omega), e5⟩
            | exact ⟨HR_push hH hv9 (q1.so (SO.upd (lo := 48) (hi := 48) (by decide) (by decide)) (by omega)) (fun k a1 a2 a3 => (upd2_other k (by omega)).trans (e4 k a1 a2 a3)) (by rw [upd2_ne (by decide)]; exact e2) (by rw [upd2_at, e3, if_pos (by omega)]), e5.trans (SO.upd (by decide) (by decide))⟩)
       · first
         | (exfalso; omega)
         | (refine gx_aload_n hx dX2_remember_45 rfl ?_
            refine gx_dup hx dX2_remember_46 ?_
            refine gx_getI hx flX2_21 dX2_remember_47 (by decide) rfl rfl 2 rfl ?_
            refine gx_iconst hx dX2_remember_50 ?_
            refine gx_iadd hx dX2_remember_51 ?_
            refine gx_put hx fpX2_21 dX2_remember_52 (by decide) rfl rfl rfl rfl 2 rfl ?_
            refine hret _ _ _ _ _ (by decide) (by decide) dX2_remember_55 ?_
            first
            | exact ⟨HR_push hH hv9 q1 e4 e2 (by rw [e3, if_neg (by omega)]; omega), e5⟩
            | exact ⟨HR_push hH hv9 (q1.so (SO.upd (lo := 48) (hi := 48) (by decide) (by decide)) (by omega)) (fun k a1 a2 a3 => (upd2_other k (by omega)).trans (e4 k a1 a2 a3)) (by rw [upd2_ne (by decide)]; exact e2) (by rw [upd2_at, e3, if_pos (by omega)]), e5.trans (SO.upd (by decide) (by decide))⟩))
  · first
    | (exfalso; omega)
    | (refine gx_aload_n hx dX2_remember_10 rfl ?_
       refine gx_getI hx flX2_17 dX2_remember_11 (by decide) rfl rfl 1 rfl ?_
       refine gx_iconst hx dX2_remember_14 ?_
       refine gx_iadd hx dX2_remember_15 ?_
       refine gx_goto (tgt := 20) hx dX2_remember_16 (by decide) ?_
       refine GJ.top (fun v hv => ?_)
       have hv9 : v = (σ 48 1 + 1) % 10 := by omega
       have hw : 2 + v.toNat < 12 := by omega
       refine gx_put hx fpX2_17 dX2_remember_20 (by decide) rfl rfl rfl rfl 1 rfl ?_
       refine gx_aload_n hx dX2_remember_23 rfl ?_
       refine gx_getR hx flX2_11 dX2_remember_24 (by decide) rfl rfl ?_
       refine gx_aload_n hx dX2_remember_27 rfl ?_
       refine gx_getI hx flX2_17 dX2_remember_28 (by decide) rfl rfl 1 rfl ?_
       rw [upd2_at]
       refine gx_aald hx dX2_remember_31 (by decide) rfl (by omega) (by omega) (by decide) ?_
       refine gx_aload_n hx dX2_remember_32 rfl ?_
       refine gx_callV hx (c_X6_copyFrom (j := 2 + v.toNat) (j2 := 0) (P := P) _ _ hw (by decide) (by omega) (hP.so (SO.upd (lo := 48) (hi := 48) (by decide) (by decide)) (by decide))) lkX2_25 mwX6_copyFrom dX2_remember_33 (by omega) (shp_o hw) rfl rfl rfl (Nat.le_of_ble_eq_true rfl) (by decide) ⟨by decide, by decide⟩ (fun σ_33 hz_33 => ?_)
       obtain ⟨q1, q2⟩ := hz_33
       have e1 : σ_33 48 = upd2 σ 48 1 v 48 := q2 48 (by omega)
       have e2 : σ_33 48 1 = v := by rw [e1, upd2_at]
       have e3 : σ_33 48 2 = (hs.length : Int) := by rw [e1, upd2_ne (by decide)]; exact hrm
       have e4 : ∀ k, 8 ≤ k → k < 48 → ¬ (4 * (2 + v.toNat) ≤ k ∧ k ≤ 4 * (2 + v.toNat) + 3) → σ_33 k = σ k := fun k a1 a2 a3 => (q2 k (by omega)).trans (upd2_other k (by omega))
       have e5 : SO σ σ_33 8 48 := fun k hk => (q2 k (by omega)).trans (upd2_other k (by omega))
       refine gx_aload_n hx dX2_remember_36 rfl ?_
       refine gx_getI hx flX2_21 dX2_remember_37 (by decide) rfl rfl 2 rfl ?_
       refine gx_bipush hx dX2_remember_40 (by decide) ?_
       refine gx_icmp_ge (tgt := 55) hx dX2_remember_42 (by decide) ⟨by omega, by omega⟩ ⟨by omega, by omega⟩ (fun h42 => ?_) (fun h42 => ?_)
       · first
         | (exfalso; omega)
         | (refine hret _ _ _ _ _ (by decide) (by decide) dX2_remember_55 ?_
            first
            | exact ⟨HR_push hH hv9 q1 e4 e2 (by rw [e3, if_neg (by omega)]; omega), e5⟩
            | exact ⟨HR_push hH hv9 (q1.so (SO.upd (lo := 48) (hi := 48) (by decide) (by decide)) (by omega)) (fun k a1 a2 a3 => (upd2_other k (by omega)).trans (e4 k a1 a2 a3)) (by rw [upd2_ne (by decide)]; exact e2) (by rw [upd2_at, e3, if_pos (by omega)]), e5.trans (SO.upd (by decide) (by decide))⟩)
       · first
         | (exfalso; omega)
         | (refine gx_aload_n hx dX2_remember_45 rfl ?_
            refine gx_dup hx dX2_remember_46 ?_
            refine gx_getI hx flX2_21 dX2_remember_47 (by decide) rfl rfl 2 rfl ?_
            refine gx_iconst hx dX2_remember_50 ?_
            refine gx_iadd hx dX2_remember_51 ?_
            refine gx_put hx fpX2_21 dX2_remember_52 (by decide) rfl rfl rfl rfl 2 rfl ?_
            refine hret _ _ _ _ _ (by decide) (by decide) dX2_remember_55 ?_
            first
            | exact ⟨HR_push hH hv9 q1 e4 e2 (by rw [e3, if_neg (by omega)]; omega), e5⟩
            | exact ⟨HR_push hH hv9 (q1.so (SO.upd (lo := 48) (hi := 48) (by decide) (by decide)) (by omega)) (fun k a1 a2 a3 => (upd2_other k (by omega)).trans (e4 k a1 a2 a3)) (by rw [upd2_ne (by decide)]; exact e2) (by rw [upd2_at, e3, if_pos (by omega)]), e5.trans (SO.upd (by decide) (by decide))⟩))
set_option maxRecDepth 20000 in
set_option maxHeartbeats 400000 in
theorem c_X2_takeBack (g : Gm) (l : Launch) {σ : Sg} {hs : List (List It)} {P : List It} (hH : HR σ (P :: hs)) : KI g l yX2_takeBack cX2_takeBack 2 ((some .int)) 1 0 0 [.inr 48, .inr 0] σ (fun r σ' => r = (hs.length : Int) ∧ HR σ' hs ∧ PR σ' 0 P ∧ (∀ k, 4 ≤ k → k ≠ 48 → σ' k = σ k)) := by
  refine startI (own := RX2) (by decide +kernel) rfl (Nat.le_of_ble_eq_true rfl) ?_
  intro X hx _ _ hret
  obtain ⟨hl9, hw1, hw2, hrm, hps⟩ := id hH
  simp only [List.length_cons] at hrm hl9
  have hrm9 : σ 48 2 = (hs.length : Int) + 1 := by omega
  have hw : 2 + (σ 48 1).toNat < 12 := by omega
  have hPP : PR σ (2 + (σ 48 1).toNat) P := by
    have h9 := hps 0 P rfl
    have e : hix (σ 48 1) 0 = 2 + (σ 48 1).toNat := by unfold hix; omega
    rw [e] at h9
    exact h9
  refine gx_aload_n hx dX2_takeBack_0 rfl ?_
  refine gx_getI hx flX2_21 dX2_takeBack_1 (by decide) rfl rfl 2 rfl ?_
  refine gx_if_le (tgt := 52) hx dX2_takeBack_4 (by decide) ⟨by omega, by omega⟩ (fun h4 => ?_) (fun h4 => ?_)
  · first
    | (exfalso; omega)
    | (refine gx_aload_n hx dX2_takeBack_52 rfl ?_
       refine gx_getI hx flX2_21 dX2_takeBack_53 (by decide) rfl rfl 2 rfl ?_
       refine hret _ _ _ _ _ _ _ (by decide) (by decide) dX2_takeBack_56 rfl rfl ?_
       refine ⟨?_, HR_pop hH (fun k a1 a2 => ?_) ?_ ?_, (q1.so (lo := 48) (hi := 48) (SO.trans (SO.upd (by decide) (by decide)) (SO.upd (by decide) (by decide))) (by decide)), fun k a1 a2 => ?_⟩
       · rw [upd2_at, upd2_ne (by decide), e1b]
         omega
       · rw [upd2_other k (by omega), upd2_other k (by omega)]
         exact q2 k (by omega)
       · rw [upd2_ne (by decide), upd2_at]
         exact hv9
       · rw [upd2_at, upd2_ne (by decide), e1b]
         omega
       · rw [upd2_other k (by omega), upd2_other k (by omega)]
         exact q2 k (by omega))
  · first
    | (exfalso; omega)
    | (refine gx_aload_n hx dX2_takeBack_7 rfl ?_
       refine gx_aload_n hx dX2_takeBack_8 rfl ?_
       refine gx_getR hx flX2_11 dX2_takeBack_9 (by decide) rfl rfl ?_
       refine gx_aload_n hx dX2_takeBack_12 rfl ?_
       refine gx_getI hx flX2_17 dX2_takeBack_13 (by decide) rfl rfl 1 rfl ?_
       refine gx_aald hx dX2_takeBack_16 (by decide) rfl (by omega) (by omega) (by decide) ?_
       refine gx_callV hx (c_X6_copyFrom (j := 0) (j2 := 2 + (σ 48 1).toNat) (P := P) _ _ (by decide) hw (by omega) hPP) lkX2_25 mwX6_copyFrom dX2_takeBack_17 (by decide) rfl rfl rfl rfl (Nat.le_of_ble_eq_true rfl) (by decide) ⟨by decide, by decide⟩ (fun σ_17 hz_17 => ?_)
       obtain ⟨q1, q2⟩ := hz_17
       have e1 : σ_17 48 = σ 48 := q2 48 (by omega)
       have e1a : σ_17 48 1 = σ 48 1 := by rw [e1]
       have e1b : σ_17 48 2 = σ 48 2 := by rw [e1]
       refine gx_aload_n hx dX2_takeBack_20 rfl ?_
       refine gx_aload_n hx dX2_takeBack_21 rfl ?_
       refine gx_getI hx flX2_17 dX2_takeBack_22 (by decide) rfl rfl 1 rfl ?_
       refine gx_if_le (tgt := 37) hx dX2_takeBack_25 (by decide) ⟨by omega, by omega⟩ (fun h25 => ?_) (fun h25 => ?_)
       · first
         | (exfalso; omega)
         | (refine gx_bipush hx dX2_takeBack_37 (by decide) ?_
            refine GJ.top (fun v hv => ?_)
            have hv9 : v = (σ 48 1 - 1) % 10 := by omega
            refine gx_put hx fpX2_17 dX2_takeBack_39 (by decide) rfl rfl rfl rfl 1 rfl ?_
            refine gx_aload_n hx dX2_takeBack_42 rfl ?_
            refine gx_dup hx dX2_takeBack_43 ?_
            refine gx_getI hx flX2_21 dX2_takeBack_44 (by decide) rfl rfl 2 rfl ?_
            refine gx_iconst hx dX2_takeBack_47 ?_
            refine gx_isub hx dX2_takeBack_48 ?_
            refine gx_put hx fpX2_21 dX2_takeBack_49 (by decide) rfl rfl rfl rfl 2 rfl ?_
            refine gx_aload_n hx dX2_takeBack_52 rfl ?_
            refine gx_getI hx flX2_21 dX2_takeBack_53 (by decide) rfl rfl 2 rfl ?_
            refine hret _ _ _ _ _ _ _ (by decide) (by decide) dX2_takeBack_56 rfl rfl ?_
            refine ⟨?_, HR_pop hH (fun k a1 a2 => ?_) ?_ ?_, (q1.so (lo := 48) (hi := 48) (SO.trans (SO.upd (by decide) (by decide)) (SO.upd (by decide) (by decide))) (by decide)), fun k a1 a2 => ?_⟩
            · rw [upd2_at, upd2_ne (by decide), e1b]
              omega
            · rw [upd2_other k (by omega), upd2_other k (by omega)]
              exact q2 k (by omega)
            · rw [upd2_ne (by decide), upd2_at]
              exact hv9
            · rw [upd2_at, upd2_ne (by decide), e1b]
              omega
            · rw [upd2_other k (by omega), upd2_other k (by omega)]
              exact q2 k (by omega))
       · first
         | (exfalso; omega)
         | (refine gx_aload_n hx dX2_takeBack_28 rfl ?_
            refine gx_getI hx flX2_17 dX2_takeBack_29 (by decide) rfl rfl 1 rfl ?_
            refine gx_iconst hx dX2_takeBack_32 ?_
            refine gx_isub hx dX2_takeBack_33 ?_
            refine gx_goto (tgt := 39) hx dX2_takeBack_34 (by decide) ?_
            refine GJ.top (fun v hv => ?_)
            have hv9 : v = (σ 48 1 - 1) % 10 := by omega
            refine gx_put hx fpX2_17 dX2_takeBack_39 (by decide) rfl rfl rfl rfl 1 rfl ?_
            refine gx_aload_n hx dX2_takeBack_42 rfl ?_
            refine gx_dup hx dX2_takeBack_43 ?_
            refine gx_getI hx flX2_21 dX2_takeBack_44 (by decide) rfl rfl 2 rfl ?_
            refine gx_iconst hx dX2_takeBack_47 ?_
            refine gx_isub hx dX2_takeBack_48 ?_
            refine gx_put hx fpX2_21 dX2_takeBack_49 (by decide) rfl rfl rfl rfl 2 rfl ?_
            refine gx_aload_n hx dX2_takeBack_52 rfl ?_
            refine gx_getI hx flX2_21 dX2_takeBack_53 (by decide) rfl rfl 2 rfl ?_
            refine hret _ _ _ _ _ _ _ (by decide) (by decide) dX2_takeBack_56 rfl rfl ?_
            refine ⟨?_, HR_pop hH (fun k a1 a2 => ?_) ?_ ?_, (q1.so (lo := 48) (hi := 48) (SO.trans (SO.upd (by decide) (by decide)) (SO.upd (by decide) (by decide))) (by decide)), fun k a1 a2 => ?_⟩
            · rw [upd2_at, upd2_ne (by decide), e1b]
              omega
            · rw [upd2_other k (by omega), upd2_other k (by omega)]
              exact q2 k (by omega)
            · rw [upd2_ne (by decide), upd2_at]
              exact hv9
            · rw [upd2_at, upd2_ne (by decide), e1b]
              omega
            · rw [upd2_other k (by omega), upd2_other k (by omega)]
              exact q2 k (by omega)))
