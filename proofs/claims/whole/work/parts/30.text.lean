/-! ItemText: reading; what was read -/
/-- what the last reading of T left -/
def RD (σ : Sg) (T : List Nat) : Prop := σ 50 2 = kR T 8 ∧ σ 50 3 = oR T ∧ σ 50 4 = (eR T 8 : Int)
set_option maxRecDepth 20000 in
set_option maxHeartbeats 400000 in
theorem c_X3_read (g : Gm) (l : Launch) {σ : Sg} {T : List Nat} (hT : TR σ T) : KV g l yX3_read cX3_read 3 (5) 0 0 [.inr 50] σ (fun σ' => RD σ' T ∧ TR σ' [] ∧ SO σ σ' 50 50) := by
  refine startV (own := RX3) (by decide +kernel) rfl (Nat.le_of_ble_eq_true rfl) ?_
  intro X hx _ _ hret
  obtain ⟨hl, h1, h2⟩ := id hT
  refine gx_aload_n hx dX3_read_0 rfl ?_
  refine gx_iconst hx dX3_read_1 ?_
  refine gx_put hx fpX3_19 dX3_read_2 (by decide) rfl rfl rfl rfl 2 rfl ?_
  refine gx_aload_n hx dX3_read_5 rfl ?_
  refine gx_iconst hx dX3_read_6 ?_
  refine gx_put hx fpX3_25 dX3_read_7 (by decide) rfl rfl rfl rfl 4 rfl ?_
  refine gx_iconst hx dX3_read_10 ?_
  refine gx_istore_n hx dX3_read_11 (Nat.le_of_ble_eq_true rfl) ?_
  refine gx_loop (α := Nat × Sg) (fun x => x.1 ≤ 8 ∧ x.2 50 2 = kR T x.1 ∧ x.2 50 4 = (eR T x.1 : Int) ∧ TR x.2 T ∧ SO σ x.2 50 50) (fun x => 8 - x.1) (fun x => [some (.inr 50), some (.inl (x.1 : Int)), none]) (fun _ => []) (fun x => x.2) ?_ (0, upd2 (upd2 σ 50 2 (-1)) 50 4 0) ⟨Nat.zero_le _, by dsimp only; rw [upd2_ne (by decide), upd2_at]; rfl, by dsimp only; rw [upd2_at]; rfl, ⟨hl, by dsimp only; rw [upd2_ne (by decide), upd2_ne (by decide)]; exact h1, fun i hi => by dsimp only; rw [upd2_ne (by omega), upd2_ne (by omega)]; exact h2 i hi⟩, SO.trans (SO.upd (by decide) (by decide)) (SO.upd (by decide) (by decide))⟩
  rintro ⟨k, τ⟩ ⟨hk, e2, e4, hTt, hso⟩ ih
  dsimp only at hk e2 e4 hTt hso ih ⊢
  have e1 := hTt.2.1
  refine gx_iload_n hx dX3_read_12 rfl ?_
  refine gx_bipush hx dX3_read_13 (by decide) ?_
  refine gx_icmp_ge (tgt := 66) hx dX3_read_15 (by decide) ⟨by omega, by omega⟩ ⟨by omega, by omega⟩ (fun h15 => ?_) (fun h15 => ?_)
  · first
    | (exfalso; omega)
    | (have ek : k = 8 := by omega
       subst ek
       have hkg := kR_rg T 8
       have hks := kR_is T 8
       refine gx_aload_n hx dX3_read_66 rfl ?_
       refine gx_aload_n hx dX3_read_67 rfl ?_
       refine gx_getI hx flX3_19 dX3_read_68 (by decide) rfl rfl 2 rfl ?_
       refine gx_iconst hx dX3_read_71 ?_
       refine gx_icmp_eq (tgt := 84) hx dX3_read_72 (by decide) ⟨by omega, by omega⟩ ⟨by omega, by omega⟩ (fun h72 => ?_) (fun h72 => ?_)
       · first
         | (exfalso; omega)
         | (refine gx_iconst hx dX3_read_84 ?_
            refine gx_goto (tgt := 104) hx dX3_read_85 (by decide) ?_
            refine GJ.top (fun v hv => ?_)
            have hvo : v = oR T := by
              unfold oR
              first
              | (rw [if_pos (by omega)]; exact hv)
              | (rw [if_neg (by omega), hk1, show ((kk : Int)).toNat = kk by omega]; exact hv)
            refine gx_put hx fpX3_22 dX3_read_104 (by decide) rfl rfl rfl rfl 3 rfl ?_
            refine gx_aload_n hx dX3_read_107 rfl ?_
            refine gx_iconst hx dX3_read_108 ?_
            refine gx_put hx fpX3_15 dX3_read_109 (by decide) rfl rfl rfl rfl 1 rfl ?_
            refine hret _ _ _ _ _ (by decide) (by decide) dX3_read_112 ?_
            refine ⟨⟨?_, ?_, ?_⟩, ⟨by decide, ?_, fun i hi => absurd hi (Nat.not_lt_zero i)⟩, hso.trans (SO.trans (SO.upd (by decide) (by decide)) (SO.upd (by decide) (by decide)))⟩
            · rw [upd2_ne (by decide), upd2_ne (by decide)]; exact e2
            · rw [upd2_ne (by decide), upd2_at]; exact hvo
            · rw [upd2_ne (by decide), upd2_ne (by decide)]; exact e4
            · rw [upd2_at]; rfl)
       · first
         | (exfalso; omega)
         | (refine gx_aload_n hx dX3_read_75 rfl ?_
            refine gx_getI hx flX3_19 dX3_read_76 (by decide) rfl rfl 2 rfl ?_
            refine gx_bipush hx dX3_read_79 (by decide) ?_
            refine gx_icmp_ne (tgt := 88) hx dX3_read_81 (by decide) ⟨by omega, by omega⟩ ⟨by omega, by omega⟩ (fun h81 => ?_) (fun h81 => ?_)
            · first
              | (exfalso; omega)
              | (refine gx_aload_n hx dX3_read_88 rfl ?_
                 refine gx_aload_n hx dX3_read_89 rfl ?_
                 refine gx_getI hx flX3_19 dX3_read_90 (by decide) rfl rfl 2 rfl ?_
                 obtain ⟨kk, hk1, hk2, hk3⟩ : ∃ kk : Nat, kR T 8 = (kk : Int) ∧ kk < 8 ∧ isW T kk := by
                   rcases hks with h | h
                   · omega
                   · exact h
                 rw [e2, hk1]
                 obtain ⟨w1, w2, w3, w4, w5⟩ := isW_num hk3 (by omega)
                 have hn1 := nm_le kk (by omega)
                 refine gx_callNR hx (c_X8_nameOf (k := kk) _ _ (by omega)) (List.mem_of_getElem? (i := 6) rfl) mwX8_nameOf dX3_read_93 rfl rfl (Nat.le_of_ble_eq_true rfl) (by decide) ⟨by decide, by decide⟩ (fun z_93 σ_93 hz_93 => ?_)
                 obtain ⟨rfl, rfl⟩ := hz_93
                 refine gx_callT hx (i := kk) (by omega) (c_J0_length_8abf5 (i := kk) _ _ (by omega)) lkX3_49 mwJ0_length_8abf5 dX3_read_96 rfl rfl (Nat.le_of_ble_eq_true rfl) (by decide) ⟨by decide, by decide⟩ (fun z_96 σ_96 hz_96 => ?_)
                 obtain ⟨rfl, rfl⟩ := hz_96
                 refine gx_iconst hx dX3_read_99 ?_
                 refine gx_iadd hx dX3_read_100 ?_
                 rw [show (nmL kk : Int) + 1 = ((nmL kk + 1 : Nat) : Int) by omega]
                 refine gx_callI hx (c_X3_numberFrom (T := T) (s := nmL kk + 1) _ _ hTt (by omega)) lkX3_54 mwX3_numberFrom dX3_read_101 (by decide) rfl rfl rfl rfl (Nat.le_of_ble_eq_true rfl) (by decide) ⟨by decide, by decide⟩ (fun z_101 σ_101 hz_101 => ?_)
                 obtain ⟨rfl, rfl⟩ := hz_101
                 refine GJ.top (fun v hv => ?_)
                 have hvo : v = oR T := by
                   unfold oR
                   first
                   | (rw [if_pos (by omega)]; exact hv)
                   | (rw [if_neg (by omega), hk1, show ((kk : Int)).toNat = kk by omega]; exact hv)
                 refine gx_put hx fpX3_22 dX3_read_104 (by decide) rfl rfl rfl rfl 3 rfl ?_
                 refine gx_aload_n hx dX3_read_107 rfl ?_
                 refine gx_iconst hx dX3_read_108 ?_
                 refine gx_put hx fpX3_15 dX3_read_109 (by decide) rfl rfl rfl rfl 1 rfl ?_
                 refine hret _ _ _ _ _ (by decide) (by decide) dX3_read_112 ?_
                 refine ⟨⟨?_, ?_, ?_⟩, ⟨by decide, ?_, fun i hi => absurd hi (Nat.not_lt_zero i)⟩, hso.trans (SO.trans (SO.upd (by decide) (by decide)) (SO.upd (by decide) (by decide)))⟩
                 · rw [upd2_ne (by decide), upd2_ne (by decide)]; exact e2
                 · rw [upd2_ne (by decide), upd2_at]; exact hvo
                 · rw [upd2_ne (by decide), upd2_ne (by decide)]; exact e4
                 · rw [upd2_at]; rfl)
            · first
              | (exfalso; omega)
              | (refine gx_iconst hx dX3_read_84 ?_
                 refine gx_goto (tgt := 104) hx dX3_read_85 (by decide) ?_
                 refine GJ.top (fun v hv => ?_)
                 have hvo : v = oR T := by
                   unfold oR
                   first
                   | (rw [if_pos (by omega)]; exact hv)
                   | (rw [if_neg (by omega), hk1, show ((kk : Int)).toNat = kk by omega]; exact hv)
                 refine gx_put hx fpX3_22 dX3_read_104 (by decide) rfl rfl rfl rfl 3 rfl ?_
                 refine gx_aload_n hx dX3_read_107 rfl ?_
                 refine gx_iconst hx dX3_read_108 ?_
                 refine gx_put hx fpX3_15 dX3_read_109 (by decide) rfl rfl rfl rfl 1 rfl ?_
                 refine hret _ _ _ _ _ (by decide) (by decide) dX3_read_112 ?_
                 refine ⟨⟨?_, ?_, ?_⟩, ⟨by decide, ?_, fun i hi => absurd hi (Nat.not_lt_zero i)⟩, hso.trans (SO.trans (SO.upd (by decide) (by decide)) (SO.upd (by decide) (by decide)))⟩
                 · rw [upd2_ne (by decide), upd2_ne (by decide)]; exact e2
                 · rw [upd2_ne (by decide), upd2_at]; exact hvo
                 · rw [upd2_ne (by decide), upd2_ne (by decide)]; exact e4
                 · rw [upd2_at]; rfl)))
  · first
    | (exfalso; omega)
    | (refine gx_aload_n hx dX3_read_18 rfl ?_
       refine gx_iload_n hx dX3_read_19 rfl ?_
       refine gx_callI hx (c_X3_matchedBy (k := k) _ _ hTt (by omega)) lkX3_32 mwX3_matchedBy dX3_read_20 (by decide) rfl rfl rfl rfl (Nat.le_of_ble_eq_true rfl) (by decide) ⟨by decide, by decide⟩ (fun z_20 σ_20 hz_20 => ?_)
       obtain ⟨rfl, rfl⟩ := hz_20
       refine gx_istore_n hx dX3_read_23 (Nat.le_of_ble_eq_true rfl) ?_
       have hmb := mt_le T k
       have heb := eR_le T k
       refine gx_aload_n hx dX3_read_24 rfl ?_
       refine gx_aload_n hx dX3_read_25 rfl ?_
       refine gx_getI hx flX3_25 dX3_read_26 (by decide) rfl rfl 4 rfl ?_
       refine gx_iload_n hx dX3_read_29 rfl ?_
       refine gx_max hx wMaxX3 wMax1 wMax2 wMax3 dX3_read_30 ⟨by omega, by omega⟩ ⟨by omega, by omega⟩ (Nat.le_of_ble_eq_true rfl) (by decide) (by decide) ?_
       refine GJ.top (fun v9 hv9 => ?_)
       have eE : v9 = (eR T (k + 1) : Int) := by
         rw [hv9, eR, e4]
         split <;> split <;> omega
       refine gx_put hx fpX3_25 dX3_read_33 (by decide) rfl rfl rfl rfl 4 rfl ?_
       refine gx_iload_n hx dX3_read_36 rfl ?_
       refine gx_aload_n hx dX3_read_37 rfl ?_
       
       refine gx_getI hx flX3_15 dX3_read_38 (by decide) rfl rfl 1 rfl ?_
       rw [upd2_ne (by decide), e1]
       refine gx_icmp_ne (tgt := 60) hx dX3_read_41 (by decide) ⟨by omega, by omega⟩ ⟨by omega, by omega⟩ (fun h41 => ?_) (fun h41 => ?_)
       · first
         | (exfalso; omega)
         | (refine gx_iinc hx dX3_read_60 (Nat.le_of_ble_eq_true rfl) rfl ?_
            refine gx_goto (tgt := 12) hx dX3_read_63 (by decide) ?_
            refine GJ.drop 2 ?_
            first
            | (refine ih (k + 1, upd2 (upd2 τ 50 4 v9) 50 2 (k : Int)) ⟨by omega, ?_, ?_, ⟨hl, ?_, fun i hi => ?_⟩, hso.trans (SO.trans (SO.upd (by decide) (by decide)) (SO.upd (by decide) (by decide)))⟩ (by dsimp only; omega)
               · dsimp only; rw [upd2_at, kR, if_pos (by constructor <;> omega)]
               · dsimp only; rw [upd2_ne (by decide), upd2_at]; exact eE
               · dsimp only; rw [upd2_ne (by decide), upd2_ne (by decide)]; exact e1
               · dsimp only; rw [upd2_ne (by omega), upd2_ne (by omega)]; exact hTt.2.2 i hi)
            | (refine ih (k + 1, upd2 τ 50 4 v9) ⟨by omega, ?_, ?_, ⟨hl, ?_, fun i hi => ?_⟩, hso.trans (SO.upd (by decide) (by decide))⟩ (by dsimp only; omega)
               · dsimp only; rw [upd2_ne (by decide), kR, if_neg (by rintro ⟨c1, c2⟩; omega)]; exact e2
               · dsimp only; rw [upd2_at]; exact eE
               · dsimp only; rw [upd2_ne (by decide)]; exact e1
               · dsimp only; rw [upd2_ne (by omega)]; exact hTt.2.2 i hi))
       · first
         | (exfalso; omega)
         | (refine gx_aload_n hx dX3_read_44 rfl ?_
            refine gx_getI hx flX3_15 dX3_read_45 (by decide) rfl rfl 1 rfl ?_
            rw [upd2_ne (by decide), e1]
            refine gx_iload_n hx dX3_read_48 rfl ?_
            refine gx_callS hx (c_X3_leastLength (k := k) _ _ (by omega)) lkX3_42 mwX3_leastLength dX3_read_49 rfl rfl (Nat.le_of_ble_eq_true rfl) (by decide) ⟨by decide, by decide⟩ (fun z_49 σ_49 hz_49 => ?_)
            obtain ⟨rfl, rfl⟩ := hz_49
            have hll : lL k ≤ 8 := by
              have := nm_le k (by omega)
              unfold lL
              split <;> omega
            refine gx_icmp_lt (tgt := 60) hx dX3_read_52 (by decide) ⟨by omega, by omega⟩ ⟨by omega, by omega⟩ (fun h52 => ?_) (fun h52 => ?_)
            · first
              | (exfalso; omega)
              | (refine gx_iinc hx dX3_read_60 (Nat.le_of_ble_eq_true rfl) rfl ?_
                 refine gx_goto (tgt := 12) hx dX3_read_63 (by decide) ?_
                 refine GJ.drop 2 ?_
                 first
                 | (refine ih (k + 1, upd2 (upd2 τ 50 4 v9) 50 2 (k : Int)) ⟨by omega, ?_, ?_, ⟨hl, ?_, fun i hi => ?_⟩, hso.trans (SO.trans (SO.upd (by decide) (by decide)) (SO.upd (by decide) (by decide)))⟩ (by dsimp only; omega)
                    · dsimp only; rw [upd2_at, kR, if_pos (by constructor <;> omega)]
                    · dsimp only; rw [upd2_ne (by decide), upd2_at]; exact eE
                    · dsimp only; rw [upd2_ne (by decide), upd2_ne (by decide)]; exact e1
                    · dsimp only; rw [upd2_ne (by omega), upd2_ne (by omega)]; exact hTt.2.2 i hi)
                 | (refine ih (k + 1, upd2 τ 50 4 v9) ⟨by omega, ?_, ?_, ⟨hl, ?_, fun i hi => ?_⟩, hso.trans (SO.upd (by decide) (by decide))⟩ (by dsimp only; omega)
                    · dsimp only; rw [upd2_ne (by decide), kR, if_neg (by rintro ⟨c1, c2⟩; omega)]; exact e2
                    · dsimp only; rw [upd2_at]; exact eE
                    · dsimp only; rw [upd2_ne (by decide)]; exact e1
                    · dsimp only; rw [upd2_ne (by omega)]; exact hTt.2.2 i hi))
            · first
              | (exfalso; omega)
              | (refine gx_aload_n hx dX3_read_55 rfl ?_
                 refine gx_iload_n hx dX3_read_56 rfl ?_
                 refine gx_put hx fpX3_19 dX3_read_57 (by decide) rfl rfl rfl rfl 2 rfl ?_
                 refine gx_iinc hx dX3_read_60 (Nat.le_of_ble_eq_true rfl) rfl ?_
                 refine gx_goto (tgt := 12) hx dX3_read_63 (by decide) ?_
                 refine GJ.drop 2 ?_
                 first
                 | (refine ih (k + 1, upd2 (upd2 τ 50 4 v9) 50 2 (k : Int)) ⟨by omega, ?_, ?_, ⟨hl, ?_, fun i hi => ?_⟩, hso.trans (SO.trans (SO.upd (by decide) (by decide)) (SO.upd (by decide) (by decide)))⟩ (by dsimp only; omega)
                    · dsimp only; rw [upd2_at, kR, if_pos (by constructor <;> omega)]
                    · dsimp only; rw [upd2_ne (by decide), upd2_at]; exact eE
                    · dsimp only; rw [upd2_ne (by decide), upd2_ne (by decide)]; exact e1
                    · dsimp only; rw [upd2_ne (by omega), upd2_ne (by omega)]; exact hTt.2.2 i hi)
                 | (refine ih (k + 1, upd2 τ 50 4 v9) ⟨by omega, ?_, ?_, ⟨hl, ?_, fun i hi => ?_⟩, hso.trans (SO.upd (by decide) (by decide))⟩ (by dsimp only; omega)
                    · dsimp only; rw [upd2_ne (by decide), kR, if_neg (by rintro ⟨c1, c2⟩; omega)]; exact e2
                    · dsimp only; rw [upd2_at]; exact eE
                    · dsimp only; rw [upd2_ne (by decide)]; exact e1
                    · dsimp only; rw [upd2_ne (by omega)]; exact hTt.2.2 i hi))))
set_option maxRecDepth 20000 in
set_option maxHeartbeats 400000 in
theorem c_X3_isItem (g : Gm) (l : Launch) {σ : Sg} {T : List Nat} (hR : RD σ T) : KI g l yX3_isItem cX3_isItem 1 ((some .boolean)) (0) 0 0 [.inr 50] σ (fun z σ' => z = (if kR T 8 = -1 then 0 else 1) ∧ σ = σ') := by
  refine startI (own := RX3) (by decide +kernel) rfl (Nat.le_of_ble_eq_true rfl) ?_
  intro X hx _ _ hret
  obtain ⟨r1, r2, r3⟩ := hR
  have hkg := kR_rg T 8
  refine gx_aload_n hx dX3_isItem_0 rfl ?_
  refine gx_getI hx flX3_19 dX3_isItem_1 (by decide) rfl rfl 2 rfl ?_
  refine gx_iconst hx dX3_isItem_4 ?_
  refine gx_icmp_eq (tgt := 12) hx dX3_isItem_5 (by decide) ⟨by omega, by omega⟩ ⟨by omega, by omega⟩ (fun h5 => ?_) (fun h5 => ?_)
  · first
    | (exfalso; omega)
    | (refine gx_iconst hx dX3_isItem_12 ?_
       refine hret _ _ _ _ _ _ _ (by decide) (by decide) dX3_isItem_13 rfl rfl ?_
       exact ⟨by first | rw [if_pos (by omega)] | rw [if_neg (by omega)], rfl⟩)
  · first
    | (exfalso; omega)
    | (refine gx_iconst hx dX3_isItem_8 ?_
       refine gx_goto (tgt := 13) hx dX3_isItem_9 (by decide) ?_
       refine hret _ _ _ _ _ _ _ (by decide) (by decide) dX3_isItem_13 rfl rfl ?_
       exact ⟨by first | rw [if_pos (by omega)] | rw [if_neg (by omega)], rfl⟩)
set_option maxRecDepth 20000 in
set_option maxHeartbeats 400000 in
theorem c_X3_kindRead (g : Gm) (l : Launch) {σ : Sg} {T : List Nat} (hR : RD σ T) : KI g l yX3_kindRead cX3_kindRead 1 ((some .int)) (0) 0 0 [.inr 50] σ (fun z σ' => z = kR T 8 ∧ σ = σ') := by
  refine startI (own := RX3) (by decide +kernel) rfl (Nat.le_of_ble_eq_true rfl) ?_
  intro X hx _ _ hret
  refine gx_aload_n hx dX3_kindRead_0 rfl ?_
  refine gx_getI hx flX3_19 dX3_kindRead_1 (by decide) rfl rfl 2 rfl ?_
  refine hret _ _ _ _ _ _ _ (by decide) (by decide) dX3_kindRead_4 rfl rfl ?_
  exact ⟨hR.1, rfl⟩
set_option maxRecDepth 20000 in
set_option maxHeartbeats 400000 in
theorem c_X3_operandRead (g : Gm) (l : Launch) {σ : Sg} {T : List Nat} (hR : RD σ T) : KI g l yX3_operandRead cX3_operandRead 1 ((some .int)) (0) 0 0 [.inr 50] σ (fun z σ' => z = oR T ∧ σ = σ') := by
  refine startI (own := RX3) (by decide +kernel) rfl (Nat.le_of_ble_eq_true rfl) ?_
  intro X hx _ _ hret
  refine gx_aload_n hx dX3_operandRead_0 rfl ?_
  refine gx_getI hx flX3_22 dX3_operandRead_1 (by decide) rfl rfl 3 rfl ?_
  refine hret _ _ _ _ _ _ _ (by decide) (by decide) dX3_operandRead_4 rfl rfl ?_
  exact ⟨hR.2.1, rfl⟩
set_option maxRecDepth 20000 in
set_option maxHeartbeats 400000 in
theorem c_X3_errorIndex (g : Gm) (l : Launch) {σ : Sg} {T : List Nat} (hR : RD σ T) : KI g l yX3_errorIndex cX3_errorIndex 1 ((some .int)) (0) 0 0 [.inr 50] σ (fun z σ' => z = (eR T 8 : Int) ∧ σ = σ') := by
  refine startI (own := RX3) (by decide +kernel) rfl (Nat.le_of_ble_eq_true rfl) ?_
  intro X hx _ _ hret
  refine gx_aload_n hx dX3_errorIndex_0 rfl ?_
  refine gx_getI hx flX3_25 dX3_errorIndex_1 (by decide) rfl rfl 4 rfl ?_
  refine hret _ _ _ _ _ _ _ (by decide) (by decide) dX3_errorIndex_4 rfl rfl ?_
  exact ⟨hR.2.2, rfl⟩
