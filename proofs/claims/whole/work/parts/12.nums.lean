/-! BranchRelaxer: its static methods of numbers; History -/
set_option maxRecDepth 20000 in
set_option maxHeartbeats 400000 in
theorem c_X8_formFor (g : Gm) (l : Launch) {σ : Sg} {z : Int} (hz : rg z) : KI g l yX8_formFor cX8_formFor 1 ((some .int)) 0 0 0 [.inl z] σ (fun r σ' => r = (ndF z : Int) ∧ σ = σ') := by
  refine startI (own := RX8) (by decide +kernel) rfl (Nat.le_of_ble_eq_true rfl) ?_
  intro X hx _ _ hret
  obtain ⟨hz1, hz2⟩ := hz
  refine gx_iload_n hx dX8_formFor_0 rfl ?_
  refine gx_bipush hx dX8_formFor_1 (by decide) ?_
  refine gx_icmp_lt (tgt := 14) hx dX8_formFor_3 (by decide) ⟨by omega, by omega⟩ ⟨by omega, by omega⟩ (fun h3 => ?_) (fun h3 => ?_)
  · first
    | (exfalso; omega)
    | (refine gx_iload_n hx dX8_formFor_14 rfl ?_
       refine gx_bipush hx dX8_formFor_15 (by decide) ?_
       refine gx_icmp_lt (tgt := 30) hx dX8_formFor_17 (by decide) ⟨by omega, by omega⟩ ⟨by omega, by omega⟩ (fun h17 => ?_) (fun h17 => ?_)
       · first
         | (exfalso; omega)
         | (refine gx_iconst hx dX8_formFor_30 ?_
            refine hret _ _ _ _ _ _ _ (by decide) (by decide) dX8_formFor_31 rfl rfl ?_
            exact ⟨by first | rfl | (unfold ndF; (repeat' split); all_goals first | rfl | (exfalso; omega)), rfl⟩)
       · first
         | (exfalso; omega)
         | (refine gx_iload_n hx dX8_formFor_20 rfl ?_
            refine gx_bipush hx dX8_formFor_21 (by decide) ?_
            refine gx_icmp_gt (tgt := 30) hx dX8_formFor_23 (by decide) ⟨by omega, by omega⟩ ⟨by omega, by omega⟩ (fun h23 => ?_) (fun h23 => ?_)
            · first
              | (exfalso; omega)
              | (refine gx_iconst hx dX8_formFor_30 ?_
                 refine hret _ _ _ _ _ _ _ (by decide) (by decide) dX8_formFor_31 rfl rfl ?_
                 exact ⟨by first | rfl | (unfold ndF; (repeat' split); all_goals first | rfl | (exfalso; omega)), rfl⟩)
            · first
              | (exfalso; omega)
              | (refine gx_iconst hx dX8_formFor_26 ?_
                 refine gx_goto (tgt := 31) hx dX8_formFor_27 (by decide) ?_
                 refine hret _ _ _ _ _ _ _ (by decide) (by decide) dX8_formFor_31 rfl rfl ?_
                 exact ⟨by first | rfl | (unfold ndF; (repeat' split); all_goals first | rfl | (exfalso; omega)), rfl⟩)))
  · first
    | (exfalso; omega)
    | (refine gx_iload_n hx dX8_formFor_6 rfl ?_
       refine gx_bipush hx dX8_formFor_7 (by decide) ?_
       refine gx_icmp_gt (tgt := 14) hx dX8_formFor_9 (by decide) ⟨by omega, by omega⟩ ⟨by omega, by omega⟩ (fun h9 => ?_) (fun h9 => ?_)
       · first
         | (exfalso; omega)
         | (refine gx_iload_n hx dX8_formFor_14 rfl ?_
            refine gx_bipush hx dX8_formFor_15 (by decide) ?_
            refine gx_icmp_lt (tgt := 30) hx dX8_formFor_17 (by decide) ⟨by omega, by omega⟩ ⟨by omega, by omega⟩ (fun h17 => ?_) (fun h17 => ?_)
            · first
              | (exfalso; omega)
              | (refine gx_iconst hx dX8_formFor_30 ?_
                 refine hret _ _ _ _ _ _ _ (by decide) (by decide) dX8_formFor_31 rfl rfl ?_
                 exact ⟨by first | rfl | (unfold ndF; (repeat' split); all_goals first | rfl | (exfalso; omega)), rfl⟩)
            · first
              | (exfalso; omega)
              | (refine gx_iload_n hx dX8_formFor_20 rfl ?_
                 refine gx_bipush hx dX8_formFor_21 (by decide) ?_
                 refine gx_icmp_gt (tgt := 30) hx dX8_formFor_23 (by decide) ⟨by omega, by omega⟩ ⟨by omega, by omega⟩ (fun h23 => ?_) (fun h23 => ?_)
                 · first
                   | (exfalso; omega)
                   | (refine gx_iconst hx dX8_formFor_30 ?_
                      refine hret _ _ _ _ _ _ _ (by decide) (by decide) dX8_formFor_31 rfl rfl ?_
                      exact ⟨by first | rfl | (unfold ndF; (repeat' split); all_goals first | rfl | (exfalso; omega)), rfl⟩)
                 · first
                   | (exfalso; omega)
                   | (refine gx_iconst hx dX8_formFor_26 ?_
                      refine gx_goto (tgt := 31) hx dX8_formFor_27 (by decide) ?_
                      refine hret _ _ _ _ _ _ _ (by decide) (by decide) dX8_formFor_31 rfl rfl ?_
                      exact ⟨by first | rfl | (unfold ndF; (repeat' split); all_goals first | rfl | (exfalso; omega)), rfl⟩)))
       · first
         | (exfalso; omega)
         | (refine gx_iconst hx dX8_formFor_12 ?_
            refine hret _ _ _ _ _ _ _ (by decide) (by decide) dX8_formFor_13 rfl rfl ?_
            exact ⟨by first | rfl | (unfold ndF; (repeat' split); all_goals first | rfl | (exfalso; omega)), rfl⟩))
set_option maxRecDepth 20000 in
set_option maxHeartbeats 400000 in
theorem c_X8_jumpSize (g : Gm) (l : Launch) {σ : Sg} {f : Nat} (hf : f ≤ 2) : KI g l yX8_jumpSize cX8_jumpSize 1 ((some .int)) 0 0 0 [.inl (f : Int)] σ (fun r σ' => r = (jsz f : Int) ∧ σ = σ') := by
  refine startI (own := RX8) (by decide +kernel) rfl (Nat.le_of_ble_eq_true rfl) ?_
  intro X hx _ _ hret
  refine gx_iload_n hx dX8_jumpSize_0 rfl ?_
  refine gx_if_ne (tgt := 8) hx dX8_jumpSize_1 (by decide) ⟨by omega, by omega⟩ (fun h1 => ?_) (fun h1 => ?_)
  · first
    | (exfalso; omega)
    | (refine gx_iload_n hx dX8_jumpSize_8 rfl ?_
       refine gx_iconst hx dX8_jumpSize_9 ?_
       refine gx_icmp_ne (tgt := 17) hx dX8_jumpSize_10 (by decide) ⟨by omega, by omega⟩ ⟨by omega, by omega⟩ (fun h10 => ?_) (fun h10 => ?_)
       · first
         | (exfalso; omega)
         | (refine gx_iconst hx dX8_jumpSize_17 ?_
            refine hret _ _ _ _ _ _ _ (by decide) (by decide) dX8_jumpSize_18 rfl rfl ?_
            exact ⟨by first | rfl | (unfold jsz; (repeat' split); all_goals first | rfl | (exfalso; omega)), rfl⟩)
       · first
         | (exfalso; omega)
         | (refine gx_iconst hx dX8_jumpSize_13 ?_
            refine gx_goto (tgt := 18) hx dX8_jumpSize_14 (by decide) ?_
            refine hret _ _ _ _ _ _ _ (by decide) (by decide) dX8_jumpSize_18 rfl rfl ?_
            exact ⟨by first | rfl | (unfold jsz; (repeat' split); all_goals first | rfl | (exfalso; omega)), rfl⟩))
  · first
    | (exfalso; omega)
    | (refine gx_iconst hx dX8_jumpSize_4 ?_
       refine gx_goto (tgt := 18) hx dX8_jumpSize_5 (by decide) ?_
       refine hret _ _ _ _ _ _ _ (by decide) (by decide) dX8_jumpSize_18 rfl rfl ?_
       exact ⟨by first | rfl | (unfold jsz; (repeat' split); all_goals first | rfl | (exfalso; omega)), rfl⟩)
set_option maxRecDepth 20000 in
set_option maxHeartbeats 400000 in
theorem c_X8_branchSize (g : Gm) (l : Launch) {σ : Sg} {f : Nat} (hf : f ≤ 2) : KI g l yX8_branchSize cX8_branchSize 1 ((some .int)) 0 0 0 [.inl (f : Int)] σ (fun r σ' => r = (bsz f : Int) ∧ σ = σ') := by
  refine startI (own := RX8) (by decide +kernel) rfl (Nat.le_of_ble_eq_true rfl) ?_
  intro X hx _ _ hret
  refine gx_iload_n hx dX8_branchSize_0 rfl ?_
  refine gx_if_ne (tgt := 8) hx dX8_branchSize_1 (by decide) ⟨by omega, by omega⟩ (fun h1 => ?_) (fun h1 => ?_)
  · first
    | (exfalso; omega)
    | (refine gx_iload_n hx dX8_branchSize_8 rfl ?_
       refine gx_iconst hx dX8_branchSize_9 ?_
       refine gx_icmp_ne (tgt := 17) hx dX8_branchSize_10 (by decide) ⟨by omega, by omega⟩ ⟨by omega, by omega⟩ (fun h10 => ?_) (fun h10 => ?_)
       · first
         | (exfalso; omega)
         | (refine gx_bipush hx dX8_branchSize_17 (by decide) ?_
            refine hret _ _ _ _ _ _ _ (by decide) (by decide) dX8_branchSize_19 rfl rfl ?_
            exact ⟨by first | rfl | (unfold bsz; (repeat' split); all_goals first | rfl | (exfalso; omega)), rfl⟩)
       · first
         | (exfalso; omega)
         | (refine gx_iconst hx dX8_branchSize_13 ?_
            refine gx_goto (tgt := 19) hx dX8_branchSize_14 (by decide) ?_
            refine hret _ _ _ _ _ _ _ (by decide) (by decide) dX8_branchSize_19 rfl rfl ?_
            exact ⟨by first | rfl | (unfold bsz; (repeat' split); all_goals first | rfl | (exfalso; omega)), rfl⟩))
  · first
    | (exfalso; omega)
    | (refine gx_iconst hx dX8_branchSize_4 ?_
       refine gx_goto (tgt := 19) hx dX8_branchSize_5 (by decide) ?_
       refine hret _ _ _ _ _ _ _ (by decide) (by decide) dX8_branchSize_19 rfl rfl ?_
       exact ⟨by first | rfl | (unfold bsz; (repeat' split); all_goals first | rfl | (exfalso; omega)), rfl⟩)
set_option maxRecDepth 20000 in
set_option maxHeartbeats 400000 in
theorem c_X8_gapTo (g : Gm) (l : Launch) {σ : Sg} {a k : Nat} {u : Int} (ha : a < 100000) (hk : k ≤ 4) (hu : u = ((2 ^ k : Nat) : Int)) : KI g l yX8_gapTo cX8_gapTo 2 ((some .int)) 0 0 0 [.inl (a : Int), .inl u] σ (fun r σ' => r = (gap a (2 ^ k) : Int) ∧ σ = σ') := by
  refine startI (own := RX8) (by decide +kernel) rfl (Nat.le_of_ble_eq_true rfl) ?_
  intro X hx _ _ hret
  subst hu
  refine gx_iload_n hx dX8_gapTo_0 rfl ?_
  refine gx_ineg hx dX8_gapTo_1 ?_
  refine gx_iload_n hx dX8_gapTo_2 rfl ?_
  refine gx_iconst hx dX8_gapTo_3 ?_
  refine gx_isub hx dX8_gapTo_4 ?_
  refine gx_iand hx dX8_gapTo_5 (ii_gap ha hk) ?_
  refine hret _ _ _ _ _ _ _ (by decide) (by decide) dX8_gapTo_6 rfl rfl ?_
  exact ⟨rfl, rfl⟩
set_option maxRecDepth 20000 in
set_option maxHeartbeats 400000 in
theorem c_X8_isOperand (g : Gm) (l : Launch) {σ : Sg} {k v : Nat} (hk : k < 8) (hv : v < 100) : KI g l yX8_isOperand cX8_isOperand 2 ((some .boolean)) 0 0 0 [.inl (k : Int), .inl (v : Int)] σ (fun r σ' => ((r = 1 ∧ okI k v 0) ∨ (r = 0 ∧ ¬ okI k v 0)) ∧ σ = σ') := by
  refine startI (own := RX8) (by decide +kernel) rfl (Nat.le_of_ble_eq_true rfl) ?_
  intro X hx _ _ hret
  have hcs : k = 0 ∨ k = 1 ∨ k = 2 ∨ k = 3 ∨ k = 4 ∨ k = 5 ∨ k = 6 ∨ k = 7 := by omega
  refine gx_iload_n hx dX8_isOperand_0 rfl ?_
  rcases hcs with h | h | h | h | h | h | h | h
  · refine gx_tableIn (off := 47) (tgt := 48) hx dX8_isOperand_1 ⟨by omega, by omega⟩ (by omega) (by omega) (by rw [h]; rfl) (by decide) ?_
    refine gx_iload_n hx dX8_isOperand_48 rfl ?_
    refine gx_iconst hx dX8_isOperand_49 ?_
    refine gx_icmp_lt (tgt := 63) hx dX8_isOperand_50 (by decide) ⟨by omega, by omega⟩ ⟨by omega, by omega⟩ (fun h50 => ?_) (fun h50 => ?_)
    · first
      | (exfalso; omega)
      | (refine gx_iconst hx dX8_isOperand_63 ?_
         refine hret _ _ _ _ _ _ _ (by decide) (by decide) dX8_isOperand_64 rfl rfl ?_
         exact ⟨by unfold okI; omega, rfl⟩)
    · first
      | (exfalso; omega)
      | (refine gx_iload_n hx dX8_isOperand_53 rfl ?_
         refine gx_bipush hx dX8_isOperand_54 (by decide) ?_
         refine gx_icmp_gt (tgt := 63) hx dX8_isOperand_56 (by decide) ⟨by omega, by omega⟩ ⟨by omega, by omega⟩ (fun h56 => ?_) (fun h56 => ?_)
         · first
           | (exfalso; omega)
           | (refine gx_iconst hx dX8_isOperand_63 ?_
              refine hret _ _ _ _ _ _ _ (by decide) (by decide) dX8_isOperand_64 rfl rfl ?_
              exact ⟨by unfold okI; omega, rfl⟩)
         · first
           | (exfalso; omega)
           | (refine gx_iconst hx dX8_isOperand_59 ?_
              refine gx_goto (tgt := 64) hx dX8_isOperand_60 (by decide) ?_
              refine hret _ _ _ _ _ _ _ (by decide) (by decide) dX8_isOperand_64 rfl rfl ?_
              exact ⟨by unfold okI; omega, rfl⟩))
  · refine gx_tableIn (off := 64) (tgt := 65) hx dX8_isOperand_1 ⟨by omega, by omega⟩ (by omega) (by omega) (by rw [h]; rfl) (by decide) ?_
    refine gx_iload_n hx dX8_isOperand_65 rfl ?_
    refine gx_iconst hx dX8_isOperand_66 ?_
    refine gx_icmp_lt (tgt := 80) hx dX8_isOperand_67 (by decide) ⟨by omega, by omega⟩ ⟨by omega, by omega⟩ (fun h67 => ?_) (fun h67 => ?_)
    · first
      | (exfalso; omega)
      | (refine gx_iconst hx dX8_isOperand_80 ?_
         refine hret _ _ _ _ _ _ _ (by decide) (by decide) dX8_isOperand_81 rfl rfl ?_
         exact ⟨by unfold okI; omega, rfl⟩)
    · first
      | (exfalso; omega)
      | (refine gx_iload_n hx dX8_isOperand_70 rfl ?_
         refine gx_bipush hx dX8_isOperand_71 (by decide) ?_
         refine gx_icmp_gt (tgt := 80) hx dX8_isOperand_73 (by decide) ⟨by omega, by omega⟩ ⟨by omega, by omega⟩ (fun h73 => ?_) (fun h73 => ?_)
         · first
           | (exfalso; omega)
           | (refine gx_iconst hx dX8_isOperand_80 ?_
              refine hret _ _ _ _ _ _ _ (by decide) (by decide) dX8_isOperand_81 rfl rfl ?_
              exact ⟨by unfold okI; omega, rfl⟩)
         · first
           | (exfalso; omega)
           | (refine gx_iconst hx dX8_isOperand_76 ?_
              refine gx_goto (tgt := 81) hx dX8_isOperand_77 (by decide) ?_
              refine hret _ _ _ _ _ _ _ (by decide) (by decide) dX8_isOperand_81 rfl rfl ?_
              exact ⟨by unfold okI; omega, rfl⟩))
  · refine gx_tableIn (off := 97) (tgt := 98) hx dX8_isOperand_1 ⟨by omega, by omega⟩ (by omega) (by omega) (by rw [h]; rfl) (by decide) ?_
    refine gx_iload_n hx dX8_isOperand_98 rfl ?_
    refine gx_if_lt (tgt := 112) hx dX8_isOperand_99 (by decide) ⟨by omega, by omega⟩ (fun h99 => ?_) (fun h99 => ?_)
    · first
      | (exfalso; omega)
      | (refine gx_iconst hx dX8_isOperand_112 ?_
         refine hret _ _ _ _ _ _ _ (by decide) (by decide) dX8_isOperand_113 rfl rfl ?_
         exact ⟨by unfold okI; omega, rfl⟩)
    · first
      | (exfalso; omega)
      | (refine gx_iload_n hx dX8_isOperand_102 rfl ?_
         refine gx_bipush hx dX8_isOperand_103 (by decide) ?_
         refine gx_icmp_ge (tgt := 112) hx dX8_isOperand_105 (by decide) ⟨by omega, by omega⟩ ⟨by omega, by omega⟩ (fun h105 => ?_) (fun h105 => ?_)
         · first
           | (exfalso; omega)
           | (refine gx_iconst hx dX8_isOperand_112 ?_
              refine hret _ _ _ _ _ _ _ (by decide) (by decide) dX8_isOperand_113 rfl rfl ?_
              exact ⟨by unfold okI; omega, rfl⟩)
         · first
           | (exfalso; omega)
           | (refine gx_iconst hx dX8_isOperand_108 ?_
              refine gx_goto (tgt := 113) hx dX8_isOperand_109 (by decide) ?_
              refine hret _ _ _ _ _ _ _ (by decide) (by decide) dX8_isOperand_113 rfl rfl ?_
              exact ⟨by unfold okI; omega, rfl⟩))
  · refine gx_tableIn (off := 81) (tgt := 82) hx dX8_isOperand_1 ⟨by omega, by omega⟩ (by omega) (by omega) (by rw [h]; rfl) (by decide) ?_
    refine gx_iload_n hx dX8_isOperand_82 rfl ?_
    refine gx_iconst hx dX8_isOperand_83 ?_
    refine gx_icmp_lt (tgt := 96) hx dX8_isOperand_84 (by decide) ⟨by omega, by omega⟩ ⟨by omega, by omega⟩ (fun h84 => ?_) (fun h84 => ?_)
    · first
      | (exfalso; omega)
      | (refine gx_iconst hx dX8_isOperand_96 ?_
         refine hret _ _ _ _ _ _ _ (by decide) (by decide) dX8_isOperand_97 rfl rfl ?_
         exact ⟨by unfold okI; omega, rfl⟩)
    · first
      | (exfalso; omega)
      | (refine gx_iload_n hx dX8_isOperand_87 rfl ?_
         refine gx_iconst hx dX8_isOperand_88 ?_
         refine gx_icmp_gt (tgt := 96) hx dX8_isOperand_89 (by decide) ⟨by omega, by omega⟩ ⟨by omega, by omega⟩ (fun h89 => ?_) (fun h89 => ?_)
         · first
           | (exfalso; omega)
           | (refine gx_iconst hx dX8_isOperand_96 ?_
              refine hret _ _ _ _ _ _ _ (by decide) (by decide) dX8_isOperand_97 rfl rfl ?_
              exact ⟨by unfold okI; omega, rfl⟩)
         · first
           | (exfalso; omega)
           | (refine gx_iconst hx dX8_isOperand_92 ?_
              refine gx_goto (tgt := 97) hx dX8_isOperand_93 (by decide) ?_
              refine hret _ _ _ _ _ _ _ (by decide) (by decide) dX8_isOperand_97 rfl rfl ?_
              exact ⟨by unfold okI; omega, rfl⟩))
  · refine gx_tableIn (off := 97) (tgt := 98) hx dX8_isOperand_1 ⟨by omega, by omega⟩ (by omega) (by omega) (by rw [h]; rfl) (by decide) ?_
    refine gx_iload_n hx dX8_isOperand_98 rfl ?_
    refine gx_if_lt (tgt := 112) hx dX8_isOperand_99 (by decide) ⟨by omega, by omega⟩ (fun h99 => ?_) (fun h99 => ?_)
    · first
      | (exfalso; omega)
      | (refine gx_iconst hx dX8_isOperand_112 ?_
         refine hret _ _ _ _ _ _ _ (by decide) (by decide) dX8_isOperand_113 rfl rfl ?_
         exact ⟨by unfold okI; omega, rfl⟩)
    · first
      | (exfalso; omega)
      | (refine gx_iload_n hx dX8_isOperand_102 rfl ?_
         refine gx_bipush hx dX8_isOperand_103 (by decide) ?_
         refine gx_icmp_ge (tgt := 112) hx dX8_isOperand_105 (by decide) ⟨by omega, by omega⟩ ⟨by omega, by omega⟩ (fun h105 => ?_) (fun h105 => ?_)
         · first
           | (exfalso; omega)
           | (refine gx_iconst hx dX8_isOperand_112 ?_
              refine hret _ _ _ _ _ _ _ (by decide) (by decide) dX8_isOperand_113 rfl rfl ?_
              exact ⟨by unfold okI; omega, rfl⟩)
         · first
           | (exfalso; omega)
           | (refine gx_iconst hx dX8_isOperand_108 ?_
              refine gx_goto (tgt := 113) hx dX8_isOperand_109 (by decide) ?_
              refine hret _ _ _ _ _ _ _ (by decide) (by decide) dX8_isOperand_113 rfl rfl ?_
              exact ⟨by unfold okI; omega, rfl⟩))
  · refine gx_tableIn (off := 97) (tgt := 98) hx dX8_isOperand_1 ⟨by omega, by omega⟩ (by omega) (by omega) (by rw [h]; rfl) (by decide) ?_
    refine gx_iload_n hx dX8_isOperand_98 rfl ?_
    refine gx_if_lt (tgt := 112) hx dX8_isOperand_99 (by decide) ⟨by omega, by omega⟩ (fun h99 => ?_) (fun h99 => ?_)
    · first
      | (exfalso; omega)
      | (refine gx_iconst hx dX8_isOperand_112 ?_
         refine hret _ _ _ _ _ _ _ (by decide) (by decide) dX8_isOperand_113 rfl rfl ?_
         exact ⟨by unfold okI; omega, rfl⟩)
    · first
      | (exfalso; omega)
      | (refine gx_iload_n hx dX8_isOperand_102 rfl ?_
         refine gx_bipush hx dX8_isOperand_103 (by decide) ?_
         refine gx_icmp_ge (tgt := 112) hx dX8_isOperand_105 (by decide) ⟨by omega, by omega⟩ ⟨by omega, by omega⟩ (fun h105 => ?_) (fun h105 => ?_)
         · first
           | (exfalso; omega)
           | (refine gx_iconst hx dX8_isOperand_112 ?_
              refine hret _ _ _ _ _ _ _ (by decide) (by decide) dX8_isOperand_113 rfl rfl ?_
              exact ⟨by unfold okI; omega, rfl⟩)
         · first
           | (exfalso; omega)
           | (refine gx_iconst hx dX8_isOperand_108 ?_
              refine gx_goto (tgt := 113) hx dX8_isOperand_109 (by decide) ?_
              refine hret _ _ _ _ _ _ _ (by decide) (by decide) dX8_isOperand_113 rfl rfl ?_
              exact ⟨by unfold okI; omega, rfl⟩))
  · refine gx_tableIn (off := 113) (tgt := 114) hx dX8_isOperand_1 ⟨by omega, by omega⟩ (by omega) (by omega) (by rw [h]; rfl) (by decide) ?_
    refine gx_iload_n hx dX8_isOperand_114 rfl ?_
    refine gx_if_lt (tgt := 128) hx dX8_isOperand_115 (by decide) ⟨by omega, by omega⟩ (fun h115 => ?_) (fun h115 => ?_)
    · first
      | (exfalso; omega)
      | (refine gx_iconst hx dX8_isOperand_128 ?_
         refine hret _ _ _ _ _ _ _ (by decide) (by decide) dX8_isOperand_129 rfl rfl ?_
         exact ⟨by unfold okI; omega, rfl⟩)
    · first
      | (exfalso; omega)
      | (refine gx_iload_n hx dX8_isOperand_118 rfl ?_
         refine gx_bipush hx dX8_isOperand_119 (by decide) ?_
         refine gx_icmp_ge (tgt := 128) hx dX8_isOperand_121 (by decide) ⟨by omega, by omega⟩ ⟨by omega, by omega⟩ (fun h121 => ?_) (fun h121 => ?_)
         · first
           | (exfalso; omega)
           | (refine gx_iconst hx dX8_isOperand_128 ?_
              refine hret _ _ _ _ _ _ _ (by decide) (by decide) dX8_isOperand_129 rfl rfl ?_
              exact ⟨by unfold okI; omega, rfl⟩)
         · first
           | (exfalso; omega)
           | (refine gx_iconst hx dX8_isOperand_124 ?_
              refine gx_goto (tgt := 129) hx dX8_isOperand_125 (by decide) ?_
              refine hret _ _ _ _ _ _ _ (by decide) (by decide) dX8_isOperand_129 rfl rfl ?_
              exact ⟨by unfold okI; omega, rfl⟩))
  · refine gx_tableIn (off := 129) (tgt := 130) hx dX8_isOperand_1 ⟨by omega, by omega⟩ (by omega) (by omega) (by rw [h]; rfl) (by decide) ?_
    refine gx_iload_n hx dX8_isOperand_130 rfl ?_
    refine gx_if_ne (tgt := 138) hx dX8_isOperand_131 (by decide) ⟨by omega, by omega⟩ (fun h131 => ?_) (fun h131 => ?_)
    · first
      | (exfalso; omega)
      | (refine gx_iconst hx dX8_isOperand_138 ?_
         refine hret _ _ _ _ _ _ _ (by decide) (by decide) dX8_isOperand_139 rfl rfl ?_
         exact ⟨by unfold okI; omega, rfl⟩)
    · first
      | (exfalso; omega)
      | (refine gx_iconst hx dX8_isOperand_134 ?_
         refine gx_goto (tgt := 139) hx dX8_isOperand_135 (by decide) ?_
         refine hret _ _ _ _ _ _ _ (by decide) (by decide) dX8_isOperand_139 rfl rfl ?_
         exact ⟨by unfold okI; omega, rfl⟩)
