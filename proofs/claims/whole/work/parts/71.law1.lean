/-! The law: cases 10 to 19 -/
set_option maxRecDepth 20000 in
set_option maxHeartbeats 1000000 in
theorem law_10 {X : Cx} {h0 mc0 ms0 N i a b : Nat} {xs : Nat → Int32} {σ : Sg} {A : AS} (hx : CX X cL_law RL h0 mc0 ms0) (hh0 : 40 ≤ h0) (hX : LWX X N xs) (hnc : NCS X.2.2.2.2.2.1) (hl : X.2.2.1.stackTraces = false) (hN : N ≤ 1536) (hi : i + 3 ≤ N) (hC : CR σ A) (hR : MR σ A) (ha : a + 3 ≤ mc0) (hb : b + 18 ≤ ms0) (kk : ∀ σ' A', CR σ' A' → MR σ' A' → GJ X (a + 3) (b + 18) 2067 [some (.inr 1040), some (.inr 69), some (.inr 70), some (.inr 81), some (.inr 82), some (.inl (i : Int)), none, none, none] [] σ') : GJ X a b 732 [some (.inr 1040), some (.inr 69), some (.inr 70), some (.inr 81), some (.inr 82), some (.inl (i : Int)), none, none, none] [] σ := by
  refine gx_aload_n hx dL_law_732 rfl ?_
  refine gx_callI hx (c_X8_totalSize _ _ hC) lkL_166 mwX8_totalSize dL_law_733 (by decide) rfl rfl rfl rfl (Nat.le_of_ble_eq_true rfl) (by omega) ⟨by omega, by omega⟩ (fun z1 σ1 h1 => ?_)
  obtain ⟨A1, r1, c1, e1⟩ := h1
  have hR1 : MR σ1 A := hR.out (fun k k1 _ => e1 k k1)
  refine gx_aload_n hx dL_law_736 rfl ?_
  refine gx_callI hx (c_X9_totalSize _ _ hR1) lkL_169 mwX9_totalSize dL_law_737 (by decide) rfl rfl rfl rfl (Nat.le_of_ble_eq_true rfl) (by omega) ⟨by omega, by omega⟩ (fun z2 σ2 h2 => ?_)
  obtain ⟨c2, A2, r2, m2, m3, m4⟩ := h2
  obtain ⟨rfl, rfl, rfl⟩ := uniq_fn _ _ _ _ _ _ _ r1 r2
  refine gx_icmpS (tgt := 2067) hx dL_law_740 (by decide) ?_
  exact GJ.widen (by omega) (by omega) (kk _ _ (c1.out (fun k hk => m4 k (Or.inl hk))) m2)
set_option maxRecDepth 20000 in
set_option maxHeartbeats 1000000 in
theorem law_11 {X : Cx} {h0 mc0 ms0 N i a b : Nat} {xs : Nat → Int32} {σ : Sg} {A : AS} (hx : CX X cL_law RL h0 mc0 ms0) (hh0 : 40 ≤ h0) (hX : LWX X N xs) (hnc : NCS X.2.2.2.2.2.1) (hl : X.2.2.1.stackTraces = false) (hN : N ≤ 1536) (hi : i + 3 ≤ N) (hC : CR σ A) (hR : MR σ A) (ha : a + 3 ≤ mc0) (hb : b + 18 ≤ ms0) (kk : ∀ σ' A', CR σ' A' → MR σ' A' → GJ X (a + 3) (b + 18) 2067 [some (.inr 1040), some (.inr 69), some (.inr 70), some (.inr 81), some (.inr 82), some (.inl (i : Int)), none, none, none] [] σ') : GJ X a b 745 [some (.inr 1040), some (.inr 69), some (.inr 70), some (.inr 81), some (.inr 82), some (.inl (i : Int)), none, none, none] [] σ := by
  refine gx_aload_n hx dL_law_745 rfl ?_
  refine gx_callI hx (c_X8_padding _ _ hC) lkL_170 mwX8_padding dL_law_746 (by decide) rfl rfl rfl rfl (Nat.le_of_ble_eq_true rfl) (by omega) ⟨by omega, by omega⟩ (fun z1 σ1 h1 => ?_)
  obtain ⟨A1, r1, c1, e1⟩ := h1
  have hR1 : MR σ1 A := hR.out (fun k k1 _ => e1 k k1)
  refine gx_aload_n hx dL_law_749 rfl ?_
  refine gx_callI hx (c_X9_padding _ _ hR1) lkL_173 mwX9_padding dL_law_750 (by decide) rfl rfl rfl rfl (Nat.le_of_ble_eq_true rfl) (by omega) ⟨by omega, by omega⟩ (fun z2 σ2 h2 => ?_)
  obtain ⟨c2, A2, r2, m2, m3, m4⟩ := h2
  obtain ⟨rfl, rfl, rfl⟩ := uniq_fn _ _ _ _ _ _ _ r1 r2
  refine gx_icmpS (tgt := 2067) hx dL_law_753 (by decide) ?_
  exact GJ.widen (by omega) (by omega) (kk _ _ (c1.out (fun k hk => m4 k (Or.inl hk))) m2)
set_option maxRecDepth 20000 in
set_option maxHeartbeats 1000000 in
theorem law_12 {X : Cx} {h0 mc0 ms0 N i a b : Nat} {xs : Nat → Int32} {σ : Sg} {A : AS} (hx : CX X cL_law RL h0 mc0 ms0) (hh0 : 40 ≤ h0) (hX : LWX X N xs) (hnc : NCS X.2.2.2.2.2.1) (hl : X.2.2.1.stackTraces = false) (hN : N ≤ 1536) (hi : i + 3 ≤ N) (hC : CR σ A) (hR : MR σ A) (ha : a + 3 ≤ mc0) (hb : b + 18 ≤ ms0) (kk : ∀ σ' A', CR σ' A' → MR σ' A' → GJ X (a + 3) (b + 18) 2067 [some (.inr 1040), some (.inr 69), some (.inr 70), some (.inr 81), some (.inr 82), some (.inl (i : Int)), none, none, none] [] σ') : GJ X a b 758 [some (.inr 1040), some (.inr 69), some (.inr 70), some (.inr 81), some (.inr 82), some (.inl (i : Int)), none, none, none] [] σ := by
  refine gx_aload_n hx dL_law_758 rfl ?_
  refine gx_aload_n hx dL_law_759 rfl ?_
  refine gx_iload hx dL_law_760 rfl ?_
  refine gx_iconst hx dL_law_762 ?_
  refine gx_iadd hx dL_law_763 ?_
  refine gx_sld hx hX dL_law_764 (by omega) (by omega) (by omega) ?_
  refine gx_aload_n hx dL_law_765 rfl ?_
  refine gx_callL hx hnc (c_L_labelAddress _ _ hl hC (rg_of _)) lkL_174 mwL_labelAddress dL_law_766 rfl rfl (Nat.le_of_ble_eq_true rfl) (by omega) ⟨by omega, by omega⟩ (fun z1 σ1 h1 => ?_)
  obtain ⟨n1, v1, A1, rfl, n9, r1, c1, o1, k1⟩ := h1
  have hR1 : MR σ1 A := hR.out (fun k q1 q2 => k1 k q1 (by omega) (by omega))
  refine gx_istore hx dL_law_769 (Nat.le_of_ble_eq_true rfl) ?_
  refine gx_aload_n hx dL_law_771 rfl ?_
  refine gx_aload_n hx dL_law_772 rfl ?_
  refine gx_iload hx dL_law_773 rfl ?_
  refine gx_iconst hx dL_law_775 ?_
  refine gx_iadd hx dL_law_776 ?_
  refine gx_sld hx hX dL_law_777 (by omega) (by omega) (by omega) ?_
  refine gx_callI hx (c_X9_labelAddress _ _ hR1 (rg_of _)) lkL_176 mwX9_labelAddress dL_law_778 (by decide) rfl rfl rfl rfl (Nat.le_of_ble_eq_true rfl) (by omega) ⟨by omega, by omega⟩ (fun z2 σ2 h2 => ?_)
  obtain ⟨c2, A2, r2, m2, m3, m4⟩ := h2
  obtain ⟨rfl, rfl, rfl⟩ := (uniq_fn _) _ _ _ _ _ _ r1 r2
  refine gx_istore hx dL_law_781 (Nat.le_of_ble_eq_true rfl) ?_
  refine gx_aload_n hx dL_law_783 rfl ?_
  refine gx_callI hx (c_X9_thrown _ _) lkL_139 mwX9_thrown dL_law_784 (by decide) rfl rfl rfl rfl (Nat.le_of_ble_eq_true rfl) (by omega) ⟨by omega, by omega⟩ (fun z3 σ3 h3 => ?_)
  obtain ⟨rfl, rfl⟩ := h3
  rw [m3]
  refine gx_iload hx dL_law_787 rfl ?_
  refine gx_icmpS (tgt := 794) hx dL_law_789 (by decide) ?_
  refine gx_iload hx dL_law_794 rfl ?_
  have hend : GJ X (a + 3) (b + 18) 811 [some (.inr 1040), some (.inr 69), some (.inr 70), some (.inr 81), some (.inr 82), some (.inl (i : Int)), some (.inl (n1 : Int)), some (.inl v1), none] [] σ2 := by
    refine gx_goto (tgt := 2067) hx dL_law_811 (by decide) ?_
    refine GJ.drop 6 (GJ.drop 7 ?_)
    exact GJ.widen (by omega) (by omega) (kk _ _ (c1.out (fun k hk => m4 k (Or.inl hk))) m2)
  refine gx_if_ne (tgt := 811) hx dL_law_796 (by decide) ⟨by omega, by omega⟩ (fun hq => ?_) (fun hq => ?_)
  · exact GJ.widen (by omega) (by omega) hend
  · have hz : σ2 81 0 = (ii v1).toInt := by
      rw [m4 81 (Or.inr (by decide))]
      exact o1 (by omega)
    refine gx_aload_n hx dL_law_799 rfl ?_
    refine gx_iconst hx dL_law_800 ?_
    refine gx_lcmpS (tgt := 811) hx hz dL_law_801 dL_law_802 dL_law_804 dL_law_805 dL_law_806 (by decide) rfl ?_
    exact GJ.widen (by omega) (by omega) hend
set_option maxRecDepth 20000 in
set_option maxHeartbeats 1000000 in
theorem law_13 {X : Cx} {h0 mc0 ms0 N i a b : Nat} {xs : Nat → Int32} {σ : Sg} {A : AS} (hx : CX X cL_law RL h0 mc0 ms0) (hh0 : 40 ≤ h0) (hX : LWX X N xs) (hnc : NCS X.2.2.2.2.2.1) (hl : X.2.2.1.stackTraces = false) (hN : N ≤ 1536) (hi : i + 3 ≤ N) (hC : CR σ A) (hR : MR σ A) (ha : a + 3 ≤ mc0) (hb : b + 18 ≤ ms0) (kk : ∀ σ' A', CR σ' A' → MR σ' A' → GJ X (a + 3) (b + 18) 2067 [some (.inr 1040), some (.inr 69), some (.inr 70), some (.inr 81), some (.inr 82), some (.inl (i : Int)), none, none, none] [] σ') : GJ X a b 814 [some (.inr 1040), some (.inr 69), some (.inr 70), some (.inr 81), some (.inr 82), some (.inl (i : Int)), none, none, none] [] σ := by
  refine gx_aload_n hx dL_law_814 rfl ?_
  refine gx_aload_n hx dL_law_815 rfl ?_
  refine gx_iload hx dL_law_816 rfl ?_
  refine gx_iconst hx dL_law_818 ?_
  refine gx_iadd hx dL_law_819 ?_
  refine gx_sld hx hX dL_law_820 (by omega) (by omega) (by omega) ?_
  refine gx_aload_n hx dL_law_821 rfl ?_
  refine gx_callL hx hnc (c_L_itemAt _ _ hl hC (rg_of _)) lkL_177 mwL_itemAt dL_law_822 rfl rfl (Nat.le_of_ble_eq_true rfl) (by omega) ⟨by omega, by omega⟩ (fun z1 σ1 h1 => ?_)
  obtain ⟨n1, v1, A1, rfl, n9, r1, c1, o1, k1⟩ := h1
  have hR1 : MR σ1 A := hR.out (fun k q1 q2 => k1 k q1 (by omega) (by omega))
  refine gx_istore hx dL_law_825 (Nat.le_of_ble_eq_true rfl) ?_
  refine gx_aload_n hx dL_law_827 rfl ?_
  refine gx_aload_n hx dL_law_828 rfl ?_
  refine gx_iload hx dL_law_829 rfl ?_
  refine gx_iconst hx dL_law_831 ?_
  refine gx_iadd hx dL_law_832 ?_
  refine gx_sld hx hX dL_law_833 (by omega) (by omega) (by omega) ?_
  refine gx_callI hx (c_X9_itemAt _ _ hR1 (rg_of _)) lkL_179 mwX9_itemAt dL_law_834 (by decide) rfl rfl rfl rfl (Nat.le_of_ble_eq_true rfl) (by omega) ⟨by omega, by omega⟩ (fun z2 σ2 h2 => ?_)
  obtain ⟨c2, A2, r2, m2, m3, m4⟩ := h2
  obtain ⟨rfl, rfl, rfl⟩ := (uniq_fn _) _ _ _ _ _ _ r1 r2
  refine gx_istore hx dL_law_837 (Nat.le_of_ble_eq_true rfl) ?_
  refine gx_aload_n hx dL_law_839 rfl ?_
  refine gx_callI hx (c_X9_thrown _ _) lkL_139 mwX9_thrown dL_law_840 (by decide) rfl rfl rfl rfl (Nat.le_of_ble_eq_true rfl) (by omega) ⟨by omega, by omega⟩ (fun z3 σ3 h3 => ?_)
  obtain ⟨rfl, rfl⟩ := h3
  rw [m3]
  refine gx_iload hx dL_law_843 rfl ?_
  refine gx_icmpS (tgt := 850) hx dL_law_845 (by decide) ?_
  refine gx_iload hx dL_law_850 rfl ?_
  have hend : GJ X (a + 3) (b + 18) 867 [some (.inr 1040), some (.inr 69), some (.inr 70), some (.inr 81), some (.inr 82), some (.inl (i : Int)), some (.inl (n1 : Int)), some (.inl v1), none] [] σ2 := by
    refine gx_goto (tgt := 2067) hx dL_law_867 (by decide) ?_
    refine GJ.drop 6 (GJ.drop 7 ?_)
    exact GJ.widen (by omega) (by omega) (kk _ _ (c1.out (fun k hk => m4 k (Or.inl hk))) m2)
  refine gx_if_ne (tgt := 867) hx dL_law_852 (by decide) ⟨by omega, by omega⟩ (fun hq => ?_) (fun hq => ?_)
  · exact GJ.widen (by omega) (by omega) hend
  · have hz : σ2 81 0 = (ii v1).toInt := by
      rw [m4 81 (Or.inr (by decide))]
      exact o1 (by omega)
    refine gx_aload_n hx dL_law_855 rfl ?_
    refine gx_iconst hx dL_law_856 ?_
    refine gx_lcmpS (tgt := 867) hx hz dL_law_857 dL_law_858 dL_law_860 dL_law_861 dL_law_862 (by decide) rfl ?_
    exact GJ.widen (by omega) (by omega) hend
set_option maxRecDepth 20000 in
set_option maxHeartbeats 1000000 in
theorem law_14 {X : Cx} {h0 mc0 ms0 N i a b : Nat} {xs : Nat → Int32} {σ : Sg} {A : AS} (hx : CX X cL_law RL h0 mc0 ms0) (hh0 : 40 ≤ h0) (hX : LWX X N xs) (hnc : NCS X.2.2.2.2.2.1) (hl : X.2.2.1.stackTraces = false) (hN : N ≤ 1536) (hi : i + 3 ≤ N) (hC : CR σ A) (hR : MR σ A) (ha : a + 3 ≤ mc0) (hb : b + 18 ≤ ms0) (kk : ∀ σ' A', CR σ' A' → MR σ' A' → GJ X (a + 3) (b + 18) 2067 [some (.inr 1040), some (.inr 69), some (.inr 70), some (.inr 81), some (.inr 82), some (.inl (i : Int)), none, none, none] [] σ') : GJ X a b 870 [some (.inr 1040), some (.inr 69), some (.inr 70), some (.inr 81), some (.inr 82), some (.inl (i : Int)), none, none, none] [] σ := by
  refine gx_aload_n hx dL_law_870 rfl ?_
  refine gx_aload_n hx dL_law_871 rfl ?_
  refine gx_iload hx dL_law_872 rfl ?_
  refine gx_iconst hx dL_law_874 ?_
  refine gx_iadd hx dL_law_875 ?_
  refine gx_sld hx hX dL_law_876 (by omega) (by omega) (by omega) ?_
  refine gx_aload_n hx dL_law_877 rfl ?_
  refine gx_iload hx dL_law_878 rfl ?_
  refine gx_iconst hx dL_law_880 ?_
  refine gx_iadd hx dL_law_881 ?_
  refine gx_sld hx hX dL_law_882 (by omega) (by omega) (by omega) ?_
  refine gx_aload_n hx dL_law_883 rfl ?_
  refine gx_callL hx hnc (c_L_addressIf _ _ hl hC (rg_of _) (rg_of _)) lkL_180 mwL_addressIf dL_law_884 rfl rfl (Nat.le_of_ble_eq_true rfl) (by omega) ⟨by omega, by omega⟩ (fun z1 σ1 h1 => ?_)
  obtain ⟨n1, v1, A1, rfl, n9, r1, c1, o1, k1⟩ := h1
  have hR1 : MR σ1 A := hR.out (fun k q1 q2 => k1 k q1 (by omega) (by omega))
  refine gx_istore hx dL_law_887 (Nat.le_of_ble_eq_true rfl) ?_
  refine gx_aload_n hx dL_law_889 rfl ?_
  refine gx_aload_n hx dL_law_890 rfl ?_
  refine gx_iload hx dL_law_891 rfl ?_
  refine gx_iconst hx dL_law_893 ?_
  refine gx_iadd hx dL_law_894 ?_
  refine gx_sld hx hX dL_law_895 (by omega) (by omega) (by omega) ?_
  refine gx_aload_n hx dL_law_896 rfl ?_
  refine gx_iload hx dL_law_897 rfl ?_
  refine gx_iconst hx dL_law_899 ?_
  refine gx_iadd hx dL_law_900 ?_
  refine gx_sld hx hX dL_law_901 (by omega) (by omega) (by omega) ?_
  refine gx_callI hx (c_X9_addressIf _ _ hR1 (rg_of _) (rg_of _)) lkL_182 mwX9_addressIf dL_law_902 (by decide) rfl rfl rfl rfl (Nat.le_of_ble_eq_true rfl) (by omega) ⟨by omega, by omega⟩ (fun z2 σ2 h2 => ?_)
  obtain ⟨c2, A2, r2, m2, m3, m4⟩ := h2
  obtain ⟨rfl, rfl, rfl⟩ := (uniq_fn _) _ _ _ _ _ _ r1 r2
  refine gx_istore hx dL_law_905 (Nat.le_of_ble_eq_true rfl) ?_
  refine gx_aload_n hx dL_law_907 rfl ?_
  refine gx_callI hx (c_X9_thrown _ _) lkL_139 mwX9_thrown dL_law_908 (by decide) rfl rfl rfl rfl (Nat.le_of_ble_eq_true rfl) (by omega) ⟨by omega, by omega⟩ (fun z3 σ3 h3 => ?_)
  obtain ⟨rfl, rfl⟩ := h3
  rw [m3]
  refine gx_iload hx dL_law_911 rfl ?_
  refine gx_icmpS (tgt := 918) hx dL_law_913 (by decide) ?_
  refine gx_iload hx dL_law_918 rfl ?_
  have hend : GJ X (a + 3) (b + 18) 935 [some (.inr 1040), some (.inr 69), some (.inr 70), some (.inr 81), some (.inr 82), some (.inl (i : Int)), some (.inl (n1 : Int)), some (.inl v1), none] [] σ2 := by
    refine gx_goto (tgt := 2067) hx dL_law_935 (by decide) ?_
    refine GJ.drop 6 (GJ.drop 7 ?_)
    exact GJ.widen (by omega) (by omega) (kk _ _ (c1.out (fun k hk => m4 k (Or.inl hk))) m2)
  refine gx_if_ne (tgt := 935) hx dL_law_920 (by decide) ⟨by omega, by omega⟩ (fun hq => ?_) (fun hq => ?_)
  · exact GJ.widen (by omega) (by omega) hend
  · have hz : σ2 81 0 = (ii v1).toInt := by
      rw [m4 81 (Or.inr (by decide))]
      exact o1 (by omega)
    refine gx_aload_n hx dL_law_923 rfl ?_
    refine gx_iconst hx dL_law_924 ?_
    refine gx_lcmpS (tgt := 935) hx hz dL_law_925 dL_law_926 dL_law_928 dL_law_929 dL_law_930 (by decide) rfl ?_
    exact GJ.widen (by omega) (by omega) hend
set_option maxRecDepth 20000 in
set_option maxHeartbeats 1000000 in
theorem law_15 {X : Cx} {h0 mc0 ms0 N i a b : Nat} {xs : Nat → Int32} {σ : Sg} {A : AS} (hx : CX X cL_law RL h0 mc0 ms0) (hh0 : 40 ≤ h0) (hX : LWX X N xs) (hnc : NCS X.2.2.2.2.2.1) (hl : X.2.2.1.stackTraces = false) (hN : N ≤ 1536) (hi : i + 3 ≤ N) (hC : CR σ A) (hR : MR σ A) (ha : a + 3 ≤ mc0) (hb : b + 18 ≤ ms0) (kk : ∀ σ' A', CR σ' A' → MR σ' A' → GJ X (a + 3) (b + 18) 2067 [some (.inr 1040), some (.inr 69), some (.inr 70), some (.inr 81), some (.inr 82), some (.inl (i : Int)), none, none, none] [] σ') : GJ X a b 938 [some (.inr 1040), some (.inr 69), some (.inr 70), some (.inr 81), some (.inr 82), some (.inl (i : Int)), none, none, none] [] σ := by
  refine gx_aload_n hx dL_law_938 rfl ?_
  refine gx_aload_n hx dL_law_939 rfl ?_
  refine gx_iload hx dL_law_940 rfl ?_
  refine gx_iconst hx dL_law_942 ?_
  refine gx_iadd hx dL_law_943 ?_
  refine gx_sld hx hX dL_law_944 (by omega) (by omega) (by omega) ?_
  refine gx_aload_n hx dL_law_945 rfl ?_
  refine gx_callL hx hnc (c_L_possibleAddresses _ _ hl hC (rg_of _)) lkL_183 mwL_possibleAddresses dL_law_946 rfl rfl (Nat.le_of_ble_eq_true rfl) (by omega) ⟨by omega, by omega⟩ (fun z1 σ1 h1 => ?_)
  obtain ⟨n1, v1, A1, rfl, n9, r1, c1, o1, k1⟩ := h1
  have hR1 : MR σ1 A := hR.out (fun k q1 q2 => k1 k q1 (by omega) (by omega))
  refine gx_istore hx dL_law_949 (Nat.le_of_ble_eq_true rfl) ?_
  refine gx_aload_n hx dL_law_951 rfl ?_
  refine gx_aload_n hx dL_law_952 rfl ?_
  refine gx_iload hx dL_law_953 rfl ?_
  refine gx_iconst hx dL_law_955 ?_
  refine gx_iadd hx dL_law_956 ?_
  refine gx_sld hx hX dL_law_957 (by omega) (by omega) (by omega) ?_
  refine gx_callI hx (c_X9_possibleAddresses _ _ hR1 (rg_of _)) lkL_185 mwX9_possibleAddresses dL_law_958 (by decide) rfl rfl rfl rfl (Nat.le_of_ble_eq_true rfl) (by omega) ⟨by omega, by omega⟩ (fun z2 σ2 h2 => ?_)
  obtain ⟨c2, A2, r2, m2, m3, m4⟩ := h2
  obtain ⟨rfl, rfl, rfl⟩ := (uniq_fn _) _ _ _ _ _ _ r1 r2
  refine gx_istore hx dL_law_961 (Nat.le_of_ble_eq_true rfl) ?_
  refine gx_aload_n hx dL_law_963 rfl ?_
  refine gx_callI hx (c_X9_thrown _ _) lkL_139 mwX9_thrown dL_law_964 (by decide) rfl rfl rfl rfl (Nat.le_of_ble_eq_true rfl) (by omega) ⟨by omega, by omega⟩ (fun z3 σ3 h3 => ?_)
  obtain ⟨rfl, rfl⟩ := h3
  rw [m3]
  refine gx_iload hx dL_law_967 rfl ?_
  refine gx_icmpS (tgt := 974) hx dL_law_969 (by decide) ?_
  refine gx_iload hx dL_law_974 rfl ?_
  have hend : GJ X (a + 3) (b + 18) 991 [some (.inr 1040), some (.inr 69), some (.inr 70), some (.inr 81), some (.inr 82), some (.inl (i : Int)), some (.inl (n1 : Int)), some (.inl v1), none] [] σ2 := by
    refine gx_goto (tgt := 2067) hx dL_law_991 (by decide) ?_
    refine GJ.drop 6 (GJ.drop 7 ?_)
    exact GJ.widen (by omega) (by omega) (kk _ _ (c1.out (fun k hk => m4 k (Or.inl hk))) m2)
  refine gx_if_ne (tgt := 991) hx dL_law_976 (by decide) ⟨by omega, by omega⟩ (fun hq => ?_) (fun hq => ?_)
  · exact GJ.widen (by omega) (by omega) hend
  · have hz : σ2 81 0 = (ii v1).toInt := by
      rw [m4 81 (Or.inr (by decide))]
      exact o1 (by omega)
    refine gx_aload_n hx dL_law_979 rfl ?_
    refine gx_iconst hx dL_law_980 ?_
    refine gx_lcmpS (tgt := 991) hx hz dL_law_981 dL_law_982 dL_law_984 dL_law_985 dL_law_986 (by decide) rfl ?_
    exact GJ.widen (by omega) (by omega) hend
set_option maxRecDepth 20000 in
set_option maxHeartbeats 1000000 in
theorem law_16 {X : Cx} {h0 mc0 ms0 N i a b : Nat} {xs : Nat → Int32} {σ : Sg} {A : AS} (hx : CX X cL_law RL h0 mc0 ms0) (hh0 : 40 ≤ h0) (hX : LWX X N xs) (hnc : NCS X.2.2.2.2.2.1) (hl : X.2.2.1.stackTraces = false) (hN : N ≤ 1536) (hi : i + 3 ≤ N) (hC : CR σ A) (hR : MR σ A) (ha : a + 3 ≤ mc0) (hb : b + 18 ≤ ms0) (kk : ∀ σ' A', CR σ' A' → MR σ' A' → GJ X (a + 3) (b + 18) 2067 [some (.inr 1040), some (.inr 69), some (.inr 70), some (.inr 81), some (.inr 82), some (.inl (i : Int)), none, none, none] [] σ') : GJ X a b 994 [some (.inr 1040), some (.inr 69), some (.inr 70), some (.inr 81), some (.inr 82), some (.inl (i : Int)), none, none, none] [] σ := by
  refine gx_aload_n hx dL_law_994 rfl ?_
  refine gx_callI hx (c_X8_transferCount _ _ hC) lkL_186 mwX8_transferCount dL_law_995 (by decide) rfl rfl rfl rfl (Nat.le_of_ble_eq_true rfl) (by omega) ⟨by omega, by omega⟩ (fun z1 σ1 h1 => ?_)
  obtain ⟨A1, r1, c1, e1⟩ := h1
  have hR1 : MR σ1 A := hR.out (fun k k1 _ => e1 k k1)
  refine gx_aload_n hx dL_law_998 rfl ?_
  refine gx_callI hx (c_X9_transferCount _ _ hR1) lkL_189 mwX9_transferCount dL_law_999 (by decide) rfl rfl rfl rfl (Nat.le_of_ble_eq_true rfl) (by omega) ⟨by omega, by omega⟩ (fun z2 σ2 h2 => ?_)
  obtain ⟨c2, A2, r2, m2, m3, m4⟩ := h2
  obtain ⟨rfl, rfl, rfl⟩ := uniq_fn _ _ _ _ _ _ _ r1 r2
  refine gx_icmpS (tgt := 2067) hx dL_law_1002 (by decide) ?_
  exact GJ.widen (by omega) (by omega) (kk _ _ (c1.out (fun k hk => m4 k (Or.inl hk))) m2)
set_option maxRecDepth 20000 in
set_option maxHeartbeats 1000000 in
theorem law_17 {X : Cx} {h0 mc0 ms0 N i a b : Nat} {xs : Nat → Int32} {σ : Sg} {A : AS} (hx : CX X cL_law RL h0 mc0 ms0) (hh0 : 40 ≤ h0) (hX : LWX X N xs) (hnc : NCS X.2.2.2.2.2.1) (hl : X.2.2.1.stackTraces = false) (hN : N ≤ 1536) (hi : i + 3 ≤ N) (hC : CR σ A) (hR : MR σ A) (ha : a + 3 ≤ mc0) (hb : b + 18 ≤ ms0) (kk : ∀ σ' A', CR σ' A' → MR σ' A' → GJ X (a + 3) (b + 18) 2067 [some (.inr 1040), some (.inr 69), some (.inr 70), some (.inr 81), some (.inr 82), some (.inl (i : Int)), none, none, none] [] σ') : GJ X a b 1007 [some (.inr 1040), some (.inr 69), some (.inr 70), some (.inr 81), some (.inr 82), some (.inl (i : Int)), none, none, none] [] σ := by
  refine gx_aload_n hx dL_law_1007 rfl ?_
  refine gx_aload_n hx dL_law_1008 rfl ?_
  refine gx_iload hx dL_law_1009 rfl ?_
  refine gx_iconst hx dL_law_1011 ?_
  refine gx_iadd hx dL_law_1012 ?_
  refine gx_sld hx hX dL_law_1013 (by omega) (by omega) (by omega) ?_
  refine gx_aload_n hx dL_law_1014 rfl ?_
  refine gx_callL hx hnc (c_L_formCount _ _ hl hC (rg_of _)) lkL_190 mwL_formCount dL_law_1015 rfl rfl (Nat.le_of_ble_eq_true rfl) (by omega) ⟨by omega, by omega⟩ (fun z1 σ1 h1 => ?_)
  obtain ⟨n1, v1, A1, rfl, n9, r1, c1, o1, k1⟩ := h1
  have hR1 : MR σ1 A := hR.out (fun k q1 q2 => k1 k q1 (by omega) (by omega))
  refine gx_istore hx dL_law_1018 (Nat.le_of_ble_eq_true rfl) ?_
  refine gx_aload_n hx dL_law_1020 rfl ?_
  refine gx_aload_n hx dL_law_1021 rfl ?_
  refine gx_iload hx dL_law_1022 rfl ?_
  refine gx_iconst hx dL_law_1024 ?_
  refine gx_iadd hx dL_law_1025 ?_
  refine gx_sld hx hX dL_law_1026 (by omega) (by omega) (by omega) ?_
  refine gx_callI hx (c_X9_formCount _ _ hR1 (rg_of _)) lkL_192 mwX9_formCount dL_law_1027 (by decide) rfl rfl rfl rfl (Nat.le_of_ble_eq_true rfl) (by omega) ⟨by omega, by omega⟩ (fun z2 σ2 h2 => ?_)
  obtain ⟨c2, A2, r2, m2, m3, m4⟩ := h2
  obtain ⟨rfl, rfl, rfl⟩ := (uniq_fn _) _ _ _ _ _ _ r1 r2
  refine gx_istore hx dL_law_1030 (Nat.le_of_ble_eq_true rfl) ?_
  refine gx_aload_n hx dL_law_1032 rfl ?_
  refine gx_callI hx (c_X9_thrown _ _) lkL_139 mwX9_thrown dL_law_1033 (by decide) rfl rfl rfl rfl (Nat.le_of_ble_eq_true rfl) (by omega) ⟨by omega, by omega⟩ (fun z3 σ3 h3 => ?_)
  obtain ⟨rfl, rfl⟩ := h3
  rw [m3]
  refine gx_iload hx dL_law_1036 rfl ?_
  refine gx_icmpS (tgt := 1043) hx dL_law_1038 (by decide) ?_
  refine gx_iload hx dL_law_1043 rfl ?_
  have hend : GJ X (a + 3) (b + 18) 1060 [some (.inr 1040), some (.inr 69), some (.inr 70), some (.inr 81), some (.inr 82), some (.inl (i : Int)), some (.inl (n1 : Int)), some (.inl v1), none] [] σ2 := by
    refine gx_goto (tgt := 2067) hx dL_law_1060 (by decide) ?_
    refine GJ.drop 6 (GJ.drop 7 ?_)
    exact GJ.widen (by omega) (by omega) (kk _ _ (c1.out (fun k hk => m4 k (Or.inl hk))) m2)
  refine gx_if_ne (tgt := 1060) hx dL_law_1045 (by decide) ⟨by omega, by omega⟩ (fun hq => ?_) (fun hq => ?_)
  · exact GJ.widen (by omega) (by omega) hend
  · have hz : σ2 81 0 = (ii v1).toInt := by
      rw [m4 81 (Or.inr (by decide))]
      exact o1 (by omega)
    refine gx_aload_n hx dL_law_1048 rfl ?_
    refine gx_iconst hx dL_law_1049 ?_
    refine gx_lcmpS (tgt := 1060) hx hz dL_law_1050 dL_law_1051 dL_law_1053 dL_law_1054 dL_law_1055 (by decide) rfl ?_
    exact GJ.widen (by omega) (by omega) hend
set_option maxRecDepth 20000 in
set_option maxHeartbeats 1000000 in
theorem law_18 {X : Cx} {h0 mc0 ms0 N i a b : Nat} {xs : Nat → Int32} {σ : Sg} {A : AS} (hx : CX X cL_law RL h0 mc0 ms0) (hh0 : 40 ≤ h0) (hX : LWX X N xs) (hnc : NCS X.2.2.2.2.2.1) (hl : X.2.2.1.stackTraces = false) (hN : N ≤ 1536) (hi : i + 3 ≤ N) (hC : CR σ A) (hR : MR σ A) (ha : a + 3 ≤ mc0) (hb : b + 18 ≤ ms0) (kk : ∀ σ' A', CR σ' A' → MR σ' A' → GJ X (a + 3) (b + 18) 2067 [some (.inr 1040), some (.inr 69), some (.inr 70), some (.inr 81), some (.inr 82), some (.inl (i : Int)), none, none, none] [] σ') : GJ X a b 1063 [some (.inr 1040), some (.inr 69), some (.inr 70), some (.inr 81), some (.inr 82), some (.inl (i : Int)), none, none, none] [] σ := by
  refine gx_aload_n hx dL_law_1063 rfl ?_
  refine gx_callI hx (c_X8_undefinedCount _ _ hC) lkL_193 mwX8_undefinedCount dL_law_1064 (by decide) rfl rfl rfl rfl (Nat.le_of_ble_eq_true rfl) (by omega) ⟨by omega, by omega⟩ (fun z1 σ1 h1 => ?_)
  obtain ⟨A1, r1, c1, e1⟩ := h1
  have hR1 : MR σ1 A := hR.out (fun k k1 _ => e1 k k1)
  refine gx_aload_n hx dL_law_1067 rfl ?_
  refine gx_callI hx (c_X9_undefinedCount _ _ hR1) lkL_196 mwX9_undefinedCount dL_law_1068 (by decide) rfl rfl rfl rfl (Nat.le_of_ble_eq_true rfl) (by omega) ⟨by omega, by omega⟩ (fun z2 σ2 h2 => ?_)
  obtain ⟨c2, A2, r2, m2, m3, m4⟩ := h2
  obtain ⟨rfl, rfl, rfl⟩ := uniq_fn _ _ _ _ _ _ _ r1 r2
  refine gx_icmpS (tgt := 2067) hx dL_law_1071 (by decide) ?_
  exact GJ.widen (by omega) (by omega) (kk _ _ (c1.out (fun k hk => m4 k (Or.inl hk))) m2)
set_option maxRecDepth 20000 in
set_option maxHeartbeats 1000000 in
theorem law_19 {X : Cx} {h0 mc0 ms0 N i a b : Nat} {xs : Nat → Int32} {σ : Sg} {A : AS} (hx : CX X cL_law RL h0 mc0 ms0) (hh0 : 40 ≤ h0) (hX : LWX X N xs) (hnc : NCS X.2.2.2.2.2.1) (hl : X.2.2.1.stackTraces = false) (hN : N ≤ 1536) (hi : i + 3 ≤ N) (hC : CR σ A) (hR : MR σ A) (ha : a + 3 ≤ mc0) (hb : b + 18 ≤ ms0) (kk : ∀ σ' A', CR σ' A' → MR σ' A' → GJ X (a + 3) (b + 18) 2067 [some (.inr 1040), some (.inr 69), some (.inr 70), some (.inr 81), some (.inr 82), some (.inl (i : Int)), none, none, none] [] σ') : GJ X a b 1076 [some (.inr 1040), some (.inr 69), some (.inr 70), some (.inr 81), some (.inr 82), some (.inl (i : Int)), none, none, none] [] σ := by
  refine gx_aload_n hx dL_law_1076 rfl ?_
  refine gx_aload_n hx dL_law_1077 rfl ?_
  refine gx_iload hx dL_law_1078 rfl ?_
  refine gx_iconst hx dL_law_1080 ?_
  refine gx_iadd hx dL_law_1081 ?_
  refine gx_sld hx hX dL_law_1082 (by omega) (by omega) (by omega) ?_
  refine gx_aload_n hx dL_law_1083 rfl ?_
  refine gx_callL hx hnc (c_L_displacement _ _ hl hC (rg_of _)) lkL_197 mwL_displacement dL_law_1084 rfl rfl (Nat.le_of_ble_eq_true rfl) (by omega) ⟨by omega, by omega⟩ (fun z1 σ1 h1 => ?_)
  obtain ⟨n1, v1, A1, rfl, n9, r1, c1, o1, k1⟩ := h1
  have hR1 : MR σ1 A := hR.out (fun k q1 q2 => k1 k q1 (by omega) (by omega))
  refine gx_istore hx dL_law_1087 (Nat.le_of_ble_eq_true rfl) ?_
  refine gx_aload_n hx dL_law_1089 rfl ?_
  refine gx_aload_n hx dL_law_1090 rfl ?_
  refine gx_iload hx dL_law_1091 rfl ?_
  refine gx_iconst hx dL_law_1093 ?_
  refine gx_iadd hx dL_law_1094 ?_
  refine gx_sld hx hX dL_law_1095 (by omega) (by omega) (by omega) ?_
  refine gx_callI hx (c_X9_displacement _ _ hR1 (rg_of _)) lkL_199 mwX9_displacement dL_law_1096 (by decide) rfl rfl rfl rfl (Nat.le_of_ble_eq_true rfl) (by omega) ⟨by omega, by omega⟩ (fun z2 σ2 h2 => ?_)
  obtain ⟨c2, A2, r2, m2, m3, m4⟩ := h2
  obtain ⟨rfl, rfl, rfl⟩ := (uniq_fn _) _ _ _ _ _ _ r1 r2
  refine gx_istore hx dL_law_1099 (Nat.le_of_ble_eq_true rfl) ?_
  refine gx_aload_n hx dL_law_1101 rfl ?_
  refine gx_callI hx (c_X9_thrown _ _) lkL_139 mwX9_thrown dL_law_1102 (by decide) rfl rfl rfl rfl (Nat.le_of_ble_eq_true rfl) (by omega) ⟨by omega, by omega⟩ (fun z3 σ3 h3 => ?_)
  obtain ⟨rfl, rfl⟩ := h3
  rw [m3]
  refine gx_iload hx dL_law_1105 rfl ?_
  refine gx_icmpS (tgt := 1112) hx dL_law_1107 (by decide) ?_
  refine gx_iload hx dL_law_1112 rfl ?_
  have hend : GJ X (a + 3) (b + 18) 1129 [some (.inr 1040), some (.inr 69), some (.inr 70), some (.inr 81), some (.inr 82), some (.inl (i : Int)), some (.inl (n1 : Int)), some (.inl v1), none] [] σ2 := by
    refine gx_goto (tgt := 2067) hx dL_law_1129 (by decide) ?_
    refine GJ.drop 6 (GJ.drop 7 ?_)
    exact GJ.widen (by omega) (by omega) (kk _ _ (c1.out (fun k hk => m4 k (Or.inl hk))) m2)
  refine gx_if_ne (tgt := 1129) hx dL_law_1114 (by decide) ⟨by omega, by omega⟩ (fun hq => ?_) (fun hq => ?_)
  · exact GJ.widen (by omega) (by omega) hend
  · have hz : σ2 81 0 = (ii v1).toInt := by
      rw [m4 81 (Or.inr (by decide))]
      exact o1 (by omega)
    refine gx_aload_n hx dL_law_1117 rfl ?_
    refine gx_iconst hx dL_law_1118 ?_
    refine gx_lcmpS (tgt := 1129) hx hz dL_law_1119 dL_law_1120 dL_law_1122 dL_law_1123 dL_law_1124 (by decide) rfl ?_
    exact GJ.widen (by omega) (by omega) hend
