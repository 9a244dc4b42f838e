/-! The law: its loop -/
set_option maxRecDepth 40000 in
set_option maxHeartbeats 4000000 in
theorem law_loop {X : Cx} {h0 mc0 ms0 N : Nat} {xs : Nat → Int32} (hx : CX X cL_law RL h0 mc0 ms0) (hh0 : 40 ≤ h0) (hX : LWX X N xs) (hnc : NCS X.2.2.2.2.2.1) (hl : X.2.2.1.stackTraces = false) (hN : N ≤ 1536) (hend : ∀ (i a b : Nat) (σ : Sg), a ≤ mc0 → b ≤ ms0 → GJ X a b 2073 [some (.inr 1040), some (.inr 69), some (.inr 70), some (.inr 81), some (.inr 82), some (.inl (i : Int)), none, none, none] [] σ) : ∀ (f i a b : Nat) (σ : Sg) (A : AS), N - i < f → i ≤ 1536 → a + (N - i) ≤ mc0 → b + 6 * (N - i) ≤ ms0 → CR σ A → MR σ A → GJ X a b 28 [some (.inr 1040), some (.inr 69), some (.inr 70), some (.inr 81), some (.inr 82), some (.inl (i : Int)), none, none, none] [] σ := by
  intro f
  induction f with
  | zero => intro i a b σ A h; exact absurd h (Nat.not_lt_zero _)
  | succ f ih =>
    intro i a b σ A hf hi ha hb hC hR
    refine gx_iload hx dL_law_28 rfl ?_
    refine gx_aload_n hx dL_law_30 rfl ?_
    refine gx_slen hx hX dL_law_31 ?_
    refine gx_iconst hx dL_law_32 ?_
    refine gx_isub hx dL_law_33 ?_
    refine gx_icmp_gt (tgt := 2073) hx dL_law_34 (by decide) ⟨by omega, by omega⟩ ⟨by omega, by omega⟩ (fun h34 => ?_) (fun h34 => ?_)
    · exact hend i a b σ (by omega) (by omega)
    · have hi3 : i + 3 ≤ N := by omega
      have kk : ∀ σ' A', CR σ' A' → MR σ' A' → GJ X (a + 3) (b + 18) 2067 [some (.inr 1040), some (.inr 69), some (.inr 70), some (.inr 81), some (.inr 82), some (.inl (i : Int)), none, none, none] [] σ' := by
        intro σ' A' hC' hR'
        refine gx_iinc hx dL_law_2067 (Nat.le_of_ble_eq_true rfl) rfl ?_
        refine gx_goto (tgt := 28) hx dL_law_2070 (by decide) ?_
        refine GJ.cong ?_ rfl rfl (ih (i + 3) (a + 3) (b + 18) σ' A' (by omega) (by omega) (by omega) (by omega) hC' hR')
        rw [show ((i + 3 : Nat) : Int) = (i : Int) + 3 by omega]
        rfl
      refine gx_aload_n hx dL_law_37 rfl ?_
      refine gx_iload hx dL_law_38 rfl ?_
      refine gx_sld hx hX dL_law_40 (by omega) (by omega) (by omega) ?_
      refine gx_bipush hx dL_law_41 (by decide) ?_
      obtain ⟨z0, z63⟩ := and63 (xs (i : Int).toNat)
      refine gx_iand (z := (xs (i : Int).toNat &&& 63).toInt) hx dL_law_43 (by rw [ii_of, ii_of]; rfl) ?_
      generalize (xs (i : Int).toNat &&& 63).toInt = z at z0 z63 ⊢
      rcases (show z = 0 ∨ 1 ≤ z by omega) with rfl | z0
      · refine gx_tableIn (off := 176) (tgt := 220) hx dL_law_44 ⟨by decide, by decide⟩ (by decide) (by decide) rfl (by decide) ?_
        exact law_0 hx hh0 hX hnc hl hN hi3 hC hR (by omega) (by omega) kk
      rcases (show z = 1 ∨ 2 ≤ z by omega) with rfl | z0
      · refine gx_tableIn (off := 189) (tgt := 233) hx dL_law_44 ⟨by decide, by decide⟩ (by decide) (by decide) rfl (by decide) ?_
        exact law_1 hx hh0 hX hnc hl hN hi3 hC hR (by omega) (by omega) kk
      rcases (show z = 2 ∨ 3 ≤ z by omega) with rfl | z0
      · refine gx_tableIn (off := 202) (tgt := 246) hx dL_law_44 ⟨by decide, by decide⟩ (by decide) (by decide) rfl (by decide) ?_
        exact law_2 hx hh0 hX hnc hl hN hi3 hC hR (by omega) (by omega) kk
      rcases (show z = 3 ∨ 4 ≤ z by omega) with rfl | z0
      · refine gx_tableIn (off := 260) (tgt := 304) hx dL_law_44 ⟨by decide, by decide⟩ (by decide) (by decide) rfl (by decide) ?_
        exact law_3 hx hh0 hX hnc hl hN hi3 hC hR (by omega) (by omega) kk
      rcases (show z = 4 ∨ 5 ≤ z by omega) with rfl | z0
      · refine gx_tableIn (off := 316) (tgt := 360) hx dL_law_44 ⟨by decide, by decide⟩ (by decide) (by decide) rfl (by decide) ?_
        exact law_4 hx hh0 hX hnc hl hN hi3 hC hR (by omega) (by omega) kk
      rcases (show z = 5 ∨ 6 ≤ z by omega) with rfl | z0
      · refine gx_tableIn (off := 360) (tgt := 404) hx dL_law_44 ⟨by decide, by decide⟩ (by decide) (by decide) rfl (by decide) ?_
        exact law_5 hx hh0 hX hnc hl hN hi3 hC hR (by omega) (by omega) kk
      rcases (show z = 6 ∨ 7 ≤ z by omega) with rfl | z0
      · refine gx_tableIn (off := 416) (tgt := 460) hx dL_law_44 ⟨by decide, by decide⟩ (by decide) (by decide) rfl (by decide) ?_
        exact law_6 hx hh0 hX hnc hl hN hi3 hC hR (by omega) (by omega) kk
      rcases (show z = 7 ∨ 8 ≤ z by omega) with rfl | z0
      · refine gx_tableIn (off := 484) (tgt := 528) hx dL_law_44 ⟨by decide, by decide⟩ (by decide) (by decide) rfl (by decide) ?_
        exact law_7 hx hh0 hX hnc hl hN hi3 hC hR (by omega) (by omega) kk
      rcases (show z = 8 ∨ 9 ≤ z by omega) with rfl | z0
      · refine gx_tableIn (off := 552) (tgt := 596) hx dL_law_44 ⟨by decide, by decide⟩ (by decide) (by decide) rfl (by decide) ?_
        exact law_8 hx hh0 hX hnc hl hN hi3 hC hR (by omega) (by omega) kk
      rcases (show z = 9 ∨ 10 ≤ z by omega) with rfl | z0
      · refine gx_tableIn (off := 620) (tgt := 664) hx dL_law_44 ⟨by decide, by decide⟩ (by decide) (by decide) rfl (by decide) ?_
        exact law_9 hx hh0 hX hnc hl hN hi3 hC hR (by omega) (by omega) kk
      rcases (show z = 10 ∨ 11 ≤ z by omega) with rfl | z0
      · refine gx_tableIn (off := 688) (tgt := 732) hx dL_law_44 ⟨by decide, by decide⟩ (by decide) (by decide) rfl (by decide) ?_
        exact law_10 hx hh0 hX hnc hl hN hi3 hC hR (by omega) (by omega) kk
      rcases (show z = 11 ∨ 12 ≤ z by omega) with rfl | z0
      · refine gx_tableIn (off := 701) (tgt := 745) hx dL_law_44 ⟨by decide, by decide⟩ (by decide) (by decide) rfl (by decide) ?_
        exact law_11 hx hh0 hX hnc hl hN hi3 hC hR (by omega) (by omega) kk
      rcases (show z = 12 ∨ 13 ≤ z by omega) with rfl | z0
      · refine gx_tableIn (off := 714) (tgt := 758) hx dL_law_44 ⟨by decide, by decide⟩ (by decide) (by decide) rfl (by decide) ?_
        exact law_12 hx hh0 hX hnc hl hN hi3 hC hR (by omega) (by omega) kk
      rcases (show z = 13 ∨ 14 ≤ z by omega) with rfl | z0
      · refine gx_tableIn (off := 770) (tgt := 814) hx dL_law_44 ⟨by decide, by decide⟩ (by decide) (by decide) rfl (by decide) ?_
        exact law_13 hx hh0 hX hnc hl hN hi3 hC hR (by omega) (by omega) kk
      rcases (show z = 14 ∨ 15 ≤ z by omega) with rfl | z0
      · refine gx_tableIn (off := 826) (tgt := 870) hx dL_law_44 ⟨by decide, by decide⟩ (by decide) (by decide) rfl (by decide) ?_
        exact law_14 hx hh0 hX hnc hl hN hi3 hC hR (by omega) (by omega) kk
      rcases (show z = 15 ∨ 16 ≤ z by omega) with rfl | z0
      · refine gx_tableIn (off := 894) (tgt := 938) hx dL_law_44 ⟨by decide, by decide⟩ (by decide) (by decide) rfl (by decide) ?_
        exact law_15 hx hh0 hX hnc hl hN hi3 hC hR (by omega) (by omega) kk
      rcases (show z = 16 ∨ 17 ≤ z by omega) with rfl | z0
      · refine gx_tableIn (off := 950) (tgt := 994) hx dL_law_44 ⟨by decide, by decide⟩ (by decide) (by decide) rfl (by decide) ?_
        exact law_16 hx hh0 hX hnc hl hN hi3 hC hR (by omega) (by omega) kk
      rcases (show z = 17 ∨ 18 ≤ z by omega) with rfl | z0
      · refine gx_tableIn (off := 963) (tgt := 1007) hx dL_law_44 ⟨by decide, by decide⟩ (by decide) (by decide) rfl (by decide) ?_
        exact law_17 hx hh0 hX hnc hl hN hi3 hC hR (by omega) (by omega) kk
      rcases (show z = 18 ∨ 19 ≤ z by omega) with rfl | z0
      · refine gx_tableIn (off := 1019) (tgt := 1063) hx dL_law_44 ⟨by decide, by decide⟩ (by decide) (by decide) rfl (by decide) ?_
        exact law_18 hx hh0 hX hnc hl hN hi3 hC hR (by omega) (by omega) kk
      rcases (show z = 19 ∨ 20 ≤ z by omega) with rfl | z0
      · refine gx_tableIn (off := 1032) (tgt := 1076) hx dL_law_44 ⟨by decide, by decide⟩ (by decide) (by decide) rfl (by decide) ?_
        exact law_19 hx hh0 hX hnc hl hN hi3 hC hR (by omega) (by omega) kk
      rcases (show z = 20 ∨ 21 ≤ z by omega) with rfl | z0
      · refine gx_tableIn (off := 1088) (tgt := 1132) hx dL_law_44 ⟨by decide, by decide⟩ (by decide) (by decide) rfl (by decide) ?_
        exact law_20 hx hh0 hX hnc hl hN hi3 hC hR (by omega) (by omega) kk
      rcases (show z = 21 ∨ 22 ≤ z by omega) with rfl | z0
      · refine gx_tableIn (off := 1151) (tgt := 1195) hx dL_law_44 ⟨by decide, by decide⟩ (by decide) (by decide) rfl (by decide) ?_
        exact law_21 hx hh0 hX hnc hl hN hi3 hC hR (by omega) (by omega) kk
      rcases (show z = 22 ∨ 23 ≤ z by omega) with rfl | z0
      · refine gx_tableIn (off := 1195) (tgt := 1239) hx dL_law_44 ⟨by decide, by decide⟩ (by decide) (by decide) rfl (by decide) ?_
        exact law_22 hx hh0 hX hnc hl hN hi3 hC hR (by omega) (by omega) kk
      rcases (show z = 23 ∨ 24 ≤ z by omega) with rfl | z0
      · refine gx_tableIn (off := 1251) (tgt := 1295) hx dL_law_44 ⟨by decide, by decide⟩ (by decide) (by decide) rfl (by decide) ?_
        exact law_23 hx hh0 hX hnc hl hN hi3 hC hR (by omega) (by omega) kk
      rcases (show z = 24 ∨ 25 ≤ z by omega) with rfl | z0
      · refine gx_tableIn (off := 1295) (tgt := 1339) hx dL_law_44 ⟨by decide, by decide⟩ (by decide) (by decide) rfl (by decide) ?_
        exact law_24 hx hh0 hX hnc hl hN hi3 hC hR (by omega) (by omega) kk
      rcases (show z = 25 ∨ 26 ≤ z by omega) with rfl | z0
      · refine gx_tableIn (off := 1339) (tgt := 1383) hx dL_law_44 ⟨by decide, by decide⟩ (by decide) (by decide) rfl (by decide) ?_
        exact law_25 hx hh0 hX hnc hl hN hi3 hC hR (by omega) (by omega) kk
      rcases (show z = 26 ∨ 27 ≤ z by omega) with rfl | z0
      · refine gx_tableIn (off := 1383) (tgt := 1427) hx dL_law_44 ⟨by decide, by decide⟩ (by decide) (by decide) rfl (by decide) ?_
        exact law_26 hx hh0 hX hnc hl hN hi3 hC hR (by omega) (by omega) kk
      rcases (show z = 27 ∨ 28 ≤ z by omega) with rfl | z0
      · refine gx_tableIn (off := 1427) (tgt := 1471) hx dL_law_44 ⟨by decide, by decide⟩ (by decide) (by decide) rfl (by decide) ?_
        exact law_27 hx hh0 hX hnc hl hN hi3 hC hR (by omega) (by omega) kk
      rcases (show z = 28 ∨ 29 ≤ z by omega) with rfl | z0
      · refine gx_tableIn (off := 1471) (tgt := 1515) hx dL_law_44 ⟨by decide, by decide⟩ (by decide) (by decide) rfl (by decide) ?_
        exact law_28 hx hh0 hX hnc hl hN hi3 hC hR (by omega) (by omega) kk
      rcases (show z = 29 ∨ 30 ≤ z by omega) with rfl | z0
      · refine gx_tableIn (off := 1536) (tgt := 1580) hx dL_law_44 ⟨by decide, by decide⟩ (by decide) (by decide) rfl (by decide) ?_
        exact law_29 hx hh0 hX hnc hl hN hi3 hC hR (by omega) (by omega) kk
      rcases (show z = 30 ∨ 31 ≤ z by omega) with rfl | z0
      · refine gx_tableIn (off := 1549) (tgt := 1593) hx dL_law_44 ⟨by decide, by decide⟩ (by decide) (by decide) rfl (by decide) ?_
        exact law_30 hx hh0 hX hnc hl hN hi3 hC hR (by omega) (by omega) kk
      rcases (show z = 31 ∨ 32 ≤ z by omega) with rfl | z0
      · refine gx_tableIn (off := 1605) (tgt := 1649) hx dL_law_44 ⟨by decide, by decide⟩ (by decide) (by decide) rfl (by decide) ?_
        exact law_31 hx hh0 hX hnc hl hN hi3 hC hR (by omega) (by omega) kk
      rcases (show z = 32 ∨ 33 ≤ z by omega) with rfl | z0
      · refine gx_tableIn (off := 1673) (tgt := 1717) hx dL_law_44 ⟨by decide, by decide⟩ (by decide) (by decide) rfl (by decide) ?_
        exact law_32 hx hh0 hX hnc hl hN hi3 hC hR (by omega) (by omega) kk
      rcases (show z = 33 ∨ 34 ≤ z by omega) with rfl | z0
      · refine gx_tableIn (off := 1741) (tgt := 1785) hx dL_law_44 ⟨by decide, by decide⟩ (by decide) (by decide) rfl (by decide) ?_
        exact law_33 hx hh0 hX hnc hl hN hi3 hC hR (by omega) (by omega) kk
      rcases (show z = 34 ∨ 35 ≤ z by omega) with rfl | z0
      · refine gx_tableIn (off := 1797) (tgt := 1841) hx dL_law_44 ⟨by decide, by decide⟩ (by decide) (by decide) rfl (by decide) ?_
        exact law_34 hx hh0 hX hnc hl hN hi3 hC hR (by omega) (by omega) kk
      rcases (show z = 35 ∨ 36 ≤ z by omega) with rfl | z0
      · refine gx_tableIn (off := 1853) (tgt := 1897) hx dL_law_44 ⟨by decide, by decide⟩ (by decide) (by decide) rfl (by decide) ?_
        exact law_35 hx hh0 hX hnc hl hN hi3 hC hR (by omega) (by omega) kk
      rcases (show z = 36 ∨ 37 ≤ z by omega) with rfl | z0
      · refine gx_tableIn (off := 1866) (tgt := 1910) hx dL_law_44 ⟨by decide, by decide⟩ (by decide) (by decide) rfl (by decide) ?_
        exact law_36 hx hh0 hX hnc hl hN hi3 hC hR (by omega) (by omega) kk
      rcases (show z = 37 ∨ 38 ≤ z by omega) with rfl | z0
      · refine gx_tableIn (off := 1922) (tgt := 1966) hx dL_law_44 ⟨by decide, by decide⟩ (by decide) (by decide) rfl (by decide) ?_
        exact law_37 hx hh0 hX hnc hl hN hi3 hC hR (by omega) (by omega) kk
      rcases (show z = 38 ∨ 39 ≤ z by omega) with rfl | z0
      · refine gx_tableIn (off := 1966) (tgt := 2010) hx dL_law_44 ⟨by decide, by decide⟩ (by decide) (by decide) rfl (by decide) ?_
        exact law_38 hx hh0 hX hnc hl hN hi3 hC hR (by omega) (by omega) kk
      rcases (show z = 39 ∨ 40 ≤ z by omega) with rfl | z0
      · refine gx_tableIn (off := 1979) (tgt := 2023) hx dL_law_44 ⟨by decide, by decide⟩ (by decide) (by decide) rfl (by decide) ?_
        exact law_39 hx hh0 hX hnc hl hN hi3 hC hR (by omega) (by omega) kk
      refine gx_tableOut (tgt := 2067) hx dL_law_44 ⟨by omega, by omega⟩ (by omega) (by decide) ?_
      exact GJ.widen (by omega) (by omega) (kk _ _ hC hR)
