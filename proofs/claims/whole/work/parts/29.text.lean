/-! nameOf; ItemText -/
set_option maxRecDepth 20000 in
/-- the name of a kind -/
theorem c_X8_nameOf (g : Gm) (l : Launch) {σ : Sg} {k : Nat} (hk : k < 8) : KR g l yX8_nameOf cX8_nameOf 1 (some (.object "java/lang/String")) 0 0 0 [.inl (k : Int)] σ (fun z σ' => z = 1000 + k ∧ σ = σ') := by
  refine startR (own := RX8) (by decide +kernel) rfl (Nat.le_of_ble_eq_true rfl) ?_
  intro X hx _ _ hret
  refine gx_iload_n hx dX8_nameOf_0 rfl ?_
  rcases (show k = 0 ∨ k = 1 ∨ k = 2 ∨ k = 3 ∨ k = 4 ∨ k = 5 ∨ k = 6 ∨ k = 7 by omega) with h | h | h | h | h | h | h | h
  · refine gx_tableIn (off := 47) (tgt := 48) hx dX8_nameOf_1 ⟨by omega, by omega⟩ (by omega) (by omega) (by rw [h]; rfl) (by decide) ?_
    refine gx_ldcw (i := 0) hx (by decide) rfl dX8_nameOf_48 ?_
    exact hret _ _ _ _ _ _ (by decide) (by decide) dX8_nameOf_51 ⟨by rw [h], rfl⟩
  · refine gx_tableIn (off := 51) (tgt := 52) hx dX8_nameOf_1 ⟨by omega, by omega⟩ (by omega) (by omega) (by rw [h]; rfl) (by decide) ?_
    refine gx_ldcw (i := 1) hx (by decide) rfl dX8_nameOf_52 ?_
    exact hret _ _ _ _ _ _ (by decide) (by decide) dX8_nameOf_55 ⟨by rw [h], rfl⟩
  · refine gx_tableIn (off := 55) (tgt := 56) hx dX8_nameOf_1 ⟨by omega, by omega⟩ (by omega) (by omega) (by rw [h]; rfl) (by decide) ?_
    refine gx_ldcw (i := 2) hx (by decide) rfl dX8_nameOf_56 ?_
    exact hret _ _ _ _ _ _ (by decide) (by decide) dX8_nameOf_59 ⟨by rw [h], rfl⟩
  · refine gx_tableIn (off := 59) (tgt := 60) hx dX8_nameOf_1 ⟨by omega, by omega⟩ (by omega) (by omega) (by rw [h]; rfl) (by decide) ?_
    refine gx_ldcw (i := 3) hx (by decide) rfl dX8_nameOf_60 ?_
    exact hret _ _ _ _ _ _ (by decide) (by decide) dX8_nameOf_63 ⟨by rw [h], rfl⟩
  · refine gx_tableIn (off := 63) (tgt := 64) hx dX8_nameOf_1 ⟨by omega, by omega⟩ (by omega) (by omega) (by rw [h]; rfl) (by decide) ?_
    refine gx_ldcw (i := 4) hx (by decide) rfl dX8_nameOf_64 ?_
    exact hret _ _ _ _ _ _ (by decide) (by decide) dX8_nameOf_67 ⟨by rw [h], rfl⟩
  · refine gx_tableIn (off := 67) (tgt := 68) hx dX8_nameOf_1 ⟨by omega, by omega⟩ (by omega) (by omega) (by rw [h]; rfl) (by decide) ?_
    refine gx_ldcw (i := 5) hx (by decide) rfl dX8_nameOf_68 ?_
    exact hret _ _ _ _ _ _ (by decide) (by decide) dX8_nameOf_71 ⟨by rw [h], rfl⟩
  · refine gx_tableIn (off := 71) (tgt := 72) hx dX8_nameOf_1 ⟨by omega, by omega⟩ (by omega) (by omega) (by rw [h]; rfl) (by decide) ?_
    refine gx_ldcw (i := 6) hx (by decide) rfl dX8_nameOf_72 ?_
    exact hret _ _ _ _ _ _ (by decide) (by decide) dX8_nameOf_75 ⟨by rw [h], rfl⟩
  · refine gx_tableIn (off := 75) (tgt := 76) hx dX8_nameOf_1 ⟨by omega, by omega⟩ (by omega) (by omega) (by rw [h]; rfl) (by decide) ?_
    refine gx_ldcw (i := 7) hx (by decide) rfl dX8_nameOf_76 ?_
    exact hret _ _ _ _ _ _ (by decide) (by decide) dX8_nameOf_79 ⟨by rw [h], rfl⟩
set_option maxRecDepth 20000 in
set_option maxHeartbeats 400000 in
theorem c_X3_isFull (g : Gm) (l : Launch) {σ : Sg} {T : List Nat} (hT : TR σ T) : KI g l yX3_isFull cX3_isFull 1 ((some .boolean)) (0) 0 0 [.inr 50] σ (fun z σ' => z = (if T.length = 12 then 1 else 0) ∧ σ = σ') := by
  refine startI (own := RX3) (by decide +kernel) rfl (Nat.le_of_ble_eq_true rfl) ?_
  intro X hx _ _ hret
  obtain ⟨hl, h1, h2⟩ := id hT
  refine gx_aload_n hx dX3_isFull_0 rfl ?_
  refine gx_getI hx flX3_15 dX3_isFull_1 (by decide) rfl rfl 1 rfl ?_
  refine gx_bipush hx dX3_isFull_4 (by decide) ?_
  refine gx_icmp_lt (tgt := 13) hx dX3_isFull_6 (by decide) ⟨by omega, by omega⟩ ⟨by omega, by omega⟩ (fun h6 => ?_) (fun h6 => ?_)
  · first
    | (exfalso; omega)
    | (refine gx_iconst hx dX3_isFull_13 ?_
       refine hret _ _ _ _ _ _ _ (by decide) (by decide) dX3_isFull_14 rfl rfl ?_
       exact ⟨by first | rw [if_pos (by omega)] | rw [if_neg (by omega)], rfl⟩)
  · first
    | (exfalso; omega)
    | (refine gx_iconst hx dX3_isFull_9 ?_
       refine gx_goto (tgt := 14) hx dX3_isFull_10 (by decide) ?_
       refine hret _ _ _ _ _ _ _ (by decide) (by decide) dX3_isFull_14 rfl rfl ?_
       exact ⟨by first | rw [if_pos (by omega)] | rw [if_neg (by omega)], rfl⟩)
set_option maxRecDepth 20000 in
set_option maxHeartbeats 400000 in
theorem c_X3_add (g : Gm) (l : Launch) {σ : Sg} {T : List Nat} {c : Nat} (hT : TR σ T) (hn : T.length < 12) (hc : 32 ≤ c ∧ c ≤ 126) : KI g l yX3_add cX3_add 2 ((some .int)) (1) 0 0 [.inr 50, .inl (c : Int)] σ (fun z σ' => z = (T.length : Int) + 1 ∧ TR σ' (T ++ [c]) ∧ SO σ σ' 50 51) := by
  refine startI (own := RX3) (by decide +kernel) rfl (Nat.le_of_ble_eq_true rfl) ?_
  intro X hx _ _ hret
  obtain ⟨hl, h1, h2⟩ := id hT
  refine gx_aload_n hx dX3_add_0 rfl ?_
  refine gx_callI hx (c_X3_isFull _ _ hT) lkX3_28 mwX3_isFull dX3_add_1 (by decide) rfl rfl rfl rfl (Nat.le_of_ble_eq_true rfl) (by decide) ⟨by decide, by decide⟩ (fun z_1 σ_1 hz_1 => ?_)
  obtain ⟨e9, rfl⟩ := hz_1
  rw [if_neg (by omega)] at e9
  subst e9
  refine gx_if_ne (tgt := 27) hx dX3_add_4 (by decide) ⟨by omega, by omega⟩ (fun h4 => ?_) (fun h4 => ?_)
  · first
    | (exfalso; omega)
    | (refine gx_aload_n hx dX3_add_27 rfl ?_
       refine gx_getI hx flX3_15 dX3_add_28 (by decide) rfl rfl 1 rfl ?_
       
       refine hret _ _ _ _ _ _ _ (by decide) (by decide) dX3_add_31 rfl rfl ?_
       rw [upd2_at, upd2_ne (by omega), h1]
       refine ⟨rfl, ⟨by simp; omega, ?_, fun i hi => ?_⟩, SO.trans (SO.upd (by decide) (by decide)) (SO.upd (by decide) (by decide))⟩
       · rw [upd2_at]; simp
       · rw [upd2_ne (by omega)]
         simp only [List.length_append, List.length_cons, List.length_nil] at hi
         by_cases e : i = T.length
         · subst e
           rw [upd2_at]
           have e8 : ch (T ++ [c]) T.length = c := by unfold ch; rw [List.getD_eq_getElem?_getD, List.getElem?_append_right (Nat.le_refl _)]; simp
           rw [e8]
           exact ⟨rfl, hc⟩
         · rw [upd2_ne (by omega)]
           have e8 : ch (T ++ [c]) i = ch T i := by unfold ch; rw [List.getD_eq_getElem?_getD, List.getD_eq_getElem?_getD, List.getElem?_append_left (by omega)]
           rw [e8]
           exact h2 i (by omega))
  · first
    | (exfalso; omega)
    | (refine gx_aload_n hx dX3_add_7 rfl ?_
       refine gx_getR hx flX3_9 dX3_add_8 (by decide) rfl rfl ?_
       refine gx_aload_n hx dX3_add_11 rfl ?_
       refine gx_getI hx flX3_15 dX3_add_12 (by decide) rfl rfl 1 rfl ?_
       refine gx_iload_n hx dX3_add_15 rfl ?_
       refine gx_cast hx dX3_add_16 (by decide) rfl (by omega) (by omega) (by decide) (vp_nar_c c (by omega)) ?_
       refine gx_aload_n hx dX3_add_17 rfl ?_
       refine gx_dup hx dX3_add_18 ?_
       refine gx_getI hx flX3_15 dX3_add_19 (by decide) rfl rfl 1 rfl ?_
       refine gx_iconst hx dX3_add_22 ?_
       refine gx_iadd hx dX3_add_23 ?_
       refine gx_put hx fpX3_15 dX3_add_24 (by decide) rfl rfl rfl rfl 1 rfl ?_
       refine gx_aload_n hx dX3_add_27 rfl ?_
       refine gx_getI hx flX3_15 dX3_add_28 (by decide) rfl rfl 1 rfl ?_
       
       refine hret _ _ _ _ _ _ _ (by decide) (by decide) dX3_add_31 rfl rfl ?_
       rw [upd2_at, upd2_ne (by omega), h1]
       refine ⟨rfl, ⟨by simp; omega, ?_, fun i hi => ?_⟩, SO.trans (SO.upd (by decide) (by decide)) (SO.upd (by decide) (by decide))⟩
       · rw [upd2_at]; simp
       · rw [upd2_ne (by omega)]
         simp only [List.length_append, List.length_cons, List.length_nil] at hi
         by_cases e : i = T.length
         · subst e
           rw [upd2_at]
           have e8 : ch (T ++ [c]) T.length = c := by unfold ch; rw [List.getD_eq_getElem?_getD, List.getElem?_append_right (Nat.le_refl _)]; simp
           rw [e8]
           exact ⟨rfl, hc⟩
         · rw [upd2_ne (by omega)]
           have e8 : ch (T ++ [c]) i = ch T i := by unfold ch; rw [List.getD_eq_getElem?_getD, List.getD_eq_getElem?_getD, List.getElem?_append_left (by omega)]
           rw [e8]
           exact h2 i (by omega))
set_option maxRecDepth 20000 in
theorem c_X3_leastLength (g : Gm) (l : Launch) {σ : Sg} {k : Nat} (hk : k < 8) : KI g l yX3_leastLength cX3_leastLength 2 (some .int) 2 0 0 [.inl (k : Int)] σ (fun z σ' => z = (lL k : Int) ∧ σ = σ') := by
  refine startI (own := RX3) (by decide +kernel) rfl (Nat.le_of_ble_eq_true rfl) ?_
  intro X hx _ _ hret
  refine gx_iload_n hx dX3_leastLength_0 rfl ?_
  refine gx_callNR hx (c_X8_nameOf _ _ hk) (List.mem_of_getElem? (i := 6) rfl) mwX8_nameOf dX3_leastLength_1 rfl rfl (Nat.le_of_ble_eq_true rfl) (by decide) ⟨by decide, by decide⟩ (fun z σ' hz => ?_)
  obtain ⟨rfl, rfl⟩ := hz
  refine gx_callT hx (i := k) (by omega) (c_J0_length_8abf5 _ _ (by omega)) lkX3_49 mwJ0_length_8abf5 dX3_leastLength_4 rfl rfl (Nat.le_of_ble_eq_true rfl) (by decide) ⟨by decide, by decide⟩ (fun z σ' hz => ?_)
  obtain ⟨rfl, rfl⟩ := hz
  refine gx_istore_n hx dX3_leastLength_7 (Nat.le_of_ble_eq_true rfl) ?_
  refine gx_iload_n hx dX3_leastLength_8 rfl ?_
  refine gx_bipush hx dX3_leastLength_9 (by decide) ?_
  refine gx_icmp_ne (tgt := 18) hx dX3_leastLength_11 (by decide) ⟨by omega, by omega⟩ ⟨by omega, by omega⟩ (fun h => ?_) (fun h => ?_)
  · refine gx_iload_n hx dX3_leastLength_18 rfl ?_
    refine gx_iconst hx dX3_leastLength_19 ?_
    refine gx_iadd hx dX3_leastLength_20 ?_
    exact hret _ _ _ _ _ _ _ (by decide) (by decide) dX3_leastLength_21 rfl rfl ⟨by unfold lL; rw [if_neg (by omega)]; omega, rfl⟩
  · refine gx_iload_n hx dX3_leastLength_14 rfl ?_
    refine gx_goto (tgt := 21) hx dX3_leastLength_15 (by decide) ?_
    exact hret _ _ _ _ _ _ _ (by decide) (by decide) dX3_leastLength_21 rfl rfl ⟨by unfold lL; rw [if_pos (by omega)], rfl⟩
set_option maxRecDepth 20000 in
set_option maxHeartbeats 400000 in
theorem c_X3_matchedBy (g : Gm) (l : Launch) {σ : Sg} {T : List Nat} {k : Nat} (hT : TR σ T) (hk : k < 8) : KI g l yX3_matchedBy cX3_matchedBy 5 ((some .int)) (4) 0 0 [.inr 50, .inl (k : Int)] σ (fun z σ' => z = (mt T k : Int) ∧ σ = σ') := by
  refine startI (own := RX3) (by decide +kernel) rfl (Nat.le_of_ble_eq_true rfl) ?_
  intro X hx _ _ hret
  obtain ⟨hl, h1, h2⟩ := id hT
  have hn1 := nm_le k (by omega)
  have hn2 := nm_ge k hk
  have hpl := pm_le T k
  refine gx_iload_n hx dX3_matchedBy_0 rfl ?_
  refine gx_callNR hx (c_X8_nameOf _ _ hk) (List.mem_of_getElem? (i := 6) rfl) mwX8_nameOf dX3_matchedBy_1 rfl rfl (Nat.le_of_ble_eq_true rfl) (by decide) ⟨by decide, by decide⟩ (fun z_1 σ_1 hz_1 => ?_)
  obtain ⟨rfl, rfl⟩ := hz_1
  refine gx_astore_n hx dX3_matchedBy_4 (Nat.le_of_ble_eq_true rfl) ?_
  refine gx_iconst hx dX3_matchedBy_5 ?_
  refine gx_istore_n hx dX3_matchedBy_6 (Nat.le_of_ble_eq_true rfl) ?_
  refine gx_loop (α := Nat) (fun n => n ≤ T.length ∧ n ≤ nmL k ∧ pm T k = pmF T k (20 - n) n) (fun n => 20 - n) (fun n => [some (.inr 50), some (.inl (k : Int)), some (.inr (1000 + k)), some (.inl (n : Int)), none]) (fun _ => []) (fun _ => σ) ?_ 0 ⟨Nat.zero_le _, Nat.zero_le _, rfl⟩
  rintro n ⟨hn3, hn4, hpm⟩ ih
  refine gx_iload_n hx dX3_matchedBy_7 rfl ?_
  refine gx_aload_n hx dX3_matchedBy_8 rfl ?_
  refine gx_getI hx flX3_15 dX3_matchedBy_9 (by decide) rfl rfl 1 rfl ?_
  refine gx_icmp_ge (tgt := 43) hx dX3_matchedBy_12 (by decide) ⟨by omega, by omega⟩ ⟨by omega, by omega⟩ (fun h12 => ?_) (fun h12 => ?_)
  · first
    | (exfalso; omega)
    | (have hst : pm T k = n := by
         rw [hpm]
         exact pmF_stop (by omega)
       have hmt : mt T k = if n < nmL k ∨ k = 7 ∨ T.length ≤ n ∨ ch T n ≠ 32 then n else dgF T (eNd T k) 20 (n + 1) := by
         unfold mt
         rw [hst]
       refine gx_iload_n hx dX3_matchedBy_43 rfl ?_
       refine gx_aload_n hx dX3_matchedBy_44 rfl ?_
       refine gx_callT hx (i := k) (by omega) (c_J0_length_8abf5 (i := k) _ _ (by omega)) lkX3_49 mwJ0_length_8abf5 dX3_matchedBy_45 rfl rfl (Nat.le_of_ble_eq_true rfl) (by decide) ⟨by decide, by decide⟩ (fun z_45 σ_45 hz_45 => ?_)
       obtain ⟨rfl, rfl⟩ := hz_45
       refine gx_icmp_lt (tgt := 76) hx dX3_matchedBy_48 (by decide) ⟨by omega, by omega⟩ ⟨by omega, by omega⟩ (fun h48 => ?_) (fun h48 => ?_)
       · first
         | (exfalso; omega)
         | (refine gx_iload_n hx dX3_matchedBy_76 rfl ?_
            refine hret _ _ _ _ _ _ _ (by decide) (by decide) dX3_matchedBy_77 rfl rfl ?_
            exact ⟨by rw [hmt, if_pos (by omega)], rfl⟩)
       · first
         | (exfalso; omega)
         | (refine gx_iload_n hx dX3_matchedBy_51 rfl ?_
            refine gx_bipush hx dX3_matchedBy_52 (by decide) ?_
            refine gx_icmp_eq (tgt := 76) hx dX3_matchedBy_54 (by decide) ⟨by omega, by omega⟩ ⟨by omega, by omega⟩ (fun h54 => ?_) (fun h54 => ?_)
            · first
              | (exfalso; omega)
              | (refine gx_iload_n hx dX3_matchedBy_76 rfl ?_
                 refine hret _ _ _ _ _ _ _ (by decide) (by decide) dX3_matchedBy_77 rfl rfl ?_
                 exact ⟨by rw [hmt, if_pos (by omega)], rfl⟩)
            · first
              | (exfalso; omega)
              | (refine gx_iload_n hx dX3_matchedBy_57 rfl ?_
                 refine gx_aload_n hx dX3_matchedBy_58 rfl ?_
                 refine gx_getI hx flX3_15 dX3_matchedBy_59 (by decide) rfl rfl 1 rfl ?_
                 refine gx_icmp_ge (tgt := 76) hx dX3_matchedBy_62 (by decide) ⟨by omega, by omega⟩ ⟨by omega, by omega⟩ (fun h62 => ?_) (fun h62 => ?_)
                 · first
                   | (exfalso; omega)
                   | (refine gx_iload_n hx dX3_matchedBy_76 rfl ?_
                      refine hret _ _ _ _ _ _ _ (by decide) (by decide) dX3_matchedBy_77 rfl rfl ?_
                      exact ⟨by rw [hmt, if_pos (by omega)], rfl⟩)
                 · first
                   | (exfalso; omega)
                   | (refine gx_aload_n hx dX3_matchedBy_65 rfl ?_
                      refine gx_getR hx flX3_9 dX3_matchedBy_66 (by decide) rfl rfl ?_
                      refine gx_iload_n hx dX3_matchedBy_69 rfl ?_
                      have hcn := h2 n (by omega)
                      refine gx_cald hx dX3_matchedBy_70 (by decide) rfl (by omega) (by omega) (by decide) ?_
                      refine gx_bipush hx dX3_matchedBy_71 (by decide) ?_
                      refine gx_icmp_eq (tgt := 78) hx dX3_matchedBy_73 (by decide) ⟨by omega, by omega⟩ ⟨by omega, by omega⟩ (fun h73 => ?_) (fun h73 => ?_)
                      · first
                        | (exfalso; omega)
                        | (refine gx_iinc hx dX3_matchedBy_78 (Nat.le_of_ble_eq_true rfl) rfl ?_
                           refine gx_aload_n hx dX3_matchedBy_81 rfl ?_
                           refine gx_getI hx flX3_15 dX3_matchedBy_82 (by decide) rfl rfl 1 rfl ?_
                           refine gx_aload_n hx dX3_matchedBy_85 rfl ?_
                           refine gx_callT hx (i := k) (by omega) (c_J0_length_8abf5 (i := k) _ _ (by omega)) lkX3_49 mwJ0_length_8abf5 dX3_matchedBy_86 rfl rfl (Nat.le_of_ble_eq_true rfl) (by decide) ⟨by decide, by decide⟩ (fun z_86 σ_86 hz_86 => ?_)
                           obtain ⟨rfl, rfl⟩ := hz_86
                           refine gx_iconst hx dX3_matchedBy_89 ?_
                           refine gx_iadd hx dX3_matchedBy_90 ?_
                           refine gx_min hx wMinX3 wMin1 wMax2 wMin3 dX3_matchedBy_91 ⟨by omega, by omega⟩ ⟨by omega, by omega⟩ (Nat.le_of_ble_eq_true rfl) (by decide) (by decide) ?_
                           rw [show (if (nmL k : Int) + 3 < σ 50 1 then (nmL k : Int) + 3 else σ 50 1) = (eNd T k : Int) by
                             unfold eNd
                             rw [h1]
                             split <;> split <;> omega]
                           have henl : eNd T k ≤ T.length := by unfold eNd; split <;> omega
                           refine gx_istore hx dX3_matchedBy_94 (Nat.le_of_ble_eq_true rfl) ?_
                           have hen : n + 1 ≤ eNd T k := by unfold eNd; split <;> omega
                           refine GJ.cong (L' := [some (.inr 50), some (.inl (k : Int)), some (.inr (1000 + k)), some (.inl ((n + 1 : Nat) : Int)), some (.inl (eNd T k : Int))]) (st' := []) rfl rfl rfl ?_
                           refine gx_loop (α := Nat) (fun q => n + 1 ≤ q ∧ q ≤ eNd T k ∧ dgF T (eNd T k) 20 (n + 1) = dgF T (eNd T k) (20 - (q - (n + 1))) q) (fun q => 20 - q) (fun q => [some (.inr 50), some (.inl (k : Int)), some (.inr (1000 + k)), some (.inl (q : Int)), some (.inl (eNd T k : Int))]) (fun _ => []) (fun _ => σ) ?_ (n + 1) ⟨Nat.le_refl _, hen, by rw [Nat.sub_self]⟩
                           rintro q ⟨hq1, hq2, hdg⟩ ih2
                           refine gx_iload_n hx dX3_matchedBy_96 rfl ?_
                           refine gx_iload hx dX3_matchedBy_97 rfl ?_
                           refine gx_icmp_ge (tgt := 130) hx dX3_matchedBy_99 (by decide) ⟨by omega, by omega⟩ ⟨by omega, by omega⟩ (fun h99 => ?_) (fun h99 => ?_)
                           · first
                             | (exfalso; omega)
                             | (refine gx_iload_n hx dX3_matchedBy_130 rfl ?_
                                refine hret _ _ _ _ _ _ _ (by decide) (by decide) dX3_matchedBy_131 rfl rfl ?_
                                exact ⟨by rw [hmt, if_neg (by omega), hdg, dgF_stop (by omega)], rfl⟩)
                           · first
                             | (exfalso; omega)
                             | (refine gx_aload_n hx dX3_matchedBy_102 rfl ?_
                                refine gx_getR hx flX3_9 dX3_matchedBy_103 (by decide) rfl rfl ?_
                                refine gx_iload_n hx dX3_matchedBy_106 rfl ?_
                                have hcd := h2 q (by omega)
                                refine gx_cald hx dX3_matchedBy_107 (by decide) rfl (by omega) (by omega) (by decide) ?_
                                refine gx_bipush hx dX3_matchedBy_108 (by decide) ?_
                                refine gx_icmp_lt (tgt := 130) hx dX3_matchedBy_110 (by decide) ⟨by omega, by omega⟩ ⟨by omega, by omega⟩ (fun h110 => ?_) (fun h110 => ?_)
                                · first
                                  | (exfalso; omega)
                                  | (refine gx_iload_n hx dX3_matchedBy_130 rfl ?_
                                     refine hret _ _ _ _ _ _ _ (by decide) (by decide) dX3_matchedBy_131 rfl rfl ?_
                                     exact ⟨by rw [hmt, if_neg (by omega), hdg, dgF_stop (by omega)], rfl⟩)
                                · first
                                  | (exfalso; omega)
                                  | (refine gx_aload_n hx dX3_matchedBy_113 rfl ?_
                                     refine gx_getR hx flX3_9 dX3_matchedBy_114 (by decide) rfl rfl ?_
                                     refine gx_iload_n hx dX3_matchedBy_117 rfl ?_
                                     
                                     refine gx_cald hx dX3_matchedBy_118 (by decide) rfl (by omega) (by omega) (by decide) ?_
                                     refine gx_bipush hx dX3_matchedBy_119 (by decide) ?_
                                     refine gx_icmp_gt (tgt := 130) hx dX3_matchedBy_121 (by decide) ⟨by omega, by omega⟩ ⟨by omega, by omega⟩ (fun h121 => ?_) (fun h121 => ?_)
                                     · first
                                       | (exfalso; omega)
                                       | (refine gx_iload_n hx dX3_matchedBy_130 rfl ?_
                                          refine hret _ _ _ _ _ _ _ (by decide) (by decide) dX3_matchedBy_131 rfl rfl ?_
                                          exact ⟨by rw [hmt, if_neg (by omega), hdg, dgF_stop (by omega)], rfl⟩)
                                     · first
                                       | (exfalso; omega)
                                       | (refine gx_iinc hx dX3_matchedBy_124 (Nat.le_of_ble_eq_true rfl) rfl ?_
                                          refine gx_goto (tgt := 96) hx dX3_matchedBy_127 (by decide) ?_
                                          refine ih2 (q + 1) ⟨by omega, by omega, ?_⟩ (by omega)
                                          rw [hdg, show 20 - (q - (n + 1)) = (20 - (q + 1 - (n + 1))) + 1 by omega, dgF_step (by omega)]))))
                      · first
                        | (exfalso; omega)
                        | (refine gx_iload_n hx dX3_matchedBy_76 rfl ?_
                           refine hret _ _ _ _ _ _ _ (by decide) (by decide) dX3_matchedBy_77 rfl rfl ?_
                           exact ⟨by rw [hmt, if_pos (by omega)], rfl⟩)))))
  · first
    | (exfalso; omega)
    | (refine gx_iload_n hx dX3_matchedBy_15 rfl ?_
       refine gx_aload_n hx dX3_matchedBy_16 rfl ?_
       refine gx_callT hx (i := k) (by omega) (c_J0_length_8abf5 (i := k) _ _ (by omega)) lkX3_49 mwJ0_length_8abf5 dX3_matchedBy_17 rfl rfl (Nat.le_of_ble_eq_true rfl) (by decide) ⟨by decide, by decide⟩ (fun z_17 σ_17 hz_17 => ?_)
       obtain ⟨rfl, rfl⟩ := hz_17
       refine gx_icmp_ge (tgt := 43) hx dX3_matchedBy_20 (by decide) ⟨by omega, by omega⟩ ⟨by omega, by omega⟩ (fun h20 => ?_) (fun h20 => ?_)
       · first
         | (exfalso; omega)
         | (have hst : pm T k = n := by
              rw [hpm]
              exact pmF_stop (by omega)
            have hmt : mt T k = if n < nmL k ∨ k = 7 ∨ T.length ≤ n ∨ ch T n ≠ 32 then n else dgF T (eNd T k) 20 (n + 1) := by
              unfold mt
              rw [hst]
            refine gx_iload_n hx dX3_matchedBy_43 rfl ?_
            refine gx_aload_n hx dX3_matchedBy_44 rfl ?_
            refine gx_callT hx (i := k) (by omega) (c_J0_length_8abf5 (i := k) _ _ (by omega)) lkX3_49 mwJ0_length_8abf5 dX3_matchedBy_45 rfl rfl (Nat.le_of_ble_eq_true rfl) (by decide) ⟨by decide, by decide⟩ (fun z_45 σ_45 hz_45 => ?_)
            obtain ⟨rfl, rfl⟩ := hz_45
            refine gx_icmp_lt (tgt := 76) hx dX3_matchedBy_48 (by decide) ⟨by omega, by omega⟩ ⟨by omega, by omega⟩ (fun h48 => ?_) (fun h48 => ?_)
            · first
              | (exfalso; omega)
              | (refine gx_iload_n hx dX3_matchedBy_76 rfl ?_
                 refine hret _ _ _ _ _ _ _ (by decide) (by decide) dX3_matchedBy_77 rfl rfl ?_
                 exact ⟨by rw [hmt, if_pos (by omega)], rfl⟩)
            · first
              | (exfalso; omega)
              | (refine gx_iload_n hx dX3_matchedBy_51 rfl ?_
                 refine gx_bipush hx dX3_matchedBy_52 (by decide) ?_
                 refine gx_icmp_eq (tgt := 76) hx dX3_matchedBy_54 (by decide) ⟨by omega, by omega⟩ ⟨by omega, by omega⟩ (fun h54 => ?_) (fun h54 => ?_)
                 · first
                   | (exfalso; omega)
                   | (refine gx_iload_n hx dX3_matchedBy_76 rfl ?_
                      refine hret _ _ _ _ _ _ _ (by decide) (by decide) dX3_matchedBy_77 rfl rfl ?_
                      exact ⟨by rw [hmt, if_pos (by omega)], rfl⟩)
                 · first
                   | (exfalso; omega)
                   | (refine gx_iload_n hx dX3_matchedBy_57 rfl ?_
                      refine gx_aload_n hx dX3_matchedBy_58 rfl ?_
                      refine gx_getI hx flX3_15 dX3_matchedBy_59 (by decide) rfl rfl 1 rfl ?_
                      refine gx_icmp_ge (tgt := 76) hx dX3_matchedBy_62 (by decide) ⟨by omega, by omega⟩ ⟨by omega, by omega⟩ (fun h62 => ?_) (fun h62 => ?_)
                      · first
                        | (exfalso; omega)
                        | (refine gx_iload_n hx dX3_matchedBy_76 rfl ?_
                           refine hret _ _ _ _ _ _ _ (by decide) (by decide) dX3_matchedBy_77 rfl rfl ?_
                           exact ⟨by rw [hmt, if_pos (by omega)], rfl⟩)
                      · first
                        | (exfalso; omega)
                        | (refine gx_aload_n hx dX3_matchedBy_65 rfl ?_
                           refine gx_getR hx flX3_9 dX3_matchedBy_66 (by decide) rfl rfl ?_
                           refine gx_iload_n hx dX3_matchedBy_69 rfl ?_
                           have hcn := h2 n (by omega)
                           refine gx_cald hx dX3_matchedBy_70 (by decide) rfl (by omega) (by omega) (by decide) ?_
                           refine gx_bipush hx dX3_matchedBy_71 (by decide) ?_
                           refine gx_icmp_eq (tgt := 78) hx dX3_matchedBy_73 (by decide) ⟨by omega, by omega⟩ ⟨by omega, by omega⟩ (fun h73 => ?_) (fun h73 => ?_)
                           · first
                             | (exfalso; omega)
                             | (refine gx_iinc hx dX3_matchedBy_78 (Nat.le_of_ble_eq_true rfl) rfl ?_
                                refine gx_aload_n hx dX3_matchedBy_81 rfl ?_
                                refine gx_getI hx flX3_15 dX3_matchedBy_82 (by decide) rfl rfl 1 rfl ?_
                                refine gx_aload_n hx dX3_matchedBy_85 rfl ?_
                                refine gx_callT hx (i := k) (by omega) (c_J0_length_8abf5 (i := k) _ _ (by omega)) lkX3_49 mwJ0_length_8abf5 dX3_matchedBy_86 rfl rfl (Nat.le_of_ble_eq_true rfl) (by decide) ⟨by decide, by decide⟩ (fun z_86 σ_86 hz_86 => ?_)
                                obtain ⟨rfl, rfl⟩ := hz_86
                                refine gx_iconst hx dX3_matchedBy_89 ?_
                                refine gx_iadd hx dX3_matchedBy_90 ?_
                                refine gx_min hx wMinX3 wMin1 wMax2 wMin3 dX3_matchedBy_91 ⟨by omega, by omega⟩ ⟨by omega, by omega⟩ (Nat.le_of_ble_eq_true rfl) (by decide) (by decide) ?_
                                rw [show (if (nmL k : Int) + 3 < σ 50 1 then (nmL k : Int) + 3 else σ 50 1) = (eNd T k : Int) by
                                  unfold eNd
                                  rw [h1]
                                  split <;> split <;> omega]
                                have henl : eNd T k ≤ T.length := by unfold eNd; split <;> omega
                                refine gx_istore hx dX3_matchedBy_94 (Nat.le_of_ble_eq_true rfl) ?_
                                have hen : n + 1 ≤ eNd T k := by unfold eNd; split <;> omega
                                refine GJ.cong (L' := [some (.inr 50), some (.inl (k : Int)), some (.inr (1000 + k)), some (.inl ((n + 1 : Nat) : Int)), some (.inl (eNd T k : Int))]) (st' := []) rfl rfl rfl ?_
                                refine gx_loop (α := Nat) (fun q => n + 1 ≤ q ∧ q ≤ eNd T k ∧ dgF T (eNd T k) 20 (n + 1) = dgF T (eNd T k) (20 - (q - (n + 1))) q) (fun q => 20 - q) (fun q => [some (.inr 50), some (.inl (k : Int)), some (.inr (1000 + k)), some (.inl (q : Int)), some (.inl (eNd T k : Int))]) (fun _ => []) (fun _ => σ) ?_ (n + 1) ⟨Nat.le_refl _, hen, by rw [Nat.sub_self]⟩
                                rintro q ⟨hq1, hq2, hdg⟩ ih2
                                refine gx_iload_n hx dX3_matchedBy_96 rfl ?_
                                refine gx_iload hx dX3_matchedBy_97 rfl ?_
                                refine gx_icmp_ge (tgt := 130) hx dX3_matchedBy_99 (by decide) ⟨by omega, by omega⟩ ⟨by omega, by omega⟩ (fun h99 => ?_) (fun h99 => ?_)
                                · first
                                  | (exfalso; omega)
                                  | (refine gx_iload_n hx dX3_matchedBy_130 rfl ?_
                                     refine hret _ _ _ _ _ _ _ (by decide) (by decide) dX3_matchedBy_131 rfl rfl ?_
                                     exact ⟨by rw [hmt, if_neg (by omega), hdg, dgF_stop (by omega)], rfl⟩)
                                · first
                                  | (exfalso; omega)
                                  | (refine gx_aload_n hx dX3_matchedBy_102 rfl ?_
                                     refine gx_getR hx flX3_9 dX3_matchedBy_103 (by decide) rfl rfl ?_
                                     refine gx_iload_n hx dX3_matchedBy_106 rfl ?_
                                     have hcd := h2 q (by omega)
                                     refine gx_cald hx dX3_matchedBy_107 (by decide) rfl (by omega) (by omega) (by decide) ?_
                                     refine gx_bipush hx dX3_matchedBy_108 (by decide) ?_
                                     refine gx_icmp_lt (tgt := 130) hx dX3_matchedBy_110 (by decide) ⟨by omega, by omega⟩ ⟨by omega, by omega⟩ (fun h110 => ?_) (fun h110 => ?_)
                                     · first
                                       | (exfalso; omega)
                                       | (refine gx_iload_n hx dX3_matchedBy_130 rfl ?_
                                          refine hret _ _ _ _ _ _ _ (by decide) (by decide) dX3_matchedBy_131 rfl rfl ?_
                                          exact ⟨by rw [hmt, if_neg (by omega), hdg, dgF_stop (by omega)], rfl⟩)
                                     · first
                                       | (exfalso; omega)
                                       | (refine gx_aload_n hx dX3_matchedBy_113 rfl ?_
                                          refine gx_getR hx flX3_9 dX3_matchedBy_114 (by decide) rfl rfl ?_
                                          refine gx_iload_n hx dX3_matchedBy_117 rfl ?_
                                          
                                          refine gx_cald hx dX3_matchedBy_118 (by decide) rfl (by omega) (by omega) (by decide) ?_
                                          refine gx_bipush hx dX3_matchedBy_119 (by decide) ?_
                                          refine gx_icmp_gt (tgt := 130) hx dX3_matchedBy_121 (by decide) ⟨by omega, by omega⟩ ⟨by omega, by omega⟩ (fun h121 => ?_) (fun h121 => ?_)
                                          · first
                                            | (exfalso; omega)
                                            | (refine gx_iload_n hx dX3_matchedBy_130 rfl ?_
                                               refine hret _ _ _ _ _ _ _ (by decide) (by decide) dX3_matchedBy_131 rfl rfl ?_
                                               exact ⟨by rw [hmt, if_neg (by omega), hdg, dgF_stop (by omega)], rfl⟩)
                                          · first
                                            | (exfalso; omega)
                                            | (refine gx_iinc hx dX3_matchedBy_124 (Nat.le_of_ble_eq_true rfl) rfl ?_
                                               refine gx_goto (tgt := 96) hx dX3_matchedBy_127 (by decide) ?_
                                               refine ih2 (q + 1) ⟨by omega, by omega, ?_⟩ (by omega)
                                               rw [hdg, show 20 - (q - (n + 1)) = (20 - (q + 1 - (n + 1))) + 1 by omega, dgF_step (by omega)]))))
                           · first
                             | (exfalso; omega)
                             | (refine gx_iload_n hx dX3_matchedBy_76 rfl ?_
                                refine hret _ _ _ _ _ _ _ (by decide) (by decide) dX3_matchedBy_77 rfl rfl ?_
                                exact ⟨by rw [hmt, if_pos (by omega)], rfl⟩)))))
       · first
         | (exfalso; omega)
         | (refine gx_aload_n hx dX3_matchedBy_23 rfl ?_
            refine gx_getR hx flX3_9 dX3_matchedBy_24 (by decide) rfl rfl ?_
            refine gx_iload_n hx dX3_matchedBy_27 rfl ?_
            have hcn := h2 n (by omega)
            refine gx_cald hx dX3_matchedBy_28 (by decide) rfl (by omega) (by omega) (by decide) ?_
            refine gx_aload_n hx dX3_matchedBy_29 rfl ?_
            refine gx_iload_n hx dX3_matchedBy_30 rfl ?_
            refine gx_callT hx (i := k) (by omega) (c_J0_charAt_5068e (i := k) (j := n) _ _ (by omega) (by omega)) lkX3_57 mwJ0_charAt_5068e dX3_matchedBy_31 rfl rfl (Nat.le_of_ble_eq_true rfl) (by decide) ⟨by decide, by decide⟩ (fun z_31 σ_31 hz_31 => ?_)
            obtain ⟨rfl, rfl⟩ := hz_31
            obtain ⟨-, nc1, nc2⟩ := nm_byt k (by omega) n (by omega)
            refine gx_icmp_ne (tgt := 43) hx dX3_matchedBy_34 (by decide) ⟨by omega, by omega⟩ ⟨by omega, by omega⟩ (fun h34 => ?_) (fun h34 => ?_)
            · first
              | (exfalso; omega)
              | (have hst : pm T k = n := by
                   rw [hpm]
                   exact pmF_stop (by omega)
                 have hmt : mt T k = if n < nmL k ∨ k = 7 ∨ T.length ≤ n ∨ ch T n ≠ 32 then n else dgF T (eNd T k) 20 (n + 1) := by
                   unfold mt
                   rw [hst]
                 refine gx_iload_n hx dX3_matchedBy_43 rfl ?_
                 refine gx_aload_n hx dX3_matchedBy_44 rfl ?_
                 refine gx_callT hx (i := k) (by omega) (c_J0_length_8abf5 (i := k) _ _ (by omega)) lkX3_49 mwJ0_length_8abf5 dX3_matchedBy_45 rfl rfl (Nat.le_of_ble_eq_true rfl) (by decide) ⟨by decide, by decide⟩ (fun z_45 σ_45 hz_45 => ?_)
                 obtain ⟨rfl, rfl⟩ := hz_45
                 refine gx_icmp_lt (tgt := 76) hx dX3_matchedBy_48 (by decide) ⟨by omega, by omega⟩ ⟨by omega, by omega⟩ (fun h48 => ?_) (fun h48 => ?_)
                 · first
                   | (exfalso; omega)
                   | (refine gx_iload_n hx dX3_matchedBy_76 rfl ?_
                      refine hret _ _ _ _ _ _ _ (by decide) (by decide) dX3_matchedBy_77 rfl rfl ?_
                      exact ⟨by rw [hmt, if_pos (by omega)], rfl⟩)
                 · first
                   | (exfalso; omega)
                   | (refine gx_iload_n hx dX3_matchedBy_51 rfl ?_
                      refine gx_bipush hx dX3_matchedBy_52 (by decide) ?_
                      refine gx_icmp_eq (tgt := 76) hx dX3_matchedBy_54 (by decide) ⟨by omega, by omega⟩ ⟨by omega, by omega⟩ (fun h54 => ?_) (fun h54 => ?_)
                      · first
                        | (exfalso; omega)
                        | (refine gx_iload_n hx dX3_matchedBy_76 rfl ?_
                           refine hret _ _ _ _ _ _ _ (by decide) (by decide) dX3_matchedBy_77 rfl rfl ?_
                           exact ⟨by rw [hmt, if_pos (by omega)], rfl⟩)
                      · first
                        | (exfalso; omega)
                        | (refine gx_iload_n hx dX3_matchedBy_57 rfl ?_
                           refine gx_aload_n hx dX3_matchedBy_58 rfl ?_
                           refine gx_getI hx flX3_15 dX3_matchedBy_59 (by decide) rfl rfl 1 rfl ?_
                           refine gx_icmp_ge (tgt := 76) hx dX3_matchedBy_62 (by decide) ⟨by omega, by omega⟩ ⟨by omega, by omega⟩ (fun h62 => ?_) (fun h62 => ?_)
                           · first
                             | (exfalso; omega)
                             | (refine gx_iload_n hx dX3_matchedBy_76 rfl ?_
                                refine hret _ _ _ _ _ _ _ (by decide) (by decide) dX3_matchedBy_77 rfl rfl ?_
                                exact ⟨by rw [hmt, if_pos (by omega)], rfl⟩)
                           · first
                             | (exfalso; omega)
                             | (refine gx_aload_n hx dX3_matchedBy_65 rfl ?_
                                refine gx_getR hx flX3_9 dX3_matchedBy_66 (by decide) rfl rfl ?_
                                refine gx_iload_n hx dX3_matchedBy_69 rfl ?_
                                have hcn := h2 n (by omega)
                                refine gx_cald hx dX3_matchedBy_70 (by decide) rfl (by omega) (by omega) (by decide) ?_
                                refine gx_bipush hx dX3_matchedBy_71 (by decide) ?_
                                refine gx_icmp_eq (tgt := 78) hx dX3_matchedBy_73 (by decide) ⟨by omega, by omega⟩ ⟨by omega, by omega⟩ (fun h73 => ?_) (fun h73 => ?_)
                                · first
                                  | (exfalso; omega)
                                  | (refine gx_iinc hx dX3_matchedBy_78 (Nat.le_of_ble_eq_true rfl) rfl ?_
                                     refine gx_aload_n hx dX3_matchedBy_81 rfl ?_
                                     refine gx_getI hx flX3_15 dX3_matchedBy_82 (by decide) rfl rfl 1 rfl ?_
                                     refine gx_aload_n hx dX3_matchedBy_85 rfl ?_
                                     refine gx_callT hx (i := k) (by omega) (c_J0_length_8abf5 (i := k) _ _ (by omega)) lkX3_49 mwJ0_length_8abf5 dX3_matchedBy_86 rfl rfl (Nat.le_of_ble_eq_true rfl) (by decide) ⟨by decide, by decide⟩ (fun z_86 σ_86 hz_86 => ?_)
                                     obtain ⟨rfl, rfl⟩ := hz_86
                                     refine gx_iconst hx dX3_matchedBy_89 ?_
                                     refine gx_iadd hx dX3_matchedBy_90 ?_
                                     refine gx_min hx wMinX3 wMin1 wMax2 wMin3 dX3_matchedBy_91 ⟨by omega, by omega⟩ ⟨by omega, by omega⟩ (Nat.le_of_ble_eq_true rfl) (by decide) (by decide) ?_
                                     rw [show (if (nmL k : Int) + 3 < σ 50 1 then (nmL k : Int) + 3 else σ 50 1) = (eNd T k : Int) by
                                       unfold eNd
                                       rw [h1]
                                       split <;> split <;> omega]
                                     have henl : eNd T k ≤ T.length := by unfold eNd; split <;> omega
                                     refine gx_istore hx dX3_matchedBy_94 (Nat.le_of_ble_eq_true rfl) ?_
                                     have hen : n + 1 ≤ eNd T k := by unfold eNd; split <;> omega
                                     refine GJ.cong (L' := [some (.inr 50), some (.inl (k : Int)), some (.inr (1000 + k)), some (.inl ((n + 1 : Nat) : Int)), some (.inl (eNd T k : Int))]) (st' := []) rfl rfl rfl ?_
                                     refine gx_loop (α := Nat) (fun q => n + 1 ≤ q ∧ q ≤ eNd T k ∧ dgF T (eNd T k) 20 (n + 1) = dgF T (eNd T k) (20 - (q - (n + 1))) q) (fun q => 20 - q) (fun q => [some (.inr 50), some (.inl (k : Int)), some (.inr (1000 + k)), some (.inl (q : Int)), some (.inl (eNd T k : Int))]) (fun _ => []) (fun _ => σ) ?_ (n + 1) ⟨Nat.le_refl _, hen, by rw [Nat.sub_self]⟩
                                     rintro q ⟨hq1, hq2, hdg⟩ ih2
                                     refine gx_iload_n hx dX3_matchedBy_96 rfl ?_
                                     refine gx_iload hx dX3_matchedBy_97 rfl ?_
                                     refine gx_icmp_ge (tgt := 130) hx dX3_matchedBy_99 (by decide) ⟨by omega, by omega⟩ ⟨by omega, by omega⟩ (fun h99 => ?_) (fun h99 => ?_)
                                     · first
                                       | (exfalso; omega)
                                       | (refine gx_iload_n hx dX3_matchedBy_130 rfl ?_
                                          refine hret _ _ _ _ _ _ _ (by decide) (by decide) dX3_matchedBy_131 rfl rfl ?_
                                          exact ⟨by rw [hmt, if_neg (by omega), hdg, dgF_stop (by omega)], rfl⟩)
                                     · first
                                       | (exfalso; omega)
                                       | (refine gx_aload_n hx dX3_matchedBy_102 rfl ?_
                                          refine gx_getR hx flX3_9 dX3_matchedBy_103 (by decide) rfl rfl ?_
                                          refine gx_iload_n hx dX3_matchedBy_106 rfl ?_
                                          have hcd := h2 q (by omega)
                                          refine gx_cald hx dX3_matchedBy_107 (by decide) rfl (by omega) (by omega) (by decide) ?_
                                          refine gx_bipush hx dX3_matchedBy_108 (by decide) ?_
                                          refine gx_icmp_lt (tgt := 130) hx dX3_matchedBy_110 (by decide) ⟨by omega, by omega⟩ ⟨by omega, by omega⟩ (fun h110 => ?_) (fun h110 => ?_)
                                          · first
                                            | (exfalso; omega)
                                            | (refine gx_iload_n hx dX3_matchedBy_130 rfl ?_
                                               refine hret _ _ _ _ _ _ _ (by decide) (by decide) dX3_matchedBy_131 rfl rfl ?_
                                               exact ⟨by rw [hmt, if_neg (by omega), hdg, dgF_stop (by omega)], rfl⟩)
                                          · first
                                            | (exfalso; omega)
                                            | (refine gx_aload_n hx dX3_matchedBy_113 rfl ?_
                                               refine gx_getR hx flX3_9 dX3_matchedBy_114 (by decide) rfl rfl ?_
                                               refine gx_iload_n hx dX3_matchedBy_117 rfl ?_
                                               
                                               refine gx_cald hx dX3_matchedBy_118 (by decide) rfl (by omega) (by omega) (by decide) ?_
                                               refine gx_bipush hx dX3_matchedBy_119 (by decide) ?_
                                               refine gx_icmp_gt (tgt := 130) hx dX3_matchedBy_121 (by decide) ⟨by omega, by omega⟩ ⟨by omega, by omega⟩ (fun h121 => ?_) (fun h121 => ?_)
                                               · first
                                                 | (exfalso; omega)
                                                 | (refine gx_iload_n hx dX3_matchedBy_130 rfl ?_
                                                    refine hret _ _ _ _ _ _ _ (by decide) (by decide) dX3_matchedBy_131 rfl rfl ?_
                                                    exact ⟨by rw [hmt, if_neg (by omega), hdg, dgF_stop (by omega)], rfl⟩)
                                               · first
                                                 | (exfalso; omega)
                                                 | (refine gx_iinc hx dX3_matchedBy_124 (Nat.le_of_ble_eq_true rfl) rfl ?_
                                                    refine gx_goto (tgt := 96) hx dX3_matchedBy_127 (by decide) ?_
                                                    refine ih2 (q + 1) ⟨by omega, by omega, ?_⟩ (by omega)
                                                    rw [hdg, show 20 - (q - (n + 1)) = (20 - (q + 1 - (n + 1))) + 1 by omega, dgF_step (by omega)]))))
                                · first
                                  | (exfalso; omega)
                                  | (refine gx_iload_n hx dX3_matchedBy_76 rfl ?_
                                     refine hret _ _ _ _ _ _ _ (by decide) (by decide) dX3_matchedBy_77 rfl rfl ?_
                                     exact ⟨by rw [hmt, if_pos (by omega)], rfl⟩)))))
            · first
              | (exfalso; omega)
              | (refine gx_iinc hx dX3_matchedBy_37 (Nat.le_of_ble_eq_true rfl) rfl ?_
                 refine gx_goto (tgt := 7) hx dX3_matchedBy_40 (by decide) ?_
                 refine ih (n + 1) ⟨by omega, by omega, ?_⟩ (by omega)
                 rw [hpm, show 20 - n = (20 - (n + 1)) + 1 by omega, pmF_step (by omega)])))
set_option maxRecDepth 20000 in
set_option maxHeartbeats 400000 in
theorem c_X3_numberFrom (g : Gm) (l : Launch) {σ : Sg} {T : List Nat} {s : Nat} (hT : TR σ T) (hs : s ≤ T.length) : KI g l yX3_numberFrom cX3_numberFrom 4 ((some .int)) (0) 0 0 [.inr 50, .inl (s : Int)] σ (fun z σ' => z = nF T s (T.length - s) ∧ σ = σ') := by
  refine startI (own := RX3) (by decide +kernel) rfl (Nat.le_of_ble_eq_true rfl) ?_
  intro X hx _ _ hret
  obtain ⟨hl, h1, h2⟩ := id hT
  refine gx_iconst hx dX3_numberFrom_0 ?_
  refine gx_istore_n hx dX3_numberFrom_1 (Nat.le_of_ble_eq_true rfl) ?_
  refine gx_iload_n hx dX3_numberFrom_2 rfl ?_
  refine gx_istore_n hx dX3_numberFrom_3 (Nat.le_of_ble_eq_true rfl) ?_
  refine GJ.cong (L' := [some (.inr 50), some (.inl (s : Int)), some (.inl (nF T s 0)), some (.inl ((s : Int) + ((0 : Nat) : Int)))]) (st' := []) (by rw [show (s : Int) + ((0 : Nat) : Int) = (s : Int) by omega]; rfl) rfl rfl ?_
  refine gx_loop (α := Nat) (fun j => s + j ≤ T.length) (fun j => T.length - (s + j)) (fun j => [some (.inr 50), some (.inl (s : Int)), some (.inl (nF T s j)), some (.inl ((s : Int) + (j : Int)))]) (fun _ => []) (fun _ => σ) ?_ 0 (by omega)
  intro j hj ih
  refine gx_iload_n hx dX3_numberFrom_4 rfl ?_
  refine gx_aload_n hx dX3_numberFrom_5 rfl ?_
  refine gx_getI hx flX3_15 dX3_numberFrom_6 (by decide) rfl rfl 1 rfl ?_
  refine gx_icmp_ge (tgt := 33) hx dX3_numberFrom_9 (by decide) ⟨by omega, by omega⟩ ⟨by omega, by omega⟩ (fun h9 => ?_) (fun h9 => ?_)
  · first
    | (exfalso; omega)
    | (refine gx_iload_n hx dX3_numberFrom_33 rfl ?_
       refine hret _ _ _ _ _ _ _ (by decide) (by decide) dX3_numberFrom_34 rfl rfl ?_
       have ej : j = T.length - s := by omega
       subst ej
       exact ⟨rfl, rfl⟩)
  · first
    | (exfalso; omega)
    | (refine gx_iload_n hx dX3_numberFrom_12 rfl ?_
       refine gx_bipush hx dX3_numberFrom_13 (by decide) ?_
       refine gx_imul hx dX3_numberFrom_15 ?_
       refine gx_aload_n hx dX3_numberFrom_16 rfl ?_
       refine gx_getR hx flX3_9 dX3_numberFrom_17 (by decide) rfl rfl ?_
       refine gx_iload_n hx dX3_numberFrom_20 rfl ?_
       
       refine gx_cald hx dX3_numberFrom_21 (by decide) rfl (by omega) (by omega) (by decide) ?_
       have hcn := (h2 (s + j) (by omega)).1
       rw [show ((s + j : Nat) : Int) = (s : Int) + (j : Int) by omega] at hcn
       rw [hcn]
       refine gx_bipush hx dX3_numberFrom_22 (by decide) ?_
       refine gx_isub hx dX3_numberFrom_24 ?_
       refine gx_iadd hx dX3_numberFrom_25 ?_
       refine gx_istore_n hx dX3_numberFrom_26 (Nat.le_of_ble_eq_true rfl) ?_
       refine gx_iinc hx dX3_numberFrom_27 (Nat.le_of_ble_eq_true rfl) rfl ?_
       refine gx_goto (tgt := 4) hx dX3_numberFrom_30 (by decide) ?_
       refine GJ.cong ?_ rfl rfl (ih (j + 1) (by omega) (by omega))
       rw [show (s : Int) + ((j + 1 : Nat) : Int) = (s : Int) + (j : Int) + 1 by omega]
       rfl)
