/-! The reference: history, input, items put in and taken out -/
set_option maxRecDepth 20000 in
set_option maxHeartbeats 400000 in
theorem c_X9_remembers (g : Gm) (l : Launch) {σ : Sg} {P : List It} {hs : List (List It)} (hM : MP σ P) (hH : MH σ hs) : KV g l yX9_remembers cX9_remembers 2 (0) 0 0 [.inr 70] σ (fun τ => MH τ (psh P hs) ∧ FR σ τ c72 f3) := by
  refine startV (own := RX9) (by decide +kernel) rfl (Nat.le_of_ble_eq_true rfl) ?_
  intro X hx _ _ hret
  obtain ⟨hok, hn, hit⟩ := id hM
  have hl40 := hok.1
  obtain ⟨hh1, hh2, hh3⟩ := id hH
  refine gx_aload_n hx dX9_remembers_0 rfl ?_
  refine gx_getI hx flX9_57 dX9_remembers_1 (by decide) rfl rfl 3 rfl ?_
  refine gx_bipush hx dX9_remembers_4 (by decide) ?_
  rw [hh2]
  refine gx_icmp_ne (tgt := 49) hx dX9_remembers_6 (by decide) ⟨by omega, by omega⟩ ⟨by omega, by omega⟩ (fun h6 => ?_) (fun h6 => ?_)
  · first
    | (exfalso; omega)
    | (first
       | (obtain ⟨τ, hτ, hH1, hM1, hF1⟩ : ∃ τ, τ = upd2 (cpS σ 72 121 72 0 j) 70 3 (cpS σ 72 121 72 0 j 70 3 - 1) ∧ MH τ (hs.take 9) ∧ MP τ P ∧ FR σ τ c72 f3 := by
            have ej : j = 1089 := by omega
            subst ej
            have e3 : cpS σ 72 121 72 0 1089 70 3 = σ 70 3 := (cpS_FR (c := c72) (f := fN) (by decide) rfl).2 3 rfl
            have hF : FR σ (upd2 (cpS σ 72 121 72 0 1089) 70 3 (cpS σ 72 121 72 0 1089 70 3 - 1)) c72 f3 := FR.trans (cpS_FR (by decide) rfl) (FR.updF rfl)
            exact ⟨_, rfl, MH_shift hH (by omega) (by rw [e3, hh2]; omega), hM.fr hF rfl, hF⟩
          rw [← hτ])
       | (obtain ⟨τ, hτ, hH1, hM1, hF1⟩ : ∃ τ, τ = σ ∧ MH τ (hs.take 9) ∧ MP τ P ∧ FR σ τ c72 f3 := ⟨σ, rfl, by rw [List.take_of_length_le (by omega)]; exact hH, hM, FR.refl⟩
          rw [← hτ])
       obtain ⟨n, hn9⟩ : ∃ n, (hs.take 9).length = n := ⟨_, rfl⟩
       have hn91 : n ≤ 9 := by rw [← hn9, List.length_take]; omega
       have h70 : τ 70 3 = (n : Int) := by rw [hH1.2.1, hn9]
       refine gx_iconst hx dX9_remembers_49 ?_
       refine gx_istore_n hx dX9_remembers_50 (Nat.le_of_ble_eq_true rfl) ?_
       refine GJ.cong rfl rfl (cpS_0 τ 71 0 72 (121 * (n : Int))) ?_
       refine gx_loop (α := Nat) (fun k => k ≤ 121) (fun k => 121 - k) (fun k => [some (.inr 70), some (.inl (k : Int))]) (fun _ => []) (fun k => cpS τ 71 0 72 (121 * (n : Int)) k) ?_ 0 (Nat.zero_le _)
       intro k hk ihk
       refine gx_iload_n hx dX9_remembers_51 rfl ?_
       refine gx_bipush hx dX9_remembers_52 (by decide) ?_
       refine gx_icmp_ge (tgt := 83) hx dX9_remembers_54 (by decide) ⟨by omega, by omega⟩ ⟨by omega, by omega⟩ (fun h54 => ?_) (fun h54 => ?_)
       · first
         | (exfalso; omega)
         | (refine gx_aload_n hx dX9_remembers_83 rfl ?_
            refine gx_dup hx dX9_remembers_84 ?_
            refine gx_getI hx flX9_57 dX9_remembers_85 (by decide) rfl rfl 3 rfl ?_
            refine gx_iconst hx dX9_remembers_88 ?_
            refine gx_iadd hx dX9_remembers_89 ?_
            refine gx_put hx fpX9_57 dX9_remembers_90 (by decide) rfl rfl rfl rfl 3 rfl ?_
            refine hret _ _ _ _ _ (by decide) (by decide) dX9_remembers_93 ?_
            have ek : k = 121 := by omega
            subst ek
            have e70 : cpS τ 71 0 72 (121 * (n : Int)) 121 70 3 = (n : Int) := ((cpS_FR (c := c72) (f := fN) (by decide) rfl).2 3 rfl).trans h70
            refine ⟨?_, hF1.trans (FR.trans (cpS_FR (by decide) rfl) (FR.updF rfl))⟩
            rw [show psh P hs = P :: hs.take 9 from rfl]
            exact MH_push hH1 hn9 hn91 hM1 (by rw [e70]))
       · first
         | (exfalso; omega)
         | (refine gx_aload_n hx dX9_remembers_57 rfl ?_
            refine gx_getR hx flX9_13 dX9_remembers_58 (by decide) rfl rfl ?_
            refine gx_bipush hx dX9_remembers_61 (by decide) ?_
            refine gx_aload_n hx dX9_remembers_63 rfl ?_
            refine gx_getI hx flX9_57 dX9_remembers_64 (by decide) rfl rfl 3 rfl ?_
            rw [show cpS τ 71 0 72 (121 * (n : Int)) k 70 3 = (n : Int) from ((cpS_FR (c := c72) (f := fN) (by decide) rfl).2 3 rfl).trans h70]
            refine gx_imul hx dX9_remembers_67 ?_
            refine gx_iload_n hx dX9_remembers_68 rfl ?_
            refine gx_iadd hx dX9_remembers_69 ?_
            refine gx_aload_n hx dX9_remembers_70 rfl ?_
            refine gx_getR hx flX9_7 dX9_remembers_71 (by decide) rfl rfl ?_
            refine gx_iload_n hx dX9_remembers_74 rfl ?_
            refine gx_iald hx dX9_remembers_75 (by decide) rfl (by omega) (by omega) (by decide) ?_
            refine gx_iast hx dX9_remembers_76 (by decide) rfl (by omega) (by omega) (by decide) ?_
            refine gx_iinc hx dX9_remembers_77 (Nat.le_of_ble_eq_true rfl) rfl ?_
            refine gx_goto (tgt := 51) hx dX9_remembers_80 (by decide) ?_
            refine GJ.cong rfl rfl (cpS_step (by omega) (by omega) (by omega)) (ihk (k + 1) (by omega) (by omega))))
  · first
    | (exfalso; omega)
    | (refine gx_iconst hx dX9_remembers_9 ?_
       refine gx_istore_n hx dX9_remembers_10 (Nat.le_of_ble_eq_true rfl) ?_
       refine GJ.cong rfl rfl (cpS_0 σ 72 121 72 0) ?_
       refine gx_loop (α := Nat) (fun j => j ≤ 1089) (fun j => 1089 - j) (fun j => [some (.inr 70), some (.inl (j : Int))]) (fun _ => []) (fun j => cpS σ 72 121 72 0 j) ?_ 0 (Nat.zero_le _)
       intro j hj ihj
       refine gx_iload_n hx dX9_remembers_11 rfl ?_
       refine gx_sipush hx dX9_remembers_12 (by decide) ?_
       refine gx_icmp_ge (tgt := 39) hx dX9_remembers_15 (by decide) ⟨by omega, by omega⟩ ⟨by omega, by omega⟩ (fun h15 => ?_) (fun h15 => ?_)
       · first
         | (exfalso; omega)
         | (refine gx_aload_n hx dX9_remembers_39 rfl ?_
            refine gx_dup hx dX9_remembers_40 ?_
            refine gx_getI hx flX9_57 dX9_remembers_41 (by decide) rfl rfl 3 rfl ?_
            refine gx_iconst hx dX9_remembers_44 ?_
            
            refine gx_isub hx dX9_remembers_45 ?_
            refine gx_put hx fpX9_57 dX9_remembers_46 (by decide) rfl rfl rfl rfl 3 rfl ?_
            first
            | (obtain ⟨τ, hτ, hH1, hM1, hF1⟩ : ∃ τ, τ = upd2 (cpS σ 72 121 72 0 j) 70 3 (cpS σ 72 121 72 0 j 70 3 - 1) ∧ MH τ (hs.take 9) ∧ MP τ P ∧ FR σ τ c72 f3 := by
                 have ej : j = 1089 := by omega
                 subst ej
                 have e3 : cpS σ 72 121 72 0 1089 70 3 = σ 70 3 := (cpS_FR (c := c72) (f := fN) (by decide) rfl).2 3 rfl
                 have hF : FR σ (upd2 (cpS σ 72 121 72 0 1089) 70 3 (cpS σ 72 121 72 0 1089 70 3 - 1)) c72 f3 := FR.trans (cpS_FR (by decide) rfl) (FR.updF rfl)
                 exact ⟨_, rfl, MH_shift hH (by omega) (by rw [e3, hh2]; omega), hM.fr hF rfl, hF⟩
               rw [← hτ])
            | (obtain ⟨τ, hτ, hH1, hM1, hF1⟩ : ∃ τ, τ = σ ∧ MH τ (hs.take 9) ∧ MP τ P ∧ FR σ τ c72 f3 := ⟨σ, rfl, by rw [List.take_of_length_le (by omega)]; exact hH, hM, FR.refl⟩
               rw [← hτ])
            obtain ⟨n, hn9⟩ : ∃ n, (hs.take 9).length = n := ⟨_, rfl⟩
            have hn91 : n ≤ 9 := by rw [← hn9, List.length_take]; omega
            have h70 : τ 70 3 = (n : Int) := by rw [hH1.2.1, hn9]
            refine gx_iconst hx dX9_remembers_49 ?_
            refine gx_istore_n hx dX9_remembers_50 (Nat.le_of_ble_eq_true rfl) ?_
            refine GJ.cong rfl rfl (cpS_0 τ 71 0 72 (121 * (n : Int))) ?_
            refine gx_loop (α := Nat) (fun k => k ≤ 121) (fun k => 121 - k) (fun k => [some (.inr 70), some (.inl (k : Int))]) (fun _ => []) (fun k => cpS τ 71 0 72 (121 * (n : Int)) k) ?_ 0 (Nat.zero_le _)
            intro k hk ihk
            refine gx_iload_n hx dX9_remembers_51 rfl ?_
            refine gx_bipush hx dX9_remembers_52 (by decide) ?_
            refine gx_icmp_ge (tgt := 83) hx dX9_remembers_54 (by decide) ⟨by omega, by omega⟩ ⟨by omega, by omega⟩ (fun h54 => ?_) (fun h54 => ?_)
            · first
              | (exfalso; omega)
              | (refine gx_aload_n hx dX9_remembers_83 rfl ?_
                 refine gx_dup hx dX9_remembers_84 ?_
                 refine gx_getI hx flX9_57 dX9_remembers_85 (by decide) rfl rfl 3 rfl ?_
                 refine gx_iconst hx dX9_remembers_88 ?_
                 refine gx_iadd hx dX9_remembers_89 ?_
                 refine gx_put hx fpX9_57 dX9_remembers_90 (by decide) rfl rfl rfl rfl 3 rfl ?_
                 refine hret _ _ _ _ _ (by decide) (by decide) dX9_remembers_93 ?_
                 have ek : k = 121 := by omega
                 subst ek
                 have e70 : cpS τ 71 0 72 (121 * (n : Int)) 121 70 3 = (n : Int) := ((cpS_FR (c := c72) (f := fN) (by decide) rfl).2 3 rfl).trans h70
                 refine ⟨?_, hF1.trans (FR.trans (cpS_FR (by decide) rfl) (FR.updF rfl))⟩
                 rw [show psh P hs = P :: hs.take 9 from rfl]
                 exact MH_push hH1 hn9 hn91 hM1 (by rw [e70]))
            · first
              | (exfalso; omega)
              | (refine gx_aload_n hx dX9_remembers_57 rfl ?_
                 refine gx_getR hx flX9_13 dX9_remembers_58 (by decide) rfl rfl ?_
                 refine gx_bipush hx dX9_remembers_61 (by decide) ?_
                 refine gx_aload_n hx dX9_remembers_63 rfl ?_
                 refine gx_getI hx flX9_57 dX9_remembers_64 (by decide) rfl rfl 3 rfl ?_
                 rw [show cpS τ 71 0 72 (121 * (n : Int)) k 70 3 = (n : Int) from ((cpS_FR (c := c72) (f := fN) (by decide) rfl).2 3 rfl).trans h70]
                 refine gx_imul hx dX9_remembers_67 ?_
                 refine gx_iload_n hx dX9_remembers_68 rfl ?_
                 refine gx_iadd hx dX9_remembers_69 ?_
                 refine gx_aload_n hx dX9_remembers_70 rfl ?_
                 refine gx_getR hx flX9_7 dX9_remembers_71 (by decide) rfl rfl ?_
                 refine gx_iload_n hx dX9_remembers_74 rfl ?_
                 refine gx_iald hx dX9_remembers_75 (by decide) rfl (by omega) (by omega) (by decide) ?_
                 refine gx_iast hx dX9_remembers_76 (by decide) rfl (by omega) (by omega) (by decide) ?_
                 refine gx_iinc hx dX9_remembers_77 (Nat.le_of_ble_eq_true rfl) rfl ?_
                 refine gx_goto (tgt := 51) hx dX9_remembers_80 (by decide) ?_
                 refine GJ.cong rfl rfl (cpS_step (by omega) (by omega) (by omega)) (ihk (k + 1) (by omega) (by omega))))
       · first
         | (exfalso; omega)
         | (refine gx_aload_n hx dX9_remembers_18 rfl ?_
            refine gx_getR hx flX9_13 dX9_remembers_19 (by decide) rfl rfl ?_
            refine gx_iload_n hx dX9_remembers_22 rfl ?_
            refine gx_aload_n hx dX9_remembers_23 rfl ?_
            refine gx_getR hx flX9_13 dX9_remembers_24 (by decide) rfl rfl ?_
            refine gx_iload_n hx dX9_remembers_27 rfl ?_
            refine gx_bipush hx dX9_remembers_28 (by decide) ?_
            refine gx_iadd hx dX9_remembers_30 ?_
            refine gx_iald hx dX9_remembers_31 (by decide) rfl (by omega) (by omega) (by decide) ?_
            refine gx_iast hx dX9_remembers_32 (by decide) rfl (by omega) (by omega) (by decide) ?_
            refine gx_iinc hx dX9_remembers_33 (Nat.le_of_ble_eq_true rfl) rfl ?_
            refine gx_goto (tgt := 11) hx dX9_remembers_36 (by decide) ?_
            refine GJ.cong rfl rfl (cpS_step (by omega) (by omega) (by omega)) (ihj (j + 1) (by omega) (by omega))))
set_option maxRecDepth 20000 in
set_option maxHeartbeats 400000 in
theorem c_X9_puts (g : Gm) (l : Launch) {σ : Sg} {z v1 v2 v3 : Int} (h0 : 0 ≤ z) (h1 : z < 40) : KV g l yX9_puts cX9_puts 5 (1) 0 0 [.inr 70, .inl z, .inl v1, .inl v2, .inl v3] σ (fun τ => τ = upd2 (upd2 (upd2 σ 71 (1 + z) v1) 71 (41 + z) v2) 71 (81 + z) v3) := by
  refine startV (own := RX9) (by decide +kernel) rfl (Nat.le_of_ble_eq_true rfl) ?_
  intro X hx _ _ hret
  refine gx_aload_n hx dX9_puts_0 rfl ?_
  refine gx_getR hx flX9_7 dX9_puts_1 (by decide) rfl rfl ?_
  refine gx_iconst hx dX9_puts_4 ?_
  refine gx_iload_n hx dX9_puts_5 rfl ?_
  refine gx_iadd hx dX9_puts_6 ?_
  refine gx_iload_n hx dX9_puts_7 rfl ?_
  refine gx_iast hx dX9_puts_8 (by decide) rfl (by omega) (by omega) (by decide) ?_
  refine gx_aload_n hx dX9_puts_9 rfl ?_
  refine gx_getR hx flX9_7 dX9_puts_10 (by decide) rfl rfl ?_
  refine gx_bipush hx dX9_puts_13 (by decide) ?_
  refine gx_iload_n hx dX9_puts_15 rfl ?_
  refine gx_iadd hx dX9_puts_16 ?_
  refine gx_iload_n hx dX9_puts_17 rfl ?_
  refine gx_iast hx dX9_puts_18 (by decide) rfl (by omega) (by omega) (by decide) ?_
  refine gx_aload_n hx dX9_puts_19 rfl ?_
  refine gx_iload_n hx dX9_puts_20 rfl ?_
  refine gx_iload hx dX9_puts_21 rfl ?_
  refine gx_callV hx (c_X9_forms (z := z) (v := v3) _ _ h0 h1) lkX9_113 mwX9_forms dX9_puts_23 (by decide) rfl rfl rfl rfl (Nat.le_of_ble_eq_true rfl) (by decide) ⟨by decide, by decide⟩ (fun σ_23 hz_23 => ?_)
  subst hz_23
  refine hret _ _ _ _ _ (by decide) (by decide) dX9_puts_26 ?_
  exact rfl
set_option maxRecDepth 20000 in
set_option maxHeartbeats 400000 in
theorem c_X9_opens (g : Gm) (l : Launch) {σ : Sg} {P : List It} {p : Nat} (hM : MP σ P) (hp : p ≤ P.length) (hlt : P.length < 40) : KV g l yX9_opens cX9_opens 3 (1) 0 0 [.inr 70, .inl (p : Int)] σ (fun τ => τ = upd2 (opS σ P.length p) 71 0 ((P.length : Int) + 1)) := by
  refine startV (own := RX9) (by decide +kernel) rfl (Nat.le_of_ble_eq_true rfl) ?_
  intro X hx _ _ hret
  obtain ⟨hok, hn, hit⟩ := id hM
  have hl40 := hok.1
  refine gx_aload_n hx dX9_opens_0 rfl ?_
  refine gx_getR hx flX9_7 dX9_opens_1 (by decide) rfl rfl ?_
  refine gx_iconst hx dX9_opens_4 ?_
  refine gx_iald hx dX9_opens_5 (by decide) rfl (by omega) (by omega) (by decide) ?_
  rw [hn]
  refine gx_istore_n hx dX9_opens_6 (Nat.le_of_ble_eq_true rfl) ?_
  refine GJ.cong rfl rfl (opS_0 σ P.length) ?_
  refine gx_loop (α := Nat) (fun k => p ≤ k ∧ k ≤ P.length) (fun k => k) (fun k => [some (.inr 70), some (.inl (p : Int)), some (.inl (k : Int))]) (fun _ => []) (fun k => opS σ P.length k) ?_ P.length ⟨hp, Nat.le_refl _⟩
  rintro k ⟨hk1, hk2⟩ ih
  refine gx_iload_n hx dX9_opens_7 rfl ?_
  refine gx_iload_n hx dX9_opens_8 rfl ?_
  refine gx_icmp_le (tgt := 61) hx dX9_opens_9 (by decide) ⟨by omega, by omega⟩ ⟨by omega, by omega⟩ (fun h9 => ?_) (fun h9 => ?_)
  · first
    | (exfalso; omega)
    | (refine gx_aload_n hx dX9_opens_61 rfl ?_
       refine gx_getR hx flX9_7 dX9_opens_62 (by decide) rfl rfl ?_
       refine gx_iconst hx dX9_opens_65 ?_
       refine gx_dup2 hx dX9_opens_66 ?_
       refine gx_iald hx dX9_opens_67 (by decide) rfl (by omega) (by omega) (by decide) ?_
       have ek : k = p := by omega
       subst ek
       rw [show opS σ P.length k 71 0 = σ 71 0 by unfold opS; rw [if_neg (by omega)], hn]
       refine gx_iconst hx dX9_opens_68 ?_
       refine gx_iadd hx dX9_opens_69 ?_
       refine gx_iast hx dX9_opens_70 (by decide) rfl (by omega) (by omega) (by decide) ?_
       refine hret _ _ _ _ _ (by decide) (by decide) dX9_opens_71 ?_
       exact rfl)
  · first
    | (exfalso; omega)
    | (obtain ⟨q, rfl⟩ : ∃ q, k = q + 1 := ⟨k - 1, by omega⟩
       obtain ⟨lo1, lo2, lo3⟩ := opS_lo (σ := σ) hlt (show q < P.length by omega)
       refine gx_aload_n hx dX9_opens_12 rfl ?_
       refine gx_getR hx flX9_7 dX9_opens_13 (by decide) rfl rfl ?_
       refine gx_iconst hx dX9_opens_16 ?_
       refine gx_iload_n hx dX9_opens_17 rfl ?_
       refine gx_iadd hx dX9_opens_18 ?_
       refine gx_aload_n hx dX9_opens_19 rfl ?_
       refine gx_iload_n hx dX9_opens_20 rfl ?_
       refine gx_iconst hx dX9_opens_21 ?_
       refine gx_isub hx dX9_opens_22 ?_
       rw [show ((q + 1 : Nat) : Int) - 1 = (q : Int) by omega]
       refine gx_callI hx (r_X9_kind (z := (q : Int)) _ _ (by omega) (by omega)) lkX9_53 mwX9_kind dX9_opens_23 (by decide) rfl rfl rfl rfl (Nat.le_of_ble_eq_true rfl) (by decide) ⟨by decide, by decide⟩ (fun z_23 σ_23 hz_23 => ?_)
       obtain ⟨rfl, rfl⟩ := hz_23
       rw [lo1]
       refine gx_iast hx dX9_opens_26 (by decide) rfl (by omega) (by omega) (by decide) ?_
       refine gx_aload_n hx dX9_opens_27 rfl ?_
       refine gx_getR hx flX9_7 dX9_opens_28 (by decide) rfl rfl ?_
       refine gx_bipush hx dX9_opens_31 (by decide) ?_
       refine gx_iload_n hx dX9_opens_33 rfl ?_
       refine gx_iadd hx dX9_opens_34 ?_
       refine gx_aload_n hx dX9_opens_35 rfl ?_
       refine gx_iload_n hx dX9_opens_36 rfl ?_
       refine gx_iconst hx dX9_opens_37 ?_
       refine gx_isub hx dX9_opens_38 ?_
       rw [show ((q + 1 : Nat) : Int) - 1 = (q : Int) by omega]
       refine gx_callI hx (r_X9_operand (z := (q : Int)) _ _ (by omega) (by omega)) lkX9_63 mwX9_operand dX9_opens_39 (by decide) rfl rfl rfl rfl (Nat.le_of_ble_eq_true rfl) (by decide) ⟨by decide, by decide⟩ (fun z_39 σ_39 hz_39 => ?_)
       obtain ⟨rfl, rfl⟩ := hz_39
       rw [upd2_z (by omega), lo2]
       refine gx_iast hx dX9_opens_42 (by decide) rfl (by omega) (by omega) (by decide) ?_
       refine gx_aload_n hx dX9_opens_43 rfl ?_
       refine gx_iload_n hx dX9_opens_44 rfl ?_
       refine gx_aload_n hx dX9_opens_45 rfl ?_
       refine gx_iload_n hx dX9_opens_46 rfl ?_
       refine gx_iconst hx dX9_opens_47 ?_
       refine gx_isub hx dX9_opens_48 ?_
       rw [show ((q + 1 : Nat) : Int) - 1 = (q : Int) by omega]
       refine gx_callI hx (r_X9_form (z := (q : Int)) _ _ (by omega) (by omega)) lkX9_83 mwX9_form dX9_opens_49 (by decide) rfl rfl rfl rfl (Nat.le_of_ble_eq_true rfl) (by decide) ⟨by decide, by decide⟩ (fun z_49 σ_49 hz_49 => ?_)
       obtain ⟨rfl, rfl⟩ := hz_49
       rw [upd2_z (by omega), upd2_z (by omega), lo3]
       refine gx_callV hx (c_X9_forms (z := ((q + 1 : Nat) : Int)) _ _ (by omega) (by omega)) lkX9_113 mwX9_forms dX9_opens_52 (by decide) rfl rfl rfl rfl (Nat.le_of_ble_eq_true rfl) (by decide) ⟨by decide, by decide⟩ (fun σ_52 hz_52 => ?_)
       subst hz_52
       refine gx_iinc hx dX9_opens_55 (Nat.le_of_ble_eq_true rfl) rfl ?_
       refine gx_goto (tgt := 7) hx dX9_opens_58 (by decide) ?_
       refine GJ.cong (by rw [show (q : Int) = ((q + 1 : Nat) : Int) + -1 by omega]; rfl) rfl (opS_step hlt (by omega)) (ih q ⟨by omega, by omega⟩ (by omega)))
set_option maxRecDepth 20000 in
set_option maxHeartbeats 400000 in
theorem c_X9_closes (g : Gm) (l : Launch) {σ : Sg} {P : List It} {p : Nat} (hM : MP σ P) (hp : p < P.length) : KV g l yX9_closes cX9_closes 3 (2) 0 0 [.inr 70, .inl (p : Int)] σ (fun τ => MP τ (P.eraseIdx p) ∧ FR σ τ c71 fN) := by
  refine startV (own := RX9) (by decide +kernel) rfl (Nat.le_of_ble_eq_true rfl) ?_
  intro X hx _ _ hret
  obtain ⟨hok, hn, hit⟩ := id hM
  have hl40 := hok.1
  obtain ⟨n, hn9⟩ : ∃ n, n + 1 = P.length := ⟨P.length - 1, by omega⟩
  have hz0 : upd2 σ 71 0 ((P.length : Int) - 1) 71 0 = (n : Int) := by rw [upd2_at]; omega
  refine gx_aload_n hx dX9_closes_0 rfl ?_
  refine gx_getR hx flX9_7 dX9_closes_1 (by decide) rfl rfl ?_
  refine gx_iconst hx dX9_closes_4 ?_
  refine gx_dup2 hx dX9_closes_5 ?_
  refine gx_iald hx dX9_closes_6 (by decide) rfl (by omega) (by omega) (by decide) ?_
  rw [hn]
  refine gx_iconst hx dX9_closes_7 ?_
  refine gx_isub hx dX9_closes_8 ?_
  refine gx_iast hx dX9_closes_9 (by decide) rfl (by omega) (by omega) (by decide) ?_
  refine gx_iload_n hx dX9_closes_10 rfl ?_
  refine gx_istore_n hx dX9_closes_11 (Nat.le_of_ble_eq_true rfl) ?_
  refine GJ.cong rfl rfl (clS_0 (upd2 σ 71 0 ((P.length : Int) - 1)) p) ?_
  refine gx_loop (α := Nat) (fun k => p ≤ k ∧ k ≤ n) (fun k => n - k) (fun k => [some (.inr 70), some (.inl (p : Int)), some (.inl (k : Int))]) (fun _ => []) (fun k => clS (upd2 σ 71 0 ((P.length : Int) - 1)) p k) ?_ p ⟨Nat.le_refl _, by omega⟩
  rintro k ⟨hk1, hk2⟩ ih
  refine gx_iload_n hx dX9_closes_12 rfl ?_
  refine gx_aload_n hx dX9_closes_13 rfl ?_
  refine gx_getR hx flX9_7 dX9_closes_14 (by decide) rfl rfl ?_
  refine gx_iconst hx dX9_closes_17 ?_
  refine gx_iald hx dX9_closes_18 (by decide) rfl (by omega) (by omega) (by decide) ?_
  rw [show clS (upd2 σ 71 0 ((P.length : Int) - 1)) p k 71 0 = (n : Int) by unfold clS; rw [if_neg (by omega)]; exact hz0]
  refine gx_icmp_ge (tgt := 54) hx dX9_closes_19 (by decide) ⟨by omega, by omega⟩ ⟨by omega, by omega⟩ (fun h19 => ?_) (fun h19 => ?_)
  · first
    | (exfalso; omega)
    | (refine hret _ _ _ _ _ (by decide) (by decide) dX9_closes_54 ?_
       have ek : k = n := by omega
       subst ek
       exact ⟨MP_era hM hp rfl hn9, FR.trans (FR.upd (by decide) rfl) clS_FR⟩)
  · first
    | (exfalso; omega)
    | (obtain ⟨hi1, hi2, hi3, hi4⟩ := clS_hi (σ := upd2 σ 71 0 ((P.length : Int) - 1)) (p := p) (show k < 39 by omega)
       refine gx_aload_n hx dX9_closes_22 rfl ?_
       refine gx_iload_n hx dX9_closes_23 rfl ?_
       refine gx_aload_n hx dX9_closes_24 rfl ?_
       refine gx_iload_n hx dX9_closes_25 rfl ?_
       refine gx_iconst hx dX9_closes_26 ?_
       refine gx_iadd hx dX9_closes_27 ?_
       rw [show (k : Int) + 1 = ((k + 1 : Nat) : Int) by omega]
       refine gx_callI hx (r_X9_kind (z := ((k + 1 : Nat) : Int)) _ _ (by omega) (by omega)) lkX9_53 mwX9_kind dX9_closes_28 (by decide) rfl rfl rfl rfl (Nat.le_of_ble_eq_true rfl) (by decide) ⟨by decide, by decide⟩ (fun z_28 σ_28 hz_28 => ?_)
       obtain ⟨rfl, rfl⟩ := hz_28
       rw [hi1]
       refine gx_aload_n hx dX9_closes_31 rfl ?_
       refine gx_iload_n hx dX9_closes_32 rfl ?_
       refine gx_iconst hx dX9_closes_33 ?_
       refine gx_iadd hx dX9_closes_34 ?_
       rw [show (k : Int) + 1 = ((k + 1 : Nat) : Int) by omega]
       refine gx_callI hx (r_X9_operand (z := ((k + 1 : Nat) : Int)) _ _ (by omega) (by omega)) lkX9_63 mwX9_operand dX9_closes_35 (by decide) rfl rfl rfl rfl (Nat.le_of_ble_eq_true rfl) (by decide) ⟨by decide, by decide⟩ (fun z_35 σ_35 hz_35 => ?_)
       obtain ⟨rfl, rfl⟩ := hz_35
       rw [hi2]
       refine gx_aload_n hx dX9_closes_38 rfl ?_
       refine gx_iload_n hx dX9_closes_39 rfl ?_
       refine gx_iconst hx dX9_closes_40 ?_
       refine gx_iadd hx dX9_closes_41 ?_
       rw [show (k : Int) + 1 = ((k + 1 : Nat) : Int) by omega]
       refine gx_callI hx (r_X9_form (z := ((k + 1 : Nat) : Int)) _ _ (by omega) (by omega)) lkX9_83 mwX9_form dX9_closes_42 (by decide) rfl rfl rfl rfl (Nat.le_of_ble_eq_true rfl) (by decide) ⟨by decide, by decide⟩ (fun z_42 σ_42 hz_42 => ?_)
       obtain ⟨rfl, rfl⟩ := hz_42
       rw [hi3]
       refine gx_callV hx (c_X9_puts (z := (k : Int)) _ _ (by omega) (by omega)) lkX9_117 mwX9_puts dX9_closes_45 (by decide) rfl rfl rfl rfl (Nat.le_of_ble_eq_true rfl) (by decide) ⟨by decide, by decide⟩ (fun σ_45 hz_45 => ?_)
       subst hz_45
       refine gx_iinc hx dX9_closes_48 (Nat.le_of_ble_eq_true rfl) rfl ?_
       refine gx_goto (tgt := 12) hx dX9_closes_51 (by decide) ?_
       refine GJ.cong rfl rfl (clS_step hk1 (by omega)) (ih (k + 1) ⟨by omega, by omega⟩ (by omega)))
set_option maxRecDepth 20000 in
set_option maxHeartbeats 400000 in
theorem c_X9_reset (g : Gm) (l : Launch) {σ : Sg} {A : AS} (hR : MR σ A) : KI g l yX9_reset cX9_reset 3 ((some .int)) (1) 0 0 [.inr 70] σ (MPI (fn (sp_reset A)) σ) := by
  refine startI (own := RX9) (by decide +kernel) rfl (Nat.le_of_ble_eq_true rfl) ?_
  intro X hx _ _ hret
  obtain ⟨P, hs, sv, T, er⟩ := A
  obtain ⟨hM, hH, hS, hT, he1, he2, he3, hN⟩ := id hR
  obtain ⟨hok, hn, hit⟩ := id hM
  have hl40 := hok.1
  refine gx_aload_n hx dX9_reset_0 rfl ?_
  refine gx_getR hx flX9_7 dX9_reset_1 (by decide) rfl rfl ?_
  refine gx_iconst hx dX9_reset_4 ?_
  refine gx_iald hx dX9_reset_5 (by decide) rfl (by omega) (by omega) (by decide) ?_
  rw [hn]
  refine gx_istore_n hx dX9_reset_6 (Nat.le_of_ble_eq_true rfl) ?_
  refine gx_iconst hx dX9_reset_7 ?_
  refine gx_istore_n hx dX9_reset_8 (Nat.le_of_ble_eq_true rfl) ?_
  refine GJ.cong rfl rfl (zrS_0 σ) ?_
  refine gx_loop (α := Nat) (fun k => k ≤ 121) (fun k => 121 - k) (fun k => [some (.inr 70), some (.inl (P.length : Int)), some (.inl (k : Int))]) (fun _ => []) (fun k => zrS σ k) ?_ 0 (Nat.zero_le _)
  intro k hk ih
  refine gx_iload_n hx dX9_reset_9 rfl ?_
  refine gx_bipush hx dX9_reset_10 (by decide) ?_
  refine gx_icmp_ge (tgt := 28) hx dX9_reset_12 (by decide) ⟨by omega, by omega⟩ ⟨by omega, by omega⟩ (fun h12 => ?_) (fun h12 => ?_)
  · first
    | (exfalso; omega)
    | (refine gx_aload_n hx dX9_reset_28 rfl ?_
       refine gx_iconst hx dX9_reset_29 ?_
       refine gx_put hx fpX9_57 dX9_reset_30 (by decide) rfl rfl rfl rfl 3 rfl ?_
       refine gx_aload_n hx dX9_reset_33 rfl ?_
       refine gx_iload_n hx dX9_reset_34 rfl ?_
       refine gx_callI hx (c_X9_done _ _) lkX9_90 mwX9_done dX9_reset_35 (by decide) rfl rfl rfl rfl (Nat.le_of_ble_eq_true rfl) (by decide) ⟨by decide, by decide⟩ (fun z_35 σ_35 hz_35 => ?_)
       obtain ⟨rfl, rfl⟩ := hz_35
       refine hret _ _ _ _ _ _ _ (by decide) (by decide) dX9_reset_38 rfl rfl ?_
       have ek : k = 121 := by omega
       subst ek
       have hF : FR σ (upd2 (zrS σ 121) 70 3 0) cP fP := FR.trans zrS_FR.P71 (FR.updF rfl)
       have hM1 : MP (upd2 (zrS σ 121) 70 3 0) [] := ⟨okP_nil, by rw [upd2_c (by decide)]; unfold zrS; rw [if_pos (by omega)]; rfl, fun i hi => absurd hi (Nat.not_lt_zero _)⟩
       have hH1 : MH (upd2 (zrS σ 121) 70 3 0) [] := ⟨by decide, by rw [upd2_at]; rfl, fun t Q hQ => by simp at hQ⟩
       exact ⟨0, ([], [], sv, T, er), rfl, MZ.t (hR.change hM1 hH1 hF) hF.PA 0 0 rfl⟩)
  · first
    | (exfalso; omega)
    | (refine gx_aload_n hx dX9_reset_15 rfl ?_
       refine gx_getR hx flX9_7 dX9_reset_16 (by decide) rfl rfl ?_
       refine gx_iload_n hx dX9_reset_19 rfl ?_
       refine gx_iconst hx dX9_reset_20 ?_
       refine gx_iast hx dX9_reset_21 (by decide) rfl (by omega) (by omega) (by decide) ?_
       refine gx_iinc hx dX9_reset_22 (Nat.le_of_ble_eq_true rfl) rfl ?_
       refine gx_goto (tgt := 9) hx dX9_reset_25 (by decide) ?_
       refine GJ.cong rfl rfl zrS_step (ih (k + 1) (by omega) (by omega)))
set_option maxRecDepth 20000 in
set_option maxHeartbeats 400000 in
theorem c_X9_itemCount (g : Gm) (l : Launch) {σ : Sg} {A : AS} (hR : MR σ A) : KI g l yX9_itemCount cX9_itemCount 1 ((some .int)) (1) 0 0 [.inr 70] σ (MPI (fn (sp_itemCount A)) σ) := by
  refine startI (own := RX9) (by decide +kernel) rfl (Nat.le_of_ble_eq_true rfl) ?_
  intro X hx _ _ hret
  obtain ⟨P, hs, sv, T, er⟩ := A
  obtain ⟨hM, hH, hS, hT, he1, he2, he3, hN⟩ := id hR
  obtain ⟨hok, hn, hit⟩ := id hM
  have hl40 := hok.1
  refine gx_aload_n hx dX9_itemCount_0 rfl ?_
  refine gx_aload_n hx dX9_itemCount_1 rfl ?_
  refine gx_getR hx flX9_7 dX9_itemCount_2 (by decide) rfl rfl ?_
  refine gx_iconst hx dX9_itemCount_5 ?_
  refine gx_iald hx dX9_itemCount_6 (by decide) rfl (by omega) (by omega) (by decide) ?_
  rw [hn]
  refine gx_callI hx (c_X9_done _ _) lkX9_90 mwX9_done dX9_itemCount_7 (by decide) rfl rfl rfl rfl (Nat.le_of_ble_eq_true rfl) (by decide) ⟨by decide, by decide⟩ (fun z_7 σ_7 hz_7 => ?_)
  obtain ⟨rfl, rfl⟩ := hz_7
  refine hret _ _ _ _ _ _ _ (by decide) (by decide) dX9_itemCount_10 rfl rfl ?_
  exact ⟨0, (P, hs, sv, T, er), rfl, MZ.q hR FR.refl 0 0 rfl⟩
set_option maxRecDepth 20000 in
set_option maxHeartbeats 400000 in
theorem c_X9_append (g : Gm) (l : Launch) {σ : Sg} {A : AS} {c : Nat} (hR : MR σ A) (hc : c < 65536) : KI g l yX9_append cX9_append 2 ((some .int)) (1) 0 0 [.inr 70, .inl (c : Int)] σ (MPI (fn (sp_append A c)) σ) := by
  refine startI (own := RX9) (by decide +kernel) rfl (Nat.le_of_ble_eq_true rfl) ?_
  intro X hx _ _ hret
  obtain ⟨P, hs, sv, T, er⟩ := A
  obtain ⟨hM, hH, hS, hT, he1, he2, he3, hN⟩ := id hR
  obtain ⟨hok, hn, hit⟩ := id hM
  have hl40 := hok.1
  obtain ⟨ht1, ht2, ht3⟩ := id hT
  refine gx_iload_n hx dX9_append_0 rfl ?_
  refine gx_bipush hx dX9_append_1 (by decide) ?_
  refine gx_bipush hx dX9_append_3 (by decide) ?_
  refine gx_callS hx (c_X9_in (v := (c : Int)) (lo := 32) (hi := 126) _ _ ⟨by omega, by omega⟩ ⟨by decide, by decide⟩ ⟨by decide, by decide⟩) lkX9_49 mwX9_in dX9_append_5 rfl rfl (Nat.le_of_ble_eq_true rfl) (by decide) ⟨by decide, by decide⟩ (fun z_5 σ_5 hz_5 => ?_)
  obtain ⟨e9, rfl⟩ := hz_5
  replace e9 := ite10 e9
  refine gx_if_ne (tgt := 17) hx dX9_append_8 (by decide) ⟨by omega, by omega⟩ (fun h8 => ?_) (fun h8 => ?_)
  · first
    | (exfalso; omega)
    | (refine gx_aload_n hx dX9_append_17 rfl ?_
       refine gx_getI hx flX9_96 dX9_append_18 (by decide) rfl rfl 7 rfl ?_
       refine gx_bipush hx dX9_append_21 (by decide) ?_
       rw [ht2]
       refine gx_icmp_ne (tgt := 32) hx dX9_append_23 (by decide) ⟨by omega, by omega⟩ ⟨by omega, by omega⟩ (fun h23 => ?_) (fun h23 => ?_)
       · first
         | (exfalso; omega)
         | (refine gx_aload_n hx dX9_append_32 rfl ?_
            refine gx_getR hx flX9_19 dX9_append_33 (by decide) rfl rfl ?_
            refine gx_aload_n hx dX9_append_36 rfl ?_
            refine gx_getI hx flX9_96 dX9_append_37 (by decide) rfl rfl 7 rfl ?_
            rw [ht2]
            refine gx_iload_n hx dX9_append_40 rfl ?_
            refine gx_cast hx dX9_append_41 (by decide) rfl (by omega) (by omega) (by decide) (vp_nar_c c (by omega)) ?_
            refine gx_aload_n hx dX9_append_42 rfl ?_
            refine gx_dup hx dX9_append_43 ?_
            refine gx_getI hx flX9_96 dX9_append_44 (by decide) rfl rfl 7 rfl ?_
            rw [upd2_c (by decide), ht2]
            refine gx_iconst hx dX9_append_47 ?_
            refine gx_iadd hx dX9_append_48 ?_
            refine gx_put hx fpX9_96 dX9_append_49 (by decide) rfl rfl rfl rfl 7 rfl ?_
            refine gx_aload_n hx dX9_append_52 rfl ?_
            refine gx_aload_n hx dX9_append_53 rfl ?_
            refine gx_getI hx flX9_96 dX9_append_54 (by decide) rfl rfl 7 rfl ?_
            rw [upd2_at]
            refine gx_callI hx (c_X9_done _ _) lkX9_90 mwX9_done dX9_append_57 (by decide) rfl rfl rfl rfl (Nat.le_of_ble_eq_true rfl) (by decide) ⟨by decide, by decide⟩ (fun z_57 σ_57 hz_57 => ?_)
            obtain ⟨rfl, rfl⟩ := hz_57
            refine hret _ _ _ _ _ _ _ (by decide) (by decide) dX9_append_60 rfl rfl ?_
            have hcS : ∀ k, k ≠ 70 → k ≠ 74 → upd2 (upd2 σ 74 (T.length : Int) (c : Int)) 70 7 ((T.length : Int) + 1) k = σ k := fun k h1 h2 => (upd2_other k h1).trans (upd2_other k h2)
            have hc7 : ∀ z, z ≠ 7 → upd2 (upd2 σ 74 (T.length : Int) (c : Int)) 70 7 ((T.length : Int) + 1) 70 z = σ 70 z := fun z hz => (upd2_z hz).trans (upd2_c (by decide))
            have hR1 : MR (upd2 (upd2 σ 74 (T.length : Int) (c : Int)) 70 7 ((T.length : Int) + 1)) (P, hs, sv, T ++ [c], er) := by
              refine ⟨hM.same (hcS 71 (by decide) (by decide)), hH.same (hc7 3 (by decide)) (hcS 72 (by decide) (by decide)), hS.same (hc7 5 (by decide)) (hcS 73 (by decide) (by decide)), ⟨by simp; omega, by rw [upd2_at]; simp, fun i hi => ?_⟩, by rw [hc7 8 (by decide)]; exact he1, he2, he3, hN.same (hcS 77 (by decide) (by decide))⟩
              simp only [List.length_append, List.length_cons, List.length_nil] at hi
              rw [upd2_c (by decide)]
              by_cases e : i = T.length
              · subst e
                rw [upd2_at]
                have e8 : ch (T ++ [c]) T.length = c := by unfold ch; rw [List.getD_eq_getElem?_getD, List.getElem?_append_right (Nat.le_refl _)]; simp
                rw [e8]
                exact ⟨rfl, by omega⟩
              · rw [upd2_z (by omega)]
                have e8 : ch (T ++ [c]) i = ch T i := by unfold ch; rw [List.getD_eq_getElem?_getD, List.getD_eq_getElem?_getD, List.getElem?_append_left (by omega)]
                rw [e8]
                exact ht3 i (by omega)
            exact ⟨0, (P, hs, sv, T ++ [c], er), by show sp_append (P, hs, sv, T, er) c = _; rw [sp_append, if_neg (by omega), if_neg (by omega)], MZ.t hR1 (FR.trans (FR.upd (by decide) rfl) (FR.updF rfl)) 0 0 rfl⟩)
       · first
         | (exfalso; omega)
         | (refine gx_aload_n hx dX9_append_26 rfl ?_
            refine gx_iconst hx dX9_append_27 ?_
            refine gx_callI hx (c_X9_fails _ _) lkX9_93 mwX9_fails dX9_append_28 (by decide) rfl rfl rfl rfl (Nat.le_of_ble_eq_true rfl) (by decide) ⟨by decide, by decide⟩ (fun z_28 σ_28 hz_28 => ?_)
            obtain ⟨rfl, rfl⟩ := hz_28
            refine hret _ _ _ _ _ _ _ (by decide) (by decide) dX9_append_31 rfl rfl ?_
            exact ⟨2, (P, hs, sv, T, er), by show sp_append (P, hs, sv, T, er) c = _; rw [sp_append, if_neg (by omega), if_pos (by omega)], MZ.q hR FR.refl 2 2 rfl⟩))
  · first
    | (exfalso; omega)
    | (refine gx_aload_n hx dX9_append_11 rfl ?_
       refine gx_iconst hx dX9_append_12 ?_
       refine gx_callI hx (c_X9_fails _ _) lkX9_93 mwX9_fails dX9_append_13 (by decide) rfl rfl rfl rfl (Nat.le_of_ble_eq_true rfl) (by decide) ⟨by decide, by decide⟩ (fun z_13 σ_13 hz_13 => ?_)
       obtain ⟨rfl, rfl⟩ := hz_13
       refine hret _ _ _ _ _ _ _ (by decide) (by decide) dX9_append_16 rfl rfl ?_
       exact ⟨1, (P, hs, sv, T, er), by show sp_append (P, hs, sv, T, er) c = _; rw [sp_append, if_pos (by omega)], MZ.q hR FR.refl 1 1 rfl⟩)
