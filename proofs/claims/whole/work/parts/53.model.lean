/-! The reference: reachable addresses, rounds, passes -/
set_option maxRecDepth 20000 in
set_option maxHeartbeats 400000 in
theorem c_X9_goesOn (g : Gm) (l : Launch) {σ : Sg} {P : List It} {i : Nat} (hM : MP σ P) (hi : i < P.length) (hC : BB σ 78 (fun b => rS P i b = true)) : KV g l yX9_goesOn cX9_goesOn 4 (4) 0 0 [.inr 70, .inl (i : Int)] σ (fun τ => BB τ 78 (fun b => rS P (i + 1) b = true) ∧ FR σ τ cG f1) := by
  refine startV (own := RX9) (by decide +kernel) rfl (Nat.le_of_ble_eq_true rfl) ?_
  intro X hx _ _ hret
  obtain ⟨hok, hn, hit⟩ := id hM
  have hl40 := hok.1
  refine gx_iconst hx dX9_goesOn_0 ?_
  refine gx_istore_n hx dX9_goesOn_1 (Nat.le_of_ble_eq_true rfl) ?_
  refine gx_loop (α := Nat × Sg) (fun x => x.1 ≤ 3000 ∧ x.2 78 = σ 78 ∧ (∀ b : Nat, b < x.1 → x.2 79 (b : Int) = 0) ∧ FR σ x.2 cG f1) (fun x => 3000 - x.1) (fun x => [some (.inr 70), some (.inl (i : Int)), some (.inl (x.1 : Int)), none]) (fun _ => []) (fun x => x.2) ?_ (0, σ) ⟨Nat.zero_le _, rfl, fun b hb => absurd hb (Nat.not_lt_zero _), FR.refl⟩
  rintro ⟨n, τ⟩ ⟨hn1, e78, hz, hF1⟩ ih1
  dsimp only at hn1 e78 hz hF1 ih1 ⊢
  refine gx_iload_n hx dX9_goesOn_2 rfl ?_
  refine gx_sipush hx dX9_goesOn_3 (by decide) ?_
  refine gx_icmp_ge (tgt := 22) hx dX9_goesOn_6 (by decide) ⟨by omega, by omega⟩ ⟨by omega, by omega⟩ (fun h6 => ?_) (fun h6 => ?_)
  · first
    | (exfalso; omega)
    | (refine gx_iconst hx dX9_goesOn_22 ?_
       refine gx_istore_n hx dX9_goesOn_23 (Nat.le_of_ble_eq_true rfl) ?_
       have hB1 : BB τ 79 (WS P i 0 0) := fun b hb => Or.inr ⟨hz b (by omega), WS_0⟩
       refine gx_loop (α := Nat × Sg) (fun x => x.1 ≤ 2900 ∧ x.2 78 = σ 78 ∧ BB x.2 79 (WS P i x.1 0) ∧ FR σ x.2 cG f1) (fun x => 2900 - x.1) (fun x => [some (.inr 70), some (.inl (i : Int)), some (.inl (x.1 : Int)), none]) (fun _ => []) (fun x => x.2) ?_ (0, τ) ⟨Nat.zero_le _, e78, hB1, hF1⟩
       rintro ⟨a, τ2⟩ ⟨ha1, e78b, hB2, hF2⟩ ih2
       dsimp only at ha1 e78b hB2 hF2 ih2 ⊢
       refine gx_iload_n hx dX9_goesOn_24 rfl ?_
       refine gx_sipush hx dX9_goesOn_25 (by decide) ?_
       refine gx_icmp_ge (tgt := 74) hx dX9_goesOn_28 (by decide) ⟨by omega, by omega⟩ ⟨by omega, by omega⟩ (fun h28 => ?_) (fun h28 => ?_)
       · first
         | (exfalso; omega)
         | (refine gx_iconst hx dX9_goesOn_74 ?_
            refine gx_istore_n hx dX9_goesOn_75 (Nat.le_of_ble_eq_true rfl) ?_
            have ea : a = 2900 := by omega
            subst ea
            have hB3 := hB2
            refine GJ.cong rfl rfl (cpS_0 τ2 79 0 78 0) ?_
            refine gx_loop (α := Nat) (fun n => n ≤ 3000) (fun n => 3000 - n) (fun n => [some (.inr 70), some (.inl (i : Int)), some (.inl (n : Int)), none]) (fun _ => []) (fun n => cpS τ2 79 0 78 0 n) ?_ 0 (Nat.zero_le _)
            intro n hn9 ih4
            refine gx_iload_n hx dX9_goesOn_76 rfl ?_
            refine gx_sipush hx dX9_goesOn_77 (by decide) ?_
            refine gx_icmp_ge (tgt := 101) hx dX9_goesOn_80 (by decide) ⟨by omega, by omega⟩ ⟨by omega, by omega⟩ (fun h80 => ?_) (fun h80 => ?_)
            · first
              | (exfalso; omega)
              | (refine hret _ _ _ _ _ (by decide) (by decide) dX9_goesOn_101 ?_
                 have en : n = 3000 := by omega
                 subst en
                 refine ⟨fun b hb => ?_, hF2.trans (cpS_FR (by decide) rfl)⟩
                 have e1 : cpS τ2 79 0 78 0 3000 78 (b : Int) = τ2 79 (b : Int) := by
                   unfold cpS
                   rw [if_pos ⟨rfl, by omega, by omega⟩]
                   exact cg τ2 rfl (by omega)
                 rw [e1]
                 have h9 := hB3 b hb
                 rw [WS_end hok hi] at h9
                 exact h9)
            · first
              | (exfalso; omega)
              | (refine gx_aload_n hx dX9_goesOn_83 rfl ?_
                 refine gx_getR hx flX9_36 dX9_goesOn_84 (by decide) rfl rfl ?_
                 refine gx_iload_n hx dX9_goesOn_87 rfl ?_
                 refine gx_aload_n hx dX9_goesOn_88 rfl ?_
                 refine gx_getR hx flX9_40 dX9_goesOn_89 (by decide) rfl rfl ?_
                 refine gx_iload_n hx dX9_goesOn_92 rfl ?_
                 
                 refine gx_zald hx dX9_goesOn_93 (by decide) rfl (by omega) (by omega) (by decide) ?_
                 have hbx := hB3 n (by omega)
                 refine gx_zast hx dX9_goesOn_94 (by decide) rfl (by omega) (by omega) (by decide) (nar_b (by rw [show cpS τ2 79 0 78 0 n 79 (n : Int) = τ2 79 (n : Int) by unfold cpS; rw [if_neg (by omega)]]; omega)) ?_
                 refine gx_iinc hx dX9_goesOn_95 (Nat.le_of_ble_eq_true rfl) rfl ?_
                 refine gx_goto (tgt := 76) hx dX9_goesOn_98 (by decide) ?_
                 refine GJ.cong rfl rfl (cpS_step (by omega) (by omega) (by omega)) (ih4 (n + 1) (by omega) (by omega))))
       · first
         | (exfalso; omega)
         | (refine gx_iconst hx dX9_goesOn_31 ?_
            refine gx_istore_n hx dX9_goesOn_32 (Nat.le_of_ble_eq_true rfl) ?_
            refine gx_loop (α := Nat × Sg) (fun x => x.1 ≤ 3 ∧ x.2 78 = σ 78 ∧ BB x.2 79 (WS P i a x.1) ∧ FR σ x.2 cG f1) (fun x => 3 - x.1) (fun x => [some (.inr 70), some (.inl (i : Int)), some (.inl (a : Int)), some (.inl (x.1 : Int))]) (fun _ => []) (fun x => x.2) ?_ (0, τ2) ⟨Nat.zero_le _, e78b, hB2, hF2⟩
            rintro ⟨f, υ⟩ ⟨hf1, e78, hB3, hF3⟩ ih3
            dsimp only at hf1 e78 hB3 hF3 ih3 ⊢
            refine gx_iload_n hx dX9_goesOn_33 rfl ?_
            refine gx_iconst hx dX9_goesOn_34 ?_
            refine gx_icmp_ge (tgt := 68) hx dX9_goesOn_35 (by decide) ⟨by omega, by omega⟩ ⟨by omega, by omega⟩ (fun h35 => ?_) (fun h35 => ?_)
            · first
              | (exfalso; omega)
              | (refine gx_iinc hx dX9_goesOn_68 (Nat.le_of_ble_eq_true rfl) rfl ?_
                 refine gx_goto (tgt := 24) hx dX9_goesOn_71 (by decide) ?_
                 refine GJ.drop 3 ?_
                 refine ih2 (a + 1, υ) ⟨by omega, e78, hB3.congr (fun b _ => WS_next (by
                   first
                   | (left; omega)
                   | (right
                      rcases hca with ⟨h, _⟩ | ⟨_, h⟩
                      · omega
                      · exact h))), hF3⟩ (by dsimp only; omega))
            · first
              | (exfalso; omega)
              | (refine gx_aload_n hx dX9_goesOn_38 rfl ?_
                 refine gx_getR hx flX9_36 dX9_goesOn_39 (by decide) rfl rfl ?_
                 refine gx_iload_n hx dX9_goesOn_42 rfl ?_
                 refine gx_zald hx dX9_goesOn_43 (by decide) rfl (by omega) (by omega) (by decide) ?_
                 have hca := hC a (by omega)
                 rw [show υ 78 = σ 78 from e78]
                 refine gx_if_eq (tgt := 68) hx dX9_goesOn_44 (by decide) ⟨by omega, by omega⟩ (fun h44 => ?_) (fun h44 => ?_)
                 · first
                   | (exfalso; omega)
                   | (refine gx_iinc hx dX9_goesOn_68 (Nat.le_of_ble_eq_true rfl) rfl ?_
                      refine gx_goto (tgt := 24) hx dX9_goesOn_71 (by decide) ?_
                      refine GJ.drop 3 ?_
                      refine ih2 (a + 1, υ) ⟨by omega, e78, hB3.congr (fun b _ => WS_next (by
                        first
                        | (left; omega)
                        | (right
                           rcases hca with ⟨h, _⟩ | ⟨_, h⟩
                           · omega
                           · exact h))), hF3⟩ (by dsimp only; omega))
                 · first
                   | (exfalso; omega)
                   | (refine gx_aload_n hx dX9_goesOn_47 rfl ?_
                      refine gx_getR hx flX9_40 dX9_goesOn_48 (by decide) rfl rfl ?_
                      refine gx_iload_n hx dX9_goesOn_51 rfl ?_
                      refine gx_aload_n hx dX9_goesOn_52 rfl ?_
                      refine gx_iload_n hx dX9_goesOn_53 rfl ?_
                      refine gx_iload_n hx dX9_goesOn_54 rfl ?_
                      refine gx_iload_n hx dX9_goesOn_55 rfl ?_
                      refine gx_callI hx (c_X9_sizeAt (i := i) (f := f) (a := a) _ _ (hM.fr hF3 rfl) hi (by omega) (by omega)) lkX9_86 mwX9_sizeAt dX9_goesOn_56 (by decide) rfl rfl rfl rfl (Nat.le_of_ble_eq_true rfl) (by decide) ⟨by decide, by decide⟩ (fun z_56 σ_56 hz_56 => ?_)
                      obtain ⟨rfl, hF4⟩ := hz_56
                      have hra : rS P i a = true := by
                        rcases hca with ⟨_, h⟩ | ⟨h, _⟩
                        · exact h
                        · omega
                      have hrl := rS_le hok i a hra
                      have hsl := sz_le hok hi f a
                      refine gx_iadd hx dX9_goesOn_59 ?_
                      refine gx_iconst hx dX9_goesOn_60 ?_
                      refine gx_zast hx dX9_goesOn_61 (by decide) rfl (by omega) (by omega) (by decide) rfl ?_
                      refine gx_iinc hx dX9_goesOn_62 (Nat.le_of_ble_eq_true rfl) rfl ?_
                      refine gx_goto (tgt := 33) hx dX9_goesOn_65 (by decide) ?_
                      refine ih3 (f + 1, upd2 σ_56 79 ((a : Int) + (sz P i f a : Int)) 1) ⟨by omega, ?_, ?_, hF3.trans (FR.trans hF4.G1 (FR.upd (by decide) rfl))⟩ (by dsimp only; omega)
                      · dsimp only
                        rw [upd2_other 78 (by decide), hF4.1 78 (by decide) rfl]
                        exact e78
                      · have hB4 : BB σ_56 79 (WS P i a f) := hB3.same (hF4.1 79 (by decide) rfl)
                        exact (hB4.upd (b0 := a + sz P i f a) (by omega)).congr (fun b _ => WS_step hra)))))
  · first
    | (exfalso; omega)
    | (refine gx_aload_n hx dX9_goesOn_9 rfl ?_
       refine gx_getR hx flX9_40 dX9_goesOn_10 (by decide) rfl rfl ?_
       refine gx_iload_n hx dX9_goesOn_13 rfl ?_
       refine gx_iconst hx dX9_goesOn_14 ?_
       refine gx_zast hx dX9_goesOn_15 (by decide) rfl (by omega) (by omega) (by decide) rfl ?_
       refine gx_iinc hx dX9_goesOn_16 (Nat.le_of_ble_eq_true rfl) rfl ?_
       refine gx_goto (tgt := 2) hx dX9_goesOn_19 (by decide) ?_
       refine ih1 (n + 1, upd2 τ 79 (n : Int) 0) ⟨by omega, (by dsimp only; rw [upd2_other 78 (by decide)]; exact e78), fun b hb => ?_, hF1.trans (FR.upd (by decide) rfl)⟩ (by dsimp only; omega)
       dsimp only at hb ⊢
       by_cases e : b = n
       · subst e
         rw [upd2_at]
       · rw [upd2_z (by omega)]
         exact hz b (by omega))
set_option maxRecDepth 20000 in
set_option maxHeartbeats 400000 in
theorem c_X9_possibleAddresses (g : Gm) (l : Launch) {σ : Sg} {A : AS} {z : Int} (hR : MR σ A) (hz : rg z) : KI g l yX9_possibleAddresses cX9_possibleAddresses 4 ((some .int)) (5) 0 0 [.inr 70, .inl z] σ (MPI (fn (sp_possibleAddresses A z)) σ) := by
  refine startI (own := RX9) (by decide +kernel) rfl (Nat.le_of_ble_eq_true rfl) ?_
  intro X hx _ _ hret
  obtain ⟨P, hs, sv, T, er⟩ := A
  obtain ⟨hM, hH, hS, hT, he1, he2, he3, hN⟩ := id hR
  obtain ⟨hok, hn, hit⟩ := id hM
  have hl40 := hok.1
  obtain ⟨hz1, hz2⟩ := id hz
  refine gx_aload_n hx dX9_possibleAddresses_0 rfl ?_
  refine gx_iload_n hx dX9_possibleAddresses_1 rfl ?_
  refine gx_callI hx (c_X9_isItem _ _ hM hz) lkX9_137 mwX9_isItem dX9_possibleAddresses_2 (by decide) rfl rfl rfl rfl (Nat.le_of_ble_eq_true rfl) (by decide) ⟨by decide, by decide⟩ (fun z_2 σ_2 hz_2 => ?_)
  obtain ⟨e9, rfl⟩ := hz_2
  replace e9 := ite10 e9
  refine gx_if_ne (tgt := 14) hx dX9_possibleAddresses_5 (by decide) ⟨by omega, by omega⟩ (fun h5 => ?_) (fun h5 => ?_)
  · first
    | (exfalso; omega)
    | (obtain ⟨i, rfl⟩ : ∃ i : Nat, z = (i : Int) := ⟨z.toNat, by omega⟩
       have hi : i < P.length := by omega
       have hin : inI P (i : Int) := by omega
       have hri := hM.rg i
       refine gx_iconst hx dX9_possibleAddresses_14 ?_
       refine gx_istore_n hx dX9_possibleAddresses_15 (Nat.le_of_ble_eq_true rfl) ?_
       refine gx_loop (α := Nat × Sg) (fun x => x.1 ≤ 3000 ∧ (∀ b : Nat, b < x.1 → (x.2 78 (b : Int) = 1 ∧ b = 0) ∨ (x.2 78 (b : Int) = 0 ∧ ¬ b = 0)) ∧ FR σ x.2 cG f1) (fun x => 3000 - x.1) (fun x => [some (.inr 70), some (.inl (i : Int)), some (.inl (x.1 : Int)), none]) (fun _ => []) (fun x => x.2) ?_ (0, σ) ⟨Nat.zero_le _, fun b hb => absurd hb (Nat.not_lt_zero _), FR.refl⟩
       rintro ⟨n, τ⟩ ⟨hn1, hz9, hF1⟩ ih1
       dsimp only at hn1 hz9 hF1 ih1 ⊢
       refine gx_iload_n hx dX9_possibleAddresses_16 rfl ?_
       refine gx_sipush hx dX9_possibleAddresses_17 (by decide) ?_
       refine gx_icmp_ge (tgt := 44) hx dX9_possibleAddresses_20 (by decide) ⟨by omega, by omega⟩ ⟨by omega, by omega⟩ (fun h20 => ?_) (fun h20 => ?_)
       · first
         | (exfalso; omega)
         | (refine gx_iconst hx dX9_possibleAddresses_44 ?_
            refine gx_istore_n hx dX9_possibleAddresses_45 (Nat.le_of_ble_eq_true rfl) ?_
            have hB1 : BB τ 78 (fun b => rS P 0 b = true) := fun b hb => by
              have h9 := hz9 b (by omega)
              dsimp only
              rw [show (rS P 0 b = true) = (b = 0) by rw [show rS P 0 b = decide (b = 0) from rfl, decide_eq_true_eq]]
              exact h9
            refine gx_loop (α := Nat × Sg) (fun x => x.1 ≤ i ∧ BB x.2 78 (fun b => rS P x.1 b = true) ∧ FR σ x.2 cG f1) (fun x => i - x.1) (fun x => [some (.inr 70), some (.inl (i : Int)), some (.inl (x.1 : Int)), none]) (fun _ => []) (fun x => x.2) ?_ (0, τ) ⟨Nat.zero_le _, hB1, hF1⟩
            rintro ⟨j, τ2⟩ ⟨hj1, hB2, hF2⟩ ih2
            dsimp only at hj1 hB2 hF2 ih2 ⊢
            refine gx_iload_n hx dX9_possibleAddresses_46 rfl ?_
            refine gx_iload_n hx dX9_possibleAddresses_47 rfl ?_
            refine gx_icmp_ge (tgt := 62) hx dX9_possibleAddresses_48 (by decide) ⟨by omega, by omega⟩ ⟨by omega, by omega⟩ (fun h48 => ?_) (fun h48 => ?_)
            · first
              | (exfalso; omega)
              | (refine gx_iconst hx dX9_possibleAddresses_62 ?_
                 refine gx_istore_n hx dX9_possibleAddresses_63 (Nat.le_of_ble_eq_true rfl) ?_
                 refine gx_iconst hx dX9_possibleAddresses_64 ?_
                 refine gx_istore_n hx dX9_possibleAddresses_65 (Nat.le_of_ble_eq_true rfl) ?_
                 have ej : j = i := by omega
                 subst ej
                 refine gx_loop (α := Nat) (fun x => x ≤ 3000) (fun x => 3000 - x) (fun x => [some (.inr 70), some (.inl (j : Int)), some (.inl (cnt (rS P j) x : Int)), some (.inl (x : Int))]) (fun _ => []) (fun _ => τ2) ?_ 0 (Nat.zero_le _)
                 intro x hx9 ih3
                 have hcl := cnt_le (rS P j) x
                 refine gx_iload_n hx dX9_possibleAddresses_66 rfl ?_
                 refine gx_sipush hx dX9_possibleAddresses_67 (by decide) ?_
                 refine gx_icmp_ge (tgt := 96) hx dX9_possibleAddresses_70 (by decide) ⟨by omega, by omega⟩ ⟨by omega, by omega⟩ (fun h70 => ?_) (fun h70 => ?_)
                 · first
                   | (exfalso; omega)
                   | (refine gx_aload_n hx dX9_possibleAddresses_96 rfl ?_
                      refine gx_iload_n hx dX9_possibleAddresses_97 rfl ?_
                      refine gx_callI hx (c_X9_done _ _) lkX9_90 mwX9_done dX9_possibleAddresses_98 (by decide) rfl rfl rfl rfl (Nat.le_of_ble_eq_true rfl) (by decide) ⟨by decide, by decide⟩ (fun z_98 σ_98 hz_98 => ?_)
                      obtain ⟨rfl, rfl⟩ := hz_98
                      refine hret _ _ _ _ _ _ _ (by decide) (by decide) dX9_possibleAddresses_101 rfl rfl ?_
                      have ex : x = 3000 := by omega
                      subst ex
                      rw [show cnt (rS P j) 3000 = cnt (rS P j) 2048 from cnt_tail 3000 (by decide) (fun x h1 _ => by
                        cases h9 : rS P j x with
                        | false => rfl
                        | true =>
                          have := rS_le hok j x h9
                          omega)]
                      exact ⟨0, (P, hs, sv, T, er), by show sp_possibleAddresses (P, hs, sv, T, er) (j : Int) = _; rw [sp_possibleAddresses, if_neg (fun h9 => h9 hin), Int.toNat_natCast], MZ.q hR hF2.SG 0 0 rfl⟩)
                 · first
                   | (exfalso; omega)
                   | (refine gx_iload_n hx dX9_possibleAddresses_73 rfl ?_
                      refine gx_aload_n hx dX9_possibleAddresses_74 rfl ?_
                      refine gx_getR hx flX9_36 dX9_possibleAddresses_75 (by decide) rfl rfl ?_
                      refine gx_iload_n hx dX9_possibleAddresses_78 rfl ?_
                      refine gx_zald hx dX9_possibleAddresses_79 (by decide) rfl (by omega) (by omega) (by decide) ?_
                      have hbx := hB2 x (by omega)
                      refine gx_if_eq (tgt := 87) hx dX9_possibleAddresses_80 (by decide) ⟨by omega, by omega⟩ (fun h80 => ?_) (fun h80 => ?_)
                      · first
                        | (exfalso; omega)
                        | (refine gx_iconst hx dX9_possibleAddresses_87 ?_
                           refine gx_iadd hx dX9_possibleAddresses_88 ?_
                           refine gx_istore_n hx dX9_possibleAddresses_89 (Nat.le_of_ble_eq_true rfl) ?_
                           refine gx_iinc hx dX9_possibleAddresses_90 (Nat.le_of_ble_eq_true rfl) rfl ?_
                           refine gx_goto (tgt := 66) hx dX9_possibleAddresses_93 (by decide) ?_
                           refine GJ.cong ?_ rfl rfl (ih3 (x + 1) (by omega) (by omega))
                           rcases hbx with ⟨b1, b2⟩ | ⟨b1, b2⟩
                           · first
                             | (exfalso; omega)
                             | (rw [cnt_s1 b2]; rfl)
                           · first
                             | (exfalso; omega)
                             | (rw [cnt_s0 (Bool.not_eq_true _ ▸ b2)]; rfl))
                      · first
                        | (exfalso; omega)
                        | (refine gx_iconst hx dX9_possibleAddresses_83 ?_
                           refine gx_goto (tgt := 88) hx dX9_possibleAddresses_84 (by decide) ?_
                           refine gx_iadd hx dX9_possibleAddresses_88 ?_
                           refine gx_istore_n hx dX9_possibleAddresses_89 (Nat.le_of_ble_eq_true rfl) ?_
                           refine gx_iinc hx dX9_possibleAddresses_90 (Nat.le_of_ble_eq_true rfl) rfl ?_
                           refine gx_goto (tgt := 66) hx dX9_possibleAddresses_93 (by decide) ?_
                           refine GJ.cong ?_ rfl rfl (ih3 (x + 1) (by omega) (by omega))
                           rcases hbx with ⟨b1, b2⟩ | ⟨b1, b2⟩
                           · first
                             | (exfalso; omega)
                             | (rw [cnt_s1 b2]; rfl)
                           · first
                             | (exfalso; omega)
                             | (rw [cnt_s0 (Bool.not_eq_true _ ▸ b2)]; rfl))))
            · first
              | (exfalso; omega)
              | (refine gx_aload_n hx dX9_possibleAddresses_51 rfl ?_
                 refine gx_iload_n hx dX9_possibleAddresses_52 rfl ?_
                 refine gx_callV hx (c_X9_goesOn (i := j) _ _ (hM.fr hF2 rfl) (by omega) hB2) lkX9_153 mwX9_goesOn dX9_possibleAddresses_53 (by decide) rfl rfl rfl rfl (Nat.le_of_ble_eq_true rfl) (by decide) ⟨by decide, by decide⟩ (fun σ_53 hz_53 => ?_)
                 obtain ⟨hB3, hF3⟩ := hz_53
                 refine gx_iinc hx dX9_possibleAddresses_56 (Nat.le_of_ble_eq_true rfl) rfl ?_
                 refine gx_goto (tgt := 46) hx dX9_possibleAddresses_59 (by decide) ?_
                 refine ih2 (j + 1, σ_53) ⟨by omega, hB3, hF2.trans hF3⟩ (by dsimp only; omega)))
       · first
         | (exfalso; omega)
         | (refine gx_aload_n hx dX9_possibleAddresses_23 rfl ?_
            refine gx_getR hx flX9_36 dX9_possibleAddresses_24 (by decide) rfl rfl ?_
            refine gx_iload_n hx dX9_possibleAddresses_27 rfl ?_
            refine gx_iload_n hx dX9_possibleAddresses_28 rfl ?_
            refine gx_if_ne (tgt := 36) hx dX9_possibleAddresses_29 (by decide) ⟨by omega, by omega⟩ (fun h29 => ?_) (fun h29 => ?_)
            · first
              | (exfalso; omega)
              | (refine gx_iconst hx dX9_possibleAddresses_36 ?_
                 refine gx_zast hx dX9_possibleAddresses_37 (by decide) rfl (by omega) (by omega) (by decide) rfl ?_
                 refine gx_iinc hx dX9_possibleAddresses_38 (Nat.le_of_ble_eq_true rfl) rfl ?_
                 refine gx_goto (tgt := 16) hx dX9_possibleAddresses_41 (by decide) ?_
                 first
                 | (refine ih1 (n + 1, upd2 τ 78 (n : Int) 1) ⟨by omega, fun b hb => ?_, hF1.trans (FR.upd (by decide) rfl)⟩ (by dsimp only; omega)
                    dsimp only at hb ⊢
                    by_cases e : b = n
                    · subst e
                      rw [upd2_at]
                      omega
                    · rw [upd2_z (by omega)]
                      exact hz9 b (by omega))
                 | (refine ih1 (n + 1, upd2 τ 78 (n : Int) 0) ⟨by omega, fun b hb => ?_, hF1.trans (FR.upd (by decide) rfl)⟩ (by dsimp only; omega)
                    dsimp only at hb ⊢
                    by_cases e : b = n
                    · subst e
                      rw [upd2_at]
                      omega
                    · rw [upd2_z (by omega)]
                      exact hz9 b (by omega)))
            · first
              | (exfalso; omega)
              | (refine gx_iconst hx dX9_possibleAddresses_32 ?_
                 refine gx_goto (tgt := 37) hx dX9_possibleAddresses_33 (by decide) ?_
                 refine gx_zast hx dX9_possibleAddresses_37 (by decide) rfl (by omega) (by omega) (by decide) rfl ?_
                 refine gx_iinc hx dX9_possibleAddresses_38 (Nat.le_of_ble_eq_true rfl) rfl ?_
                 refine gx_goto (tgt := 16) hx dX9_possibleAddresses_41 (by decide) ?_
                 first
                 | (refine ih1 (n + 1, upd2 τ 78 (n : Int) 1) ⟨by omega, fun b hb => ?_, hF1.trans (FR.upd (by decide) rfl)⟩ (by dsimp only; omega)
                    dsimp only at hb ⊢
                    by_cases e : b = n
                    · subst e
                      rw [upd2_at]
                      omega
                    · rw [upd2_z (by omega)]
                      exact hz9 b (by omega))
                 | (refine ih1 (n + 1, upd2 τ 78 (n : Int) 0) ⟨by omega, fun b hb => ?_, hF1.trans (FR.upd (by decide) rfl)⟩ (by dsimp only; omega)
                    dsimp only at hb ⊢
                    by_cases e : b = n
                    · subst e
                      rw [upd2_at]
                      omega
                    · rw [upd2_z (by omega)]
                      exact hz9 b (by omega)))))
  · first
    | (exfalso; omega)
    | (refine gx_aload_n hx dX9_possibleAddresses_8 rfl ?_
       refine gx_iconst hx dX9_possibleAddresses_9 ?_
       refine gx_callI hx (c_X9_fails _ _) lkX9_93 mwX9_fails dX9_possibleAddresses_10 (by decide) rfl rfl rfl rfl (Nat.le_of_ble_eq_true rfl) (by decide) ⟨by decide, by decide⟩ (fun z_10 σ_10 hz_10 => ?_)
       obtain ⟨rfl, rfl⟩ := hz_10
       refine hret _ _ _ _ _ _ _ (by decide) (by decide) dX9_possibleAddresses_13 rfl rfl ?_
       exact ⟨1, (P, hs, sv, T, er), by show sp_possibleAddresses (P, hs, sv, T, er) z = _; rw [sp_possibleAddresses, if_pos (by omega)], MZ.q hR FR.refl 1 1 rfl⟩)
set_option maxRecDepth 20000 in
set_option maxHeartbeats 400000 in
theorem c_X9_round (g : Gm) (l : Launch) {σ : Sg} {P : List It} (hM : MP σ P) (hu : udf P = 0) : KI g l yX9_round cX9_round 3 ((some .boolean)) (5) 0 0 [.inr 70] σ (fun r τ => ((r = 1 ∧ msf P (fm P) ≠ 0) ∨ (r = 0 ∧ msf P (fm P) = 0)) ∧ MP τ (rnd P) ∧ FR σ τ cR f1) := by
  refine startI (own := RX9) (by decide +kernel) rfl (Nat.le_of_ble_eq_true rfl) ?_
  intro X hx _ _ hret
  obtain ⟨hok, hn, hit⟩ := id hM
  have hl40 := hok.1
  have hG := fun i (_ : i < P.length) => grF_ok hok P.length i
  refine gx_aload_n hx dX9_round_0 rfl ?_
  refine gx_callV hx (c_X9_lays _ _ hM) lkX9_143 mwX9_lays dX9_round_1 (by decide) rfl rfl rfl rfl (Nat.le_of_ble_eq_true rfl) (by decide) ⟨by decide, by decide⟩ (fun σ_1 hz_1 => ?_)
  obtain ⟨hY1, hF1⟩ := hz_1
  have hM1 := hM.fr hF1 rfl
  refine gx_iconst hx dX9_round_4 ?_
  refine gx_istore_n hx dX9_round_5 (Nat.le_of_ble_eq_true rfl) ?_
  refine gx_iconst hx dX9_round_6 ?_
  refine gx_istore_n hx dX9_round_7 (Nat.le_of_ble_eq_true rfl) ?_
  refine gx_loop (α := Nat × Int × Sg) (fun x => x.1 ≤ P.length ∧ ((x.2.1 = 1 ∧ cnt (fun i => decide (isT P i ∧ mis P (fm P) i)) x.1 ≠ 0) ∨ (x.2.1 = 0 ∧ cnt (fun i => decide (isT P i ∧ mis P (fm P) i)) x.1 = 0)) ∧ (∀ q : Nat, q < x.1 → x.2.2 80 (q : Int) = (grF P P.length q : Int)) ∧ FR σ_1 x.2.2 c80 fN) (fun x => P.length - x.1) (fun x => [some (.inr 70), some (.inl x.2.1), some (.inl (x.1 : Int))]) (fun _ => []) (fun x => x.2.2) ?_ (0, 0, σ_1) ⟨Nat.zero_le _, Or.inr ⟨rfl, rfl⟩, fun q hq => absurd hq (Nat.not_lt_zero _), FR.refl⟩
  rintro ⟨i, any, τ⟩ ⟨hi1, hany, h80, hF2⟩ ih1
  dsimp only at hi1 hany h80 hF2 ih1 ⊢
  have hM2 := hM1.fr hF2 rfl
  have hY2 := hY1.fr hF2 rfl
  have hri := hM.rg i
  refine gx_iload_n hx dX9_round_8 rfl ?_
  refine gx_aload_n hx dX9_round_9 rfl ?_
  refine gx_getR hx flX9_7 dX9_round_10 (by decide) rfl rfl ?_
  refine gx_iconst hx dX9_round_13 ?_
  refine gx_iald hx dX9_round_14 (by decide) rfl (by omega) (by omega) (by decide) ?_
  rw [hM2.2.1]
  refine gx_icmp_ge (tgt := 67) hx dX9_round_15 (by decide) ⟨by omega, by omega⟩ ⟨by omega, by omega⟩ (fun h15 => ?_) (fun h15 => ?_)
  · first
    | (exfalso; omega)
    | (refine gx_iconst hx dX9_round_67 ?_
       refine gx_istore_n hx dX9_round_68 (Nat.le_of_ble_eq_true rfl) ?_
       have ei : i = P.length := by omega
       subst ei
       refine gx_loop (α := Nat × Sg) (fun x => x.1 ≤ P.length ∧ MP x.2 (setF P (mixF P (grF P P.length) x.1)) ∧ x.2 80 = τ 80 ∧ FR σ x.2 cR f1) (fun x => P.length - x.1) (fun x => [some (.inr 70), some (.inl any), some (.inl (x.1 : Int))]) (fun _ => []) (fun x => x.2) ?_ (0, τ) ⟨Nat.zero_le _, by dsimp only; rw [mix_0]; exact hM2, rfl, hF1.R2.trans hF2.R80⟩
       rintro ⟨k, υ⟩ ⟨hk1, hMk, e80, hFk⟩ ih2
       dsimp only at hk1 hMk e80 hFk ih2 ⊢
       have hk80 : ∀ q : Nat, q < P.length → υ 80 (q : Int) = (grF P P.length q : Int) := fun q hq => by rw [e80]; exact h80 q hq
       refine gx_iload_n hx dX9_round_69 rfl ?_
       refine gx_aload_n hx dX9_round_70 rfl ?_
       refine gx_getR hx flX9_7 dX9_round_71 (by decide) rfl rfl ?_
       refine gx_iconst hx dX9_round_74 ?_
       refine gx_iald hx dX9_round_75 (by decide) rfl (by omega) (by omega) (by decide) ?_
       rw [hMk.2.1, setF_len]
       refine gx_icmp_ge (tgt := 96) hx dX9_round_76 (by decide) ⟨by omega, by omega⟩ ⟨by omega, by omega⟩ (fun h76 => ?_) (fun h76 => ?_)
       · first
         | (exfalso; omega)
         | (refine gx_iload_n hx dX9_round_96 rfl ?_
            refine hret _ _ _ _ _ _ _ (by decide) (by decide) dX9_round_97 rfl (nar_z (by omega)) ?_
            have ek : k = P.length := by omega
            subst ek
            rw [mix_all] at hMk
            exact ⟨hany, hMk, hFk⟩)
       · first
         | (exfalso; omega)
         | (refine gx_aload_n hx dX9_round_79 rfl ?_
            refine gx_iload_n hx dX9_round_80 rfl ?_
            refine gx_aload_n hx dX9_round_81 rfl ?_
            refine gx_getR hx flX9_43 dX9_round_82 (by decide) rfl rfl ?_
            refine gx_iload_n hx dX9_round_85 rfl ?_
            refine gx_iald hx dX9_round_86 (by decide) rfl (by omega) (by omega) (by decide) ?_
            rw [hk80 k (by omega)]
            refine gx_callV hx (c_X9_forms (z := (k : Int)) _ _ (by omega) (by omega)) lkX9_113 mwX9_forms dX9_round_87 (by decide) rfl rfl rfl rfl (Nat.le_of_ble_eq_true rfl) (by decide) ⟨by decide, by decide⟩ (fun σ_87 hz_87 => ?_)
            subst hz_87
            refine gx_iinc hx dX9_round_90 (Nat.le_of_ble_eq_true rfl) rfl ?_
            refine gx_goto (tgt := 69) hx dX9_round_93 (by decide) ?_
            refine ih2 (k + 1, upd2 υ 71 (81 + (k : Int)) (grF P P.length k : Int)) ⟨by omega, MP_mix hok hG (by omega) hMk, (by dsimp only; rw [upd2_other 80 (by decide)]; exact e80), hFk.trans (FR.upd (by decide) rfl)⟩ (by dsimp only; omega)))
  · first
    | (exfalso; omega)
    | (refine gx_aload_n hx dX9_round_18 rfl ?_
       refine gx_getR hx flX9_43 dX9_round_19 (by decide) rfl rfl ?_
       refine gx_iload_n hx dX9_round_22 rfl ?_
       refine gx_aload_n hx dX9_round_23 rfl ?_
       refine gx_iload_n hx dX9_round_24 rfl ?_
       refine gx_callI hx (c_X9_form (i := i) _ _ hM2 (by omega)) lkX9_83 mwX9_form dX9_round_25 (by decide) rfl rfl rfl rfl (Nat.le_of_ble_eq_true rfl) (by decide) ⟨by decide, by decide⟩ (fun z_25 σ_25 hz_25 => ?_)
       obtain ⟨rfl, rfl⟩ := hz_25
       refine gx_iast hx dX9_round_28 (by decide) rfl (by omega) (by omega) (by decide) ?_
       have hM3 : MP (upd2 τ 80 (i : Int) (fm P i : Int)) P := hM2.same (upd2_other 71 (by decide))
       have hY3 : YM (upd2 τ 80 (i : Int) (fm P i : Int)) P := hY2.same (upd2_other 75 (by decide))
       refine gx_aload_n hx dX9_round_29 rfl ?_
       refine gx_iload_n hx dX9_round_30 rfl ?_
       refine gx_callI hx (c_X9_isTransfer (i := i) _ _ hM3 (by omega)) lkX9_146 mwX9_isTransfer dX9_round_31 (by decide) rfl rfl rfl rfl (Nat.le_of_ble_eq_true rfl) (by decide) ⟨by decide, by decide⟩ (fun z_31 σ_31 hz_31 => ?_)
       obtain ⟨e9, rfl⟩ := hz_31
       replace e9 := ite10 e9
       refine gx_if_eq (tgt := 61) hx dX9_round_34 (by decide) ⟨by omega, by omega⟩ (fun h34 => ?_) (fun h34 => ?_)
       · first
         | (exfalso; omega)
         | (refine gx_iinc hx dX9_round_61 (Nat.le_of_ble_eq_true rfl) rfl ?_
            refine gx_goto (tgt := 8) hx dX9_round_64 (by decide) ?_
            first
            | (have hmi : isT P i ∧ mis P (fm P) i := ⟨by omega, by unfold mis; omega⟩
               refine ih1 (i + 1, 1, upd2 (upd2 τ 80 (i : Int) (fm P i : Int)) 80 (i : Int) (ndF (dsp P (fm P) i) : Int)) ⟨by omega, Or.inl ⟨rfl, ?_⟩, fun q hq => ?_, hF2.trans (FR.trans (FR.upd (by decide) rfl) (FR.upd (by decide) rfl))⟩ (by dsimp only; omega)
               · dsimp only
                 rw [cnt, if_pos (by simp only [decide_eq_true_eq]; exact hmi)]
                 omega
               · dsimp only at hq ⊢
                 by_cases e : q = i
                 · subst e
                   rw [upd2_at, grF, if_pos ⟨by omega, hmi⟩]
                 · rw [upd2_z (by omega), upd2_z (by omega)]
                   exact h80 q (by omega))
            | (have hmi : ¬ (isT P i ∧ mis P (fm P) i) := fun h9 => by
                 have h1 := h9.1
                 have h2 := h9.2
                 unfold mis at h2
                 omega
               refine ih1 (i + 1, any, upd2 τ 80 (i : Int) (fm P i : Int)) ⟨by omega, ?_, fun q hq => ?_, hF2.trans (FR.upd (by decide) rfl)⟩ (by dsimp only; omega)
               · dsimp only
                 rw [cnt, if_neg (by simp only [decide_eq_true_eq]; exact hmi)]
                 exact hany
               · dsimp only at hq ⊢
                 by_cases e : q = i
                 · subst e
                   rw [upd2_at, grF, if_neg (fun h9 => hmi h9.2)]
                 · rw [upd2_z (by omega)]
                   exact h80 q (by omega)))
       · first
         | (exfalso; omega)
         | (refine gx_aload_n hx dX9_round_37 rfl ?_
            refine gx_iload_n hx dX9_round_38 rfl ?_
            refine gx_callI hx (c_X9_isFit (i := i) _ _ hM3 hY3 (by omega) (udf_zero hu (by omega) (by omega)).1) lkX9_171 mwX9_isFit dX9_round_39 (by decide) rfl rfl rfl rfl (Nat.le_of_ble_eq_true rfl) (by decide) ⟨by decide, by decide⟩ (fun z_39 σ_39 hz_39 => ?_)
            obtain ⟨e8, rfl⟩ := hz_39
            refine gx_if_ne (tgt := 61) hx dX9_round_42 (by decide) ⟨by omega, by omega⟩ (fun h42 => ?_) (fun h42 => ?_)
            · first
              | (exfalso; omega)
              | (refine gx_iinc hx dX9_round_61 (Nat.le_of_ble_eq_true rfl) rfl ?_
                 refine gx_goto (tgt := 8) hx dX9_round_64 (by decide) ?_
                 first
                 | (have hmi : isT P i ∧ mis P (fm P) i := ⟨by omega, by unfold mis; omega⟩
                    refine ih1 (i + 1, 1, upd2 (upd2 τ 80 (i : Int) (fm P i : Int)) 80 (i : Int) (ndF (dsp P (fm P) i) : Int)) ⟨by omega, Or.inl ⟨rfl, ?_⟩, fun q hq => ?_, hF2.trans (FR.trans (FR.upd (by decide) rfl) (FR.upd (by decide) rfl))⟩ (by dsimp only; omega)
                    · dsimp only
                      rw [cnt, if_pos (by simp only [decide_eq_true_eq]; exact hmi)]
                      omega
                    · dsimp only at hq ⊢
                      by_cases e : q = i
                      · subst e
                        rw [upd2_at, grF, if_pos ⟨by omega, hmi⟩]
                      · rw [upd2_z (by omega), upd2_z (by omega)]
                        exact h80 q (by omega))
                 | (have hmi : ¬ (isT P i ∧ mis P (fm P) i) := fun h9 => by
                      have h1 := h9.1
                      have h2 := h9.2
                      unfold mis at h2
                      omega
                    refine ih1 (i + 1, any, upd2 τ 80 (i : Int) (fm P i : Int)) ⟨by omega, ?_, fun q hq => ?_, hF2.trans (FR.upd (by decide) rfl)⟩ (by dsimp only; omega)
                    · dsimp only
                      rw [cnt, if_neg (by simp only [decide_eq_true_eq]; exact hmi)]
                      exact hany
                    · dsimp only at hq ⊢
                      by_cases e : q = i
                      · subst e
                        rw [upd2_at, grF, if_neg (fun h9 => hmi h9.2)]
                      · rw [upd2_z (by omega)]
                        exact h80 q (by omega)))
            · first
              | (exfalso; omega)
              | (refine gx_aload_n hx dX9_round_45 rfl ?_
                 refine gx_getR hx flX9_43 dX9_round_46 (by decide) rfl rfl ?_
                 refine gx_iload_n hx dX9_round_49 rfl ?_
                 refine gx_aload_n hx dX9_round_50 rfl ?_
                 refine gx_iload_n hx dX9_round_51 rfl ?_
                 refine gx_callI hx (c_X9_off (i := i) _ _ hM3 hY3 (by omega) (udf_zero hu (by omega) (by omega)).1) lkX9_162 mwX9_off dX9_round_52 (by decide) rfl rfl rfl rfl (Nat.le_of_ble_eq_true rfl) (by decide) ⟨by decide, by decide⟩ (fun z_52 σ_52 hz_52 => ?_)
                 obtain ⟨rfl, rfl⟩ := hz_52
                 have hdr := dsp_rg hok (fm P) (show i < P.length by omega)
                 refine gx_callS hx (c_X9_needed _ _ ⟨by omega, by omega⟩) lkX9_165 mwX9_needed dX9_round_55 rfl rfl (Nat.le_of_ble_eq_true rfl) (by decide) ⟨by decide, by decide⟩ (fun z_55 σ_55 hz_55 => ?_)
                 obtain ⟨rfl, rfl⟩ := hz_55
                 refine gx_iast hx dX9_round_58 (by decide) rfl (by omega) (by omega) (by decide) ?_
                 refine gx_iconst hx dX9_round_59 ?_
                 refine gx_istore_n hx dX9_round_60 (Nat.le_of_ble_eq_true rfl) ?_
                 refine gx_iinc hx dX9_round_61 (Nat.le_of_ble_eq_true rfl) rfl ?_
                 refine gx_goto (tgt := 8) hx dX9_round_64 (by decide) ?_
                 first
                 | (have hmi : isT P i ∧ mis P (fm P) i := ⟨by omega, by unfold mis; omega⟩
                    refine ih1 (i + 1, 1, upd2 (upd2 τ 80 (i : Int) (fm P i : Int)) 80 (i : Int) (ndF (dsp P (fm P) i) : Int)) ⟨by omega, Or.inl ⟨rfl, ?_⟩, fun q hq => ?_, hF2.trans (FR.trans (FR.upd (by decide) rfl) (FR.upd (by decide) rfl))⟩ (by dsimp only; omega)
                    · dsimp only
                      rw [cnt, if_pos (by simp only [decide_eq_true_eq]; exact hmi)]
                      omega
                    · dsimp only at hq ⊢
                      by_cases e : q = i
                      · subst e
                        rw [upd2_at, grF, if_pos ⟨by omega, hmi⟩]
                      · rw [upd2_z (by omega), upd2_z (by omega)]
                        exact h80 q (by omega))
                 | (have hmi : ¬ (isT P i ∧ mis P (fm P) i) := fun h9 => by
                      have h1 := h9.1
                      have h2 := h9.2
                      unfold mis at h2
                      omega
                    refine ih1 (i + 1, any, upd2 τ 80 (i : Int) (fm P i : Int)) ⟨by omega, ?_, fun q hq => ?_, hF2.trans (FR.upd (by decide) rfl)⟩ (by dsimp only; omega)
                    · dsimp only
                      rw [cnt, if_neg (by simp only [decide_eq_true_eq]; exact hmi)]
                      exact hany
                    · dsimp only at hq ⊢
                      by_cases e : q = i
                      · subst e
                        rw [upd2_at, grF, if_neg (fun h9 => hmi h9.2)]
                      · rw [upd2_z (by omega)]
                        exact h80 q (by omega)))))
set_option maxRecDepth 20000 in
set_option maxHeartbeats 400000 in
theorem c_X9_relax (g : Gm) (l : Launch) {σ : Sg} {A : AS} (hR : MR σ A) : KI g l yX9_relax cX9_relax 2 ((some .int)) (6) 0 0 [.inr 70] σ (MPI (sp_relax A) σ) := by
  refine startI (own := RX9) (by decide +kernel) rfl (Nat.le_of_ble_eq_true rfl) ?_
  intro X hx _ _ hret
  obtain ⟨P, hs, sv, T, er⟩ := A
  obtain ⟨hM, hH, hS, hT, he1, he2, he3, hN⟩ := id hR
  obtain ⟨hok, hn, hit⟩ := id hM
  have hl40 := hok.1
  refine gx_aload_n hx dX9_relax_0 rfl ?_
  refine gx_callI hx (c_X9_undefined _ _ hM) lkX9_159 mwX9_undefined dX9_relax_1 (by decide) rfl rfl rfl rfl (Nat.le_of_ble_eq_true rfl) (by decide) ⟨by decide, by decide⟩ (fun z_1 σ_1 hz_1 => ?_)
  obtain ⟨rfl, rfl⟩ := hz_1
  have hul : udf P ≤ P.length := cnt_le _ _
  refine gx_if_le (tgt := 13) hx dX9_relax_4 (by decide) ⟨by omega, by omega⟩ (fun h4 => ?_) (fun h4 => ?_)
  · first
    | (exfalso; omega)
    | (have hu : udf P = 0 := by omega
       refine gx_aload_n hx dX9_relax_13 rfl ?_
       refine gx_callV hx (c_X9_remembers _ _ hM hH) lkX9_131 mwX9_remembers dX9_relax_14 (by decide) rfl rfl rfl rfl (Nat.le_of_ble_eq_true rfl) (by decide) ⟨by decide, by decide⟩ (fun σ_14 hz_14 => ?_)
       obtain ⟨hH1, hF1⟩ := hz_14
       have hM1 := hM.fr hF1 rfl
       refine gx_iconst hx dX9_relax_17 ?_
       refine gx_istore_n hx dX9_relax_18 (Nat.le_of_ble_eq_true rfl) ?_
       refine gx_loop (α := Nat × Sg) (fun x => x.1 ≤ P.length ∧ MP x.2 (setF P (mixF P (fun _ => 0) x.1)) ∧ FR σ_14 x.2 c71 fN) (fun x => P.length - x.1) (fun x => [some (.inr 70), some (.inl (x.1 : Int))]) (fun _ => []) (fun x => x.2) ?_ (0, σ_14) ⟨Nat.zero_le _, by dsimp only; rw [mix_0]; exact hM1, FR.refl⟩
       rintro ⟨k, υ⟩ ⟨hk1, hMk, hFk⟩ ih2
       dsimp only at hk1 hMk hFk ih2 ⊢
       refine gx_iload_n hx dX9_relax_19 rfl ?_
       refine gx_aload_n hx dX9_relax_20 rfl ?_
       refine gx_getR hx flX9_7 dX9_relax_21 (by decide) rfl rfl ?_
       refine gx_iconst hx dX9_relax_24 ?_
       refine gx_iald hx dX9_relax_25 (by decide) rfl (by omega) (by omega) (by decide) ?_
       rw [hMk.2.1, setF_len]
       refine gx_icmp_ge (tgt := 41) hx dX9_relax_26 (by decide) ⟨by omega, by omega⟩ ⟨by omega, by omega⟩ (fun h26 => ?_) (fun h26 => ?_)
       · first
         | (exfalso; omega)
         | (refine gx_iconst hx dX9_relax_41 ?_
            refine gx_istore_n hx dX9_relax_42 (Nat.le_of_ble_eq_true rfl) ?_
            have ek : k = P.length := by omega
            subst ek
            rw [mix_all] at hMk
            have hz9 := zF_ok hok
            have hzl : (zF P).length = P.length := setF_len P _
            refine gx_loop (α := Nat × Sg) (fun x => MP x.2 (itr x.1 (zF P)) ∧ (∀ j, j < x.1 → msf (itr j (zF P)) (fm (itr j (zF P))) ≠ 0) ∧ FR υ x.2 cR f1) (fun x => 81 - x.1) (fun x => [some (.inr 70), some (.inl (x.1 : Int))]) (fun _ => []) (fun x => x.2) ?_ (0, υ) ⟨hMk, fun j hj => absurd hj (Nat.not_lt_zero _), FR.refl⟩
            rintro ⟨n, ω⟩ ⟨hMn, hnn, hFn⟩ ih3
            dsimp only at hMn hnn hFn ih3 ⊢
            have hn80 : n ≤ 80 := by
              have h1 := itr_grows hz9 n hnn
              have h2 := sF_le (itr_ok hz9 n) (zF P).length
              omega
            have hun : udf (itr n (zF P)) = 0 := by rw [← udf_ko (KO_itr n (zF P)), show udf (zF P) = udf P from (udf_ko (KO_setF P _)).symm]; exact hu
            refine gx_aload_n hx dX9_relax_43 rfl ?_
            refine gx_callI hx (c_X9_round (P := itr n (zF P)) _ _ hMn hun) lkX9_177 mwX9_round dX9_relax_44 (by decide) rfl rfl rfl rfl (Nat.le_of_ble_eq_true rfl) (by decide) ⟨by decide, by decide⟩ (fun z_44 σ_44 hz_44 => ?_)
            obtain ⟨e9, hM3, hF3⟩ := hz_44
            refine gx_if_eq (tgt := 56) hx dX9_relax_47 (by decide) ⟨by omega, by omega⟩ (fun h47 => ?_) (fun h47 => ?_)
            · first
              | (exfalso; omega)
              | (refine gx_aload_n hx dX9_relax_56 rfl ?_
                 refine gx_iload_n hx dX9_relax_57 rfl ?_
                 refine gx_callI hx (c_X9_done _ _) lkX9_90 mwX9_done dX9_relax_58 (by decide) rfl rfl rfl rfl (Nat.le_of_ble_eq_true rfl) (by decide) ⟨by decide, by decide⟩ (fun z_58 σ_58 hz_58 => ?_)
                 obtain ⟨rfl, rfl⟩ := hz_58
                 refine hret _ _ _ _ _ _ _ (by decide) (by decide) dX9_relax_61 rfl rfl ?_
                 have hmn : msf (itr n (zF P)) (fm (itr n (zF P))) = 0 := by omega
                 rw [rnd_same hmn] at hM3
                 have hF : FR σ σ_44 cP fP := hF1.P72.trans (hFk.P71.trans (hFn.trans hF3).PR)
                 have hF9 : FR σ_14 σ_44 cR f1 := hFk.R71.trans (hFn.trans hF3)
                 have hH2 := hH1.same (hF9.2 3 rfl) (hF9.1 72 (by decide) rfl)
                 exact ⟨0, (itr n (zF P), psh P hs, sv, T, er), Or.inr ⟨hu, n, rfl, rfl, rfl, hmn, hnn⟩, MZ.t (hR.change hM3 hH2 hF) hF.PA 0 0 rfl⟩)
            · first
              | (exfalso; omega)
              | (refine gx_iinc hx dX9_relax_50 (Nat.le_of_ble_eq_true rfl) rfl ?_
                 refine gx_goto (tgt := 43) hx dX9_relax_53 (by decide) ?_
                 have hmn : msf (itr n (zF P)) (fm (itr n (zF P))) ≠ 0 := by omega
                 refine ih3 (n + 1, σ_44) ⟨hM3, fun j hj => ?_, hFn.trans hF3⟩ (by dsimp only; omega)
                 dsimp only at hj
                 rcases Nat.lt_or_ge j n with h | h
                 · exact hnn j h
                 · have e : j = n := by omega
                   subst e
                   exact hmn))
       · first
         | (exfalso; omega)
         | (refine gx_aload_n hx dX9_relax_29 rfl ?_
            refine gx_iload_n hx dX9_relax_30 rfl ?_
            refine gx_iconst hx dX9_relax_31 ?_
            refine gx_callV hx (c_X9_forms (z := (k : Int)) (v := 0) _ _ (by omega) (by omega)) lkX9_113 mwX9_forms dX9_relax_32 (by decide) rfl rfl rfl rfl (Nat.le_of_ble_eq_true rfl) (by decide) ⟨by decide, by decide⟩ (fun σ_32 hz_32 => ?_)
            subst hz_32
            refine gx_iinc hx dX9_relax_35 (Nat.le_of_ble_eq_true rfl) rfl ?_
            refine gx_goto (tgt := 19) hx dX9_relax_38 (by decide) ?_
            refine ih2 (k + 1, upd2 υ 71 (81 + (k : Int)) 0) ⟨by omega, MP_mix (G := fun _ => 0) hok (fun i _ => ⟨Nat.zero_le _, fun _ => rfl⟩) (by omega) hMk, hFk.trans (FR.upd (by decide) rfl)⟩ (by dsimp only; omega)))
  · first
    | (exfalso; omega)
    | (refine gx_aload_n hx dX9_relax_7 rfl ?_
       refine gx_iconst hx dX9_relax_8 ?_
       refine gx_callI hx (c_X9_fails _ _) lkX9_93 mwX9_fails dX9_relax_9 (by decide) rfl rfl rfl rfl (Nat.le_of_ble_eq_true rfl) (by decide) ⟨by decide, by decide⟩ (fun z_9 σ_9 hz_9 => ?_)
       obtain ⟨rfl, rfl⟩ := hz_9
       refine hret _ _ _ _ _ _ _ (by decide) (by decide) dX9_relax_12 rfl rfl ?_
       exact ⟨1, (P, hs, sv, T, er), Or.inl ⟨by omega, rfl, rfl, rfl⟩, MZ.q hR FR.refl 1 1 rfl⟩)
