/-! AddressSet -/
set_option maxRecDepth 20000 in
set_option maxHeartbeats 400000 in
theorem c_X0_hold (g : Gm) (l : Launch) {σ : Sg} {S B : Nat → Prop} {b : Nat} {z : Int} (hA : AM σ S B) (hb : b < 2048) (hz : z = (b : Int)) : KV g l yX0_hold cX0_hold 2 0 0 0 [.inr 67, .inl z] σ (fun σ' => AM σ' (fun x => S x ∨ x = b) (fun x => B x ∨ x = b) ∧ SO σ σ' 67 68) := by
  refine startV (own := RX0) (by decide +kernel) rfl (Nat.le_of_ble_eq_true rfl) ?_
  intro X hx _ _ hret
  obtain ⟨⟨m1, m2, m3, m4⟩, m5, m6⟩ := id hA
  subst hz
  refine gx_iload_n hx dX0_hold_0 rfl ?_
  refine gx_if_lt (tgt := 42) hx dX0_hold_1 (by decide) ⟨by omega, by omega⟩ (fun h1 => ?_) (fun h1 => ?_)
  · first
    | (exfalso; omega)
    | (refine hret _ _ _ _ _ (by decide) (by decide) dX0_hold_42 ?_
       refine ⟨⟨?_, fun x hx => ?_, fun x hx => ?_⟩, SO.trans (SO.upd (by decide) (by decide)) (SO.trans (SO.upd (by decide) (by decide)) (SO.upd (by decide) (by decide)))⟩
       · rw [upd2_ne (by decide), upd2_at, upd2_at]
         split <;> split <;> omega
       · rw [upd2_ne (by omega), upd2_ne (by omega)]
         by_cases e : x = b
         · subst e
           rw [upd2_at]
           exact Or.inl ⟨rfl, Or.inr rfl⟩
         · rw [upd2_ne (by omega)]
           rcases m5 x hx with ⟨h1, h2⟩ | ⟨h1, h2⟩
           · exact Or.inl ⟨h1, Or.inl h2⟩
           · exact Or.inr ⟨h1, fun h => h.elim h2 e⟩
       · rw [upd2_ne (by decide), upd2_at, upd2_at]
         rcases hx with h | h
         · have := m6 x h
           split <;> split <;> omega
         · split <;> split <;> omega)
  · first
    | (exfalso; omega)
    | (refine gx_iload_n hx dX0_hold_4 rfl ?_
       refine gx_sipush hx dX0_hold_5 (by decide) ?_
       refine gx_icmp_ge (tgt := 42) hx dX0_hold_8 (by decide) ⟨by omega, by omega⟩ ⟨by omega, by omega⟩ (fun h8 => ?_) (fun h8 => ?_)
       · first
         | (exfalso; omega)
         | (refine hret _ _ _ _ _ (by decide) (by decide) dX0_hold_42 ?_
            refine ⟨⟨?_, fun x hx => ?_, fun x hx => ?_⟩, SO.trans (SO.upd (by decide) (by decide)) (SO.trans (SO.upd (by decide) (by decide)) (SO.upd (by decide) (by decide)))⟩
            · rw [upd2_ne (by decide), upd2_at, upd2_at]
              split <;> split <;> omega
            · rw [upd2_ne (by omega), upd2_ne (by omega)]
              by_cases e : x = b
              · subst e
                rw [upd2_at]
                exact Or.inl ⟨rfl, Or.inr rfl⟩
              · rw [upd2_ne (by omega)]
                rcases m5 x hx with ⟨h1, h2⟩ | ⟨h1, h2⟩
                · exact Or.inl ⟨h1, Or.inl h2⟩
                · exact Or.inr ⟨h1, fun h => h.elim h2 e⟩
            · rw [upd2_ne (by decide), upd2_at, upd2_at]
              rcases hx with h | h
              · have := m6 x h
                split <;> split <;> omega
              · split <;> split <;> omega)
       · first
         | (exfalso; omega)
         | (refine gx_aload_n hx dX0_hold_11 rfl ?_
            refine gx_getR hx flX0_9 dX0_hold_12 (by decide) rfl rfl ?_
            refine gx_iload_n hx dX0_hold_15 rfl ?_
            refine gx_iconst hx dX0_hold_16 ?_
            refine gx_zast hx dX0_hold_17 (by decide) rfl (by omega) (by omega) (by decide) rfl ?_
            refine gx_aload_n hx dX0_hold_18 rfl ?_
            refine gx_aload_n hx dX0_hold_19 rfl ?_
            refine gx_getI hx flX0_15 dX0_hold_20 (by decide) rfl rfl 3 rfl ?_
            refine gx_iload_n hx dX0_hold_23 rfl ?_
            rw [upd2_ne (by omega)]
            refine gx_min hx wMinX0 wMin1 wMax2 wMin3 dX0_hold_24 ⟨by omega, by omega⟩ ⟨by omega, by omega⟩ (Nat.le_of_ble_eq_true rfl) (by decide) (by decide) ?_
            refine gx_put hx fpX0_15 dX0_hold_27 (by decide) rfl rfl rfl rfl 3 rfl ?_
            refine gx_aload_n hx dX0_hold_30 rfl ?_
            refine gx_aload_n hx dX0_hold_31 rfl ?_
            refine gx_getI hx flX0_19 dX0_hold_32 (by decide) rfl rfl 4 rfl ?_
            refine gx_iload_n hx dX0_hold_35 rfl ?_
            rw [upd2_ne (by omega), upd2_ne (by omega)]
            refine gx_max hx wMaxX0 wMax1 wMax2 wMax3 dX0_hold_36 ⟨by omega, by omega⟩ ⟨by omega, by omega⟩ (Nat.le_of_ble_eq_true rfl) (by decide) (by decide) ?_
            refine gx_put hx fpX0_19 dX0_hold_39 (by decide) rfl rfl rfl rfl 4 rfl ?_
            refine hret _ _ _ _ _ (by decide) (by decide) dX0_hold_42 ?_
            refine ⟨⟨?_, fun x hx => ?_, fun x hx => ?_⟩, SO.trans (SO.upd (by decide) (by decide)) (SO.trans (SO.upd (by decide) (by decide)) (SO.upd (by decide) (by decide)))⟩
            · rw [upd2_ne (by decide), upd2_at, upd2_at]
              split <;> split <;> omega
            · rw [upd2_ne (by omega), upd2_ne (by omega)]
              by_cases e : x = b
              · subst e
                rw [upd2_at]
                exact Or.inl ⟨rfl, Or.inr rfl⟩
              · rw [upd2_ne (by omega)]
                rcases m5 x hx with ⟨h1, h2⟩ | ⟨h1, h2⟩
                · exact Or.inl ⟨h1, Or.inl h2⟩
                · exact Or.inr ⟨h1, fun h => h.elim h2 e⟩
            · rw [upd2_ne (by decide), upd2_at, upd2_at]
              rcases hx with h | h
              · have := m6 x h
                split <;> split <;> omega
              · split <;> split <;> omega))
set_option maxRecDepth 20000 in
set_option maxHeartbeats 400000 in
theorem c_X0_startWithZero (g : Gm) (l : Launch) {σ : Sg} {S : Nat → Prop} (hA : AM σ S S) : KV g l yX0_startWithZero cX0_startWithZero 2 0 0 0 [.inr 67] σ (fun σ' => AM σ' (fun x => x = 0) (fun x => x = 0) ∧ SO σ σ' 67 68) := by
  refine startV (own := RX0) (by decide +kernel) rfl (Nat.le_of_ble_eq_true rfl) ?_
  intro X hx _ _ hret
  obtain ⟨⟨m1, m2, m3, m4⟩, m5, m6⟩ := id hA
  refine gx_aload_n hx dX0_startWithZero_0 rfl ?_
  refine gx_getI hx flX0_15 dX0_startWithZero_1 (by decide) rfl rfl 3 rfl ?_
  refine gx_istore_n hx dX0_startWithZero_4 (Nat.le_of_ble_eq_true rfl) ?_
  refine GJ.cong (L' := [some (.inr 67), some (.inl (σ 67 3))]) (st' := []) (σ' := (fun c => fun k q => if k = 68 ∧ σ 67 3 ≤ q ∧ q < c then 0 else σ k q) (σ 67 3)) rfl rfl (by
    funext k q
    dsimp only
    rw [if_neg (by omega)]) ?_
  refine gx_loop (α := Int) (fun c => σ 67 3 ≤ c ∧ c ≤ 2048 ∧ (σ 67 3 ≤ σ 67 4 → c ≤ σ 67 4 + 1)) (fun c => (2048 - c).toNat) (fun c => [some (.inr 67), some (.inl c)]) (fun _ => []) (fun c => fun k q => if k = 68 ∧ σ 67 3 ≤ q ∧ q < c then 0 else σ k q) ?_ (σ 67 3) ⟨Int.le_refl _, by omega, fun h => by omega⟩
  rintro c ⟨hc1, hc2, hc3⟩ ih
  have e4 : (if 67 = 68 ∧ σ 67 3 ≤ 4 ∧ (4 : Int) < c then 0 else σ 67 4) = σ 67 4 := by rw [if_neg (by omega)]
  refine gx_iload_n hx dX0_startWithZero_5 rfl ?_
  
  refine gx_aload_n hx dX0_startWithZero_6 rfl ?_
  refine gx_getI hx flX0_19 dX0_startWithZero_7 (by decide) rfl rfl 4 rfl ?_
  refine gx_icmp_gt (tgt := 26) hx dX0_startWithZero_10 (by decide) ⟨by omega, by omega⟩ ⟨by omega, by omega⟩ (fun h10 => ?_) (fun h10 => ?_)
  · first
    | (exfalso; omega)
    | (refine gx_aload_n hx dX0_startWithZero_26 rfl ?_
       refine gx_getR hx flX0_9 dX0_startWithZero_27 (by decide) rfl rfl ?_
       refine gx_iconst hx dX0_startWithZero_30 ?_
       refine gx_iconst hx dX0_startWithZero_31 ?_
       refine gx_zast hx dX0_startWithZero_32 (by decide) rfl (by omega) (by omega) (by decide) rfl ?_
       refine gx_aload_n hx dX0_startWithZero_33 rfl ?_
       refine gx_iconst hx dX0_startWithZero_34 ?_
       refine gx_put hx fpX0_15 dX0_startWithZero_35 (by decide) rfl rfl rfl rfl 3 rfl ?_
       refine gx_aload_n hx dX0_startWithZero_38 rfl ?_
       refine gx_iconst hx dX0_startWithZero_39 ?_
       refine gx_put hx fpX0_19 dX0_startWithZero_40 (by decide) rfl rfl rfl rfl 4 rfl ?_
       refine hret _ _ _ _ _ (by decide) (by decide) dX0_startWithZero_43 ?_
       refine ⟨⟨?_, fun x hx => ?_, fun x hx => ?_⟩, fun k hk => ?_⟩
       · rw [upd2_ne (by decide), upd2_at, upd2_at]
         omega
       · rw [upd2_ne (by omega), upd2_ne (by omega)]
         by_cases e : x = 0
         · subst e
           rw [show ((0 : Nat) : Int) = 0 from rfl, upd2_at]
           exact Or.inl ⟨rfl, rfl⟩
         · rw [upd2_ne (by omega)]
           refine Or.inr ⟨?_, e⟩
           try dsimp only
           split
           · rfl
           · rename_i hno
             rcases m5 x hx with ⟨h1, h2⟩ | ⟨h1, h2⟩
             · have := m6 x h2
               exfalso
               apply hno
               omega
             · exact h1
       · rw [upd2_ne (by decide), upd2_at, upd2_at]
         omega
       · funext q
         rw [upd2_ne (by omega), upd2_ne (by omega), upd2_ne (by omega)]
         try dsimp only
         rw [if_neg (by omega)])
  · first
    | (exfalso; omega)
    | (refine gx_aload_n hx dX0_startWithZero_13 rfl ?_
       refine gx_getR hx flX0_9 dX0_startWithZero_14 (by decide) rfl rfl ?_
       refine gx_iload_n hx dX0_startWithZero_17 rfl ?_
       refine gx_iconst hx dX0_startWithZero_18 ?_
       refine gx_zast hx dX0_startWithZero_19 (by decide) rfl (by omega) (by omega) (by decide) rfl ?_
       refine gx_iinc hx dX0_startWithZero_20 (Nat.le_of_ble_eq_true rfl) rfl ?_
       refine gx_goto (tgt := 5) hx dX0_startWithZero_23 (by decide) ?_
       refine GJ.cong rfl rfl ?_ (ih (c + 1) ⟨by omega, by omega, fun h => by omega⟩ (by omega))
       funext k q
       simp only [upd2]
       repeat' split
       all_goals first | rfl | (exfalso; omega))
set_option maxRecDepth 20000 in
set_option maxHeartbeats 400000 in
theorem c_X0_passItem (g : Gm) (l : Launch) {σ : Sg} {P : List It} {S : Nat → Prop} {i : Nat} (hP : PR σ 0 P) (hL : LR σ P) (hA : AM σ S S) (hi : i < P.length) (hS : ∀ a f, S a → f ≤ 2 → a + sz P i f a < 2048) : KV g l yX0_passItem cX0_passItem 7 3 0 0 [.inr 67, .inl (i : Int)] σ (fun σ' => AM σ' (fun b => ∃ a, S a ∧ ∃ f, f ≤ 2 ∧ b = a + sz P i f a) (fun b => ∃ a, S a ∧ ∃ f, f ≤ 2 ∧ b = a + sz P i f a) ∧ SO σ σ' 67 68) := by
  refine startV (own := RX0) (by decide +kernel) rfl (Nat.le_of_ble_eq_true rfl) ?_
  intro X hx _ _ hret
  obtain ⟨⟨m1, m2, m3, m4⟩, m5, m6⟩ := id hA
  obtain ⟨hok, hc, hg9⟩ := id hP
  have hn := hok.1
  refine gx_aload_n hx dX0_passItem_0 rfl ?_
  refine gx_getI hx flX0_19 dX0_passItem_1 (by decide) rfl rfl 4 rfl ?_
  refine gx_istore_n hx dX0_passItem_4 (Nat.le_of_ble_eq_true rfl) ?_
  refine gx_aload_n hx dX0_passItem_5 rfl ?_
  refine gx_getI hx flX0_15 dX0_passItem_6 (by decide) rfl rfl 3 rfl ?_
  refine gx_istore_n hx dX0_passItem_9 (Nat.le_of_ble_eq_true rfl) ?_
  refine gx_aload_n hx dX0_passItem_10 rfl ?_
  refine gx_getR hx flX0_22 dX0_passItem_11 (by decide) rfl rfl ?_
  refine gx_iload_n hx dX0_passItem_14 rfl ?_
  refine gx_callI hx (c_X6_isTransfer (j := 0) (i := i) _ _ (by decide) hP hi) lkX0_43 mwX6_isTransfer dX0_passItem_15 (by decide) rfl rfl rfl rfl (Nat.le_of_ble_eq_true rfl) (by decide) ⟨by decide, by decide⟩ (fun z_15 σ_15 hz_15 => ?_)
  obtain ⟨e9, rfl⟩ := hz_15
  have t9 := ite10 e9
  refine gx_if_eq (tgt := 25) hx dX0_passItem_18 (by decide) ⟨by omega, by omega⟩ (fun h18 => ?_) (fun h18 => ?_)
  · first
    | (exfalso; omega)
    | (refine gx_iconst hx dX0_passItem_25 ?_
       refine GJ.top (fun lf hlf => ?_)
       have hlf2 : (lf = 2 ∧ isT P i) ∨ (lf = 0 ∧ ¬ isT P i) := by unfold isT; omega
       refine gx_istore hx dX0_passItem_26 (Nat.le_of_ble_eq_true rfl) ?_
       refine gx_aload_n hx dX0_passItem_28 rfl ?_
       refine gx_sipush hx dX0_passItem_29 (by decide) ?_
       refine gx_put hx fpX0_15 dX0_passItem_32 (by decide) rfl rfl rfl rfl 3 rfl ?_
       refine gx_aload_n hx dX0_passItem_35 rfl ?_
       refine gx_iconst hx dX0_passItem_36 ?_
       refine gx_put hx fpX0_19 dX0_passItem_37 (by decide) rfl rfl rfl rfl 4 rfl ?_
       refine gx_iload_n hx dX0_passItem_40 rfl ?_
       refine gx_istore hx dX0_passItem_41 (Nat.le_of_ble_eq_true rfl) ?_
       refine GJ.cong (L' := [some (.inr 67), some (.inl (i : Int)), some (.inl (σ 67 4)), some (.inl (σ 67 3)), some (.inl lf), some (.inl ((((σ 67 4).toNat + 1 : Nat) : Int) - 1)), none]) (st' := []) (by rw [show ((((σ 67 4).toNat + 1 : Nat) : Int) - 1) = σ 67 4 by omega]; rfl) rfl rfl ?_
       refine gx_loop (α := Nat × Sg) (fun x => (x.1 : Int) ≤ σ 67 4 + 1 ∧ AM x.2 (fun y => (y < x.1 ∧ S y) ∨ (fun w => ∃ a, x.1 ≤ a ∧ S a ∧ ∃ f, f ≤ 2 ∧ w = a + sz P i f a) y) ((fun w => ∃ a, x.1 ≤ a ∧ S a ∧ ∃ f, f ≤ 2 ∧ w = a + sz P i f a)) ∧ SO σ x.2 67 68) (fun x => x.1) (fun x => [some (.inr 67), some (.inl (i : Int)), some (.inl (σ 67 4)), some (.inl (σ 67 3)), some (.inl lf), some (.inl ((x.1 : Int) - 1)), none]) (fun _ => []) (fun x => x.2) ?_ ((σ 67 4).toNat + 1, upd2 (upd2 σ 67 3 2047) 67 4 0) ⟨by dsimp only; omega, ?_, SO.trans (SO.upd (by decide) (by decide)) (SO.upd (by decide) (by decide))⟩
       · rintro ⟨c, τ⟩ ⟨hc1, hA1, hso⟩ ih
         dsimp only at hc1 hA1 hso ih ⊢
         obtain ⟨⟨n1, n2, n3, n4⟩, n5, n6⟩ := id hA1
         refine gx_iload hx dX0_passItem_43 rfl ?_
         refine gx_iload_n hx dX0_passItem_45 rfl ?_
         refine gx_icmp_lt (tgt := 108) hx dX0_passItem_46 (by decide) ⟨by omega, by omega⟩ ⟨by omega, by omega⟩ (fun h46 => ?_) (fun h46 => ?_)
         · first
           | (exfalso; omega)
           | (refine hret _ _ _ _ _ (by decide) (by decide) dX0_passItem_108 ?_
              refine ⟨hA1.congr (fun x hx => ?_) (fun x hx => ?_), hso⟩
              · constructor
                · rintro (h | ⟨a, g1, g2⟩)
                  · have := m6 x h.2
                    omega
                  · exact ⟨a, g2⟩
                · rintro ⟨a, g2, g3⟩
                  have := m6 a g2
                  exact Or.inr ⟨a, by omega, g2, g3⟩
              · obtain ⟨a, g2, g3⟩ := hx
                have := m6 a g2
                exact ⟨a, by omega, g2, g3⟩)
         · first
           | (exfalso; omega)
           | (refine gx_aload_n hx dX0_passItem_49 rfl ?_
              refine gx_getR hx flX0_9 dX0_passItem_50 (by decide) rfl rfl ?_
              refine gx_iload hx dX0_passItem_53 rfl ?_
              refine gx_zald hx dX0_passItem_55 (by decide) rfl (by omega) (by omega) (by decide) ?_
              have hx9 := n5 (c - 1) (by omega)
              rw [show ((c - 1 : Nat) : Int) = (c : Int) - 1 by omega] at hx9
              refine gx_if_eq (tgt := 102) hx dX0_passItem_56 (by decide) ⟨by omega, by omega⟩ (fun h56 => ?_) (fun h56 => ?_)
              · first
                | (exfalso; omega)
                | (refine gx_iinc hx dX0_passItem_102 (Nat.le_of_ble_eq_true rfl) rfl ?_
                   refine gx_goto (tgt := 43) hx dX0_passItem_105 (by decide) ?_
                   first
                   | (refine GJ.drop 6 ?_
                      refine GJ.cong ?_ rfl rfl (ih (c - 1, υ) ⟨by omega, ?_, hso2⟩ (by dsimp only; omega))
                      · dsimp only
                        rw [show (((c - 1 : Nat) : Int) - 1) = ((c - 1 : Nat) : Int) + -1 by omega]
                        rfl
                      · dsimp only
                        have hall : ∀ x, (∃ f', f' < f ∧ x = c - 1 + sz P i f' (c - 1)) ↔ (∃ f', f' ≤ 2 ∧ x = c - 1 + sz P i f' (c - 1)) := fun x => by
                          rcases hlf2 with ⟨w1, w2⟩ | ⟨w1, w2⟩
                          · constructor
                            · rintro ⟨f', g1, g2⟩; exact ⟨f', by omega, g2⟩
                            · rintro ⟨f', g1, g2⟩; exact ⟨f', by omega, g2⟩
                          · constructor
                            · rintro ⟨f', g1, g2⟩; exact ⟨f', by omega, g2⟩
                            · rintro ⟨f', g1, g2⟩; exact ⟨0, by omega, by rw [g2, sz_flat (f := f') (g := 0) w2]⟩
                        refine hA2.congr (fun x hx => ?_) (fun x hx => ?_)
                        · constructor
                          · rintro (h | h | h)
                            · exact Or.inl ⟨by omega, h.2⟩
                            · obtain ⟨a, g1, g2⟩ := h
                              exact Or.inr ⟨a, by omega, g2⟩
                            · exact Or.inr ⟨c - 1, Nat.le_refl _, hSc, (hall x).mp h⟩
                          · rintro (h | ⟨a, g1, g2, g3⟩)
                            · exact Or.inl ⟨by omega, h.2⟩
                            · by_cases e : a = c - 1
                              · subst e; exact Or.inr (Or.inr ((hall x).mpr g3))
                              · exact Or.inr (Or.inl ⟨a, by omega, g2, g3⟩)
                        · obtain ⟨a, g1, g2, g3⟩ := hx
                          by_cases e : a = c - 1
                          · subst e; exact Or.inr ((hall x).mpr g3)
                          · exact Or.inl ⟨a, by omega, g2, g3⟩)
                   | (have hnS : ¬ S (c - 1) := by
                        intro hS1
                        rcases hx9 with ⟨w1, w2⟩ | ⟨w1, w2⟩
                        · omega
                        · exact w2 (Or.inl ⟨by omega, hS1⟩)
                      refine GJ.cong ?_ rfl rfl (ih (c - 1, τ) ⟨by omega, ?_, hso⟩ (by dsimp only; omega))
                      · dsimp only
                        rw [show (((c - 1 : Nat) : Int) - 1) = (c : Int) - 1 + -1 by omega]
                        rfl
                      · dsimp only
                        refine hA1.congr (fun x hx => ?_) (fun x hx => ?_)
                        · constructor
                          · rintro (h | ⟨a, g1, g2⟩)
                            · refine Or.inl ⟨?_, h.2⟩
                              by_cases e : x = c - 1
                              · subst e; exact absurd h.2 hnS
                              · omega
                            · exact Or.inr ⟨a, by omega, g2⟩
                          · rintro (h | ⟨a, g1, g2, g3⟩)
                            · exact Or.inl ⟨by omega, h.2⟩
                            · by_cases e : a = c - 1
                              · subst e; exact absurd g2 hnS
                              · exact Or.inr ⟨a, by omega, g2, g3⟩
                        · obtain ⟨a, g1, g2, g3⟩ := hx
                          by_cases e : a = c - 1
                          · subst e; exact absurd g2 hnS
                          · exact ⟨a, by omega, g2, g3⟩))
              · first
                | (exfalso; omega)
                | (refine gx_aload_n hx dX0_passItem_59 rfl ?_
                   refine gx_getR hx flX0_9 dX0_passItem_60 (by decide) rfl rfl ?_
                   refine gx_iload hx dX0_passItem_63 rfl ?_
                   refine gx_iconst hx dX0_passItem_65 ?_
                   refine gx_zast hx dX0_passItem_66 (by decide) rfl (by omega) (by omega) (by decide) rfl ?_
                   refine gx_iconst hx dX0_passItem_67 ?_
                   refine gx_istore hx dX0_passItem_68 (Nat.le_of_ble_eq_true rfl) ?_
                   have hSc : S (c - 1) := by
                     rcases hx9 with ⟨w1, w2⟩ | ⟨w1, w2⟩
                     · rcases w2 with w3 | ⟨a, g1, g2, f, g3, g4⟩
                       · exact w3.2
                       · omega
                     · omega
                   refine GJ.cong (L' := [some (.inr 67), some (.inl (i : Int)), some (.inl (σ 67 4)), some (.inl (σ 67 3)), some (.inl lf), some (.inl ((c - 1 : Nat) : Int)), some (.inl ((0 : Nat) : Int))]) (st' := []) (by rw [show ((c - 1 : Nat) : Int) = (c : Int) - 1 by omega]; rfl) rfl rfl ?_
                   refine gx_loop (α := Nat × Sg) (fun x => (x.1 : Int) ≤ lf + 1 ∧ AM x.2 (fun y => (y < c - 1 ∧ S y) ∨ (fun w => ∃ a, c ≤ a ∧ S a ∧ ∃ f, f ≤ 2 ∧ w = a + sz P i f a) y ∨ ∃ f', f' < x.1 ∧ y = c - 1 + sz P i f' (c - 1)) (fun y => (fun w => ∃ a, c ≤ a ∧ S a ∧ ∃ f, f ≤ 2 ∧ w = a + sz P i f a) y ∨ ∃ f', f' < x.1 ∧ y = c - 1 + sz P i f' (c - 1)) ∧ SO σ x.2 67 68) (fun x => 3 - x.1) (fun x => [some (.inr 67), some (.inl (i : Int)), some (.inl (σ 67 4)), some (.inl (σ 67 3)), some (.inl lf), some (.inl ((c - 1 : Nat) : Int)), some (.inl (x.1 : Int))]) (fun _ => []) (fun x => x.2) ?_ (0, upd2 τ 68 ((c : Int) - 1) 0) ⟨by dsimp only; omega, ?_, hso.trans (SO.upd (lo := 67) (hi := 68) (k := 68) (by decide) (by decide))⟩
                   · rintro ⟨f, υ⟩ ⟨hf1, hA2, hso2⟩ ih2
                     dsimp only at hf1 hA2 hso2 ih2 ⊢
                     refine gx_iload hx dX0_passItem_70 rfl ?_
                     refine gx_iload hx dX0_passItem_72 rfl ?_
                     refine gx_icmp_gt (tgt := 102) hx dX0_passItem_74 (by decide) ⟨by omega, by omega⟩ ⟨by omega, by omega⟩ (fun h74 => ?_) (fun h74 => ?_)
                     · first
                       | (exfalso; omega)
                       | (refine gx_iinc hx dX0_passItem_102 (Nat.le_of_ble_eq_true rfl) rfl ?_
                          refine gx_goto (tgt := 43) hx dX0_passItem_105 (by decide) ?_
                          first
                          | (refine GJ.drop 6 ?_
                             refine GJ.cong ?_ rfl rfl (ih (c - 1, υ) ⟨by omega, ?_, hso2⟩ (by dsimp only; omega))
                             · dsimp only
                               rw [show (((c - 1 : Nat) : Int) - 1) = ((c - 1 : Nat) : Int) + -1 by omega]
                               rfl
                             · dsimp only
                               have hall : ∀ x, (∃ f', f' < f ∧ x = c - 1 + sz P i f' (c - 1)) ↔ (∃ f', f' ≤ 2 ∧ x = c - 1 + sz P i f' (c - 1)) := fun x => by
                                 rcases hlf2 with ⟨w1, w2⟩ | ⟨w1, w2⟩
                                 · constructor
                                   · rintro ⟨f', g1, g2⟩; exact ⟨f', by omega, g2⟩
                                   · rintro ⟨f', g1, g2⟩; exact ⟨f', by omega, g2⟩
                                 · constructor
                                   · rintro ⟨f', g1, g2⟩; exact ⟨f', by omega, g2⟩
                                   · rintro ⟨f', g1, g2⟩; exact ⟨0, by omega, by rw [g2, sz_flat (f := f') (g := 0) w2]⟩
                               refine hA2.congr (fun x hx => ?_) (fun x hx => ?_)
                               · constructor
                                 · rintro (h | h | h)
                                   · exact Or.inl ⟨by omega, h.2⟩
                                   · obtain ⟨a, g1, g2⟩ := h
                                     exact Or.inr ⟨a, by omega, g2⟩
                                   · exact Or.inr ⟨c - 1, Nat.le_refl _, hSc, (hall x).mp h⟩
                                 · rintro (h | ⟨a, g1, g2, g3⟩)
                                   · exact Or.inl ⟨by omega, h.2⟩
                                   · by_cases e : a = c - 1
                                     · subst e; exact Or.inr (Or.inr ((hall x).mpr g3))
                                     · exact Or.inr (Or.inl ⟨a, by omega, g2, g3⟩)
                               · obtain ⟨a, g1, g2, g3⟩ := hx
                                 by_cases e : a = c - 1
                                 · subst e; exact Or.inr ((hall x).mpr g3)
                                 · exact Or.inl ⟨a, by omega, g2, g3⟩)
                          | (have hnS : ¬ S (c - 1) := by
                               intro hS1
                               rcases hx9 with ⟨w1, w2⟩ | ⟨w1, w2⟩
                               · omega
                               · exact w2 (Or.inl ⟨by omega, hS1⟩)
                             refine GJ.cong ?_ rfl rfl (ih (c - 1, τ) ⟨by omega, ?_, hso⟩ (by dsimp only; omega))
                             · dsimp only
                               rw [show (((c - 1 : Nat) : Int) - 1) = (c : Int) - 1 + -1 by omega]
                               rfl
                             · dsimp only
                               refine hA1.congr (fun x hx => ?_) (fun x hx => ?_)
                               · constructor
                                 · rintro (h | ⟨a, g1, g2⟩)
                                   · refine Or.inl ⟨?_, h.2⟩
                                     by_cases e : x = c - 1
                                     · subst e; exact absurd h.2 hnS
                                     · omega
                                   · exact Or.inr ⟨a, by omega, g2⟩
                                 · rintro (h | ⟨a, g1, g2, g3⟩)
                                   · exact Or.inl ⟨by omega, h.2⟩
                                   · by_cases e : a = c - 1
                                     · subst e; exact absurd g2 hnS
                                     · exact Or.inr ⟨a, by omega, g2, g3⟩
                               · obtain ⟨a, g1, g2, g3⟩ := hx
                                 by_cases e : a = c - 1
                                 · subst e; exact absurd g2 hnS
                                 · exact ⟨a, by omega, g2, g3⟩))
                     · first
                       | (exfalso; omega)
                       | (refine gx_aload_n hx dX0_passItem_77 rfl ?_
                          refine gx_iload hx dX0_passItem_78 rfl ?_
                          refine gx_aload_n hx dX0_passItem_80 rfl ?_
                          refine gx_getR hx flX0_26 dX0_passItem_81 (by decide) rfl rfl ?_
                          refine gx_iload_n hx dX0_passItem_84 rfl ?_
                          refine gx_iload hx dX0_passItem_85 rfl ?_
                          refine gx_iload hx dX0_passItem_87 rfl ?_
                          refine gx_callI hx (c_X4_sizeWith (i := i) (f := f) (a := c - 1) _ _ (hP.so hso2 (by decide)) (hL.so (fun k a1 a2 => hso2 k (by omega))) hi (by omega) (by omega)) lkX0_47 mwX4_sizeWith dX0_passItem_89 (by decide) rfl rfl rfl rfl (Nat.le_of_ble_eq_true rfl) (by decide) ⟨by decide, by decide⟩ (fun z_89 σ_89 hz_89 => ?_)
                          obtain ⟨rfl, rfl⟩ := hz_89
                          refine gx_iadd hx dX0_passItem_92 ?_
                          refine gx_callV hx (c_X0_hold (b := c - 1 + sz P i f (c - 1)) _ _ hA2 (hS (c - 1) f hSc (by omega)) (by omega)) lkX0_53 mwX0_hold dX0_passItem_93 (by decide) rfl rfl rfl rfl (Nat.le_of_ble_eq_true rfl) (by decide) ⟨by decide, by decide⟩ (fun σ_93 hz_93 => ?_)
                          obtain ⟨q1, q2⟩ := hz_93
                          refine gx_iinc hx dX0_passItem_96 (Nat.le_of_ble_eq_true rfl) rfl ?_
                          refine gx_goto (tgt := 70) hx dX0_passItem_99 (by decide) ?_
                          exact ih2 (f + 1, _) ⟨by omega, q1.congr (fun x hx => by
                            constructor
                            · rintro ((h | h | ⟨f', g1, g2⟩) | h)
                              · exact Or.inl h
                              · exact Or.inr (Or.inl h)
                              · exact Or.inr (Or.inr ⟨f', by omega, g2⟩)
                              · exact Or.inr (Or.inr ⟨f, by omega, h⟩)
                            · rintro (h | h | ⟨f', g1, g2⟩)
                              · exact Or.inl (Or.inl h)
                              · exact Or.inl (Or.inr (Or.inl h))
                              · by_cases e : f' = f
                                · subst e; exact Or.inr g2
                                · exact Or.inl (Or.inr (Or.inr ⟨f', by omega, g2⟩))) (fun x hx => by
                            rcases hx with h | ⟨f', g1, g2⟩
                            · exact Or.inl (Or.inl h)
                            · by_cases e : f' = f
                              · subst e; exact Or.inr g2
                              · exact Or.inl (Or.inr ⟨f', by omega, g2⟩)), hso2.trans q2⟩ (by dsimp only; omega))
                   · refine ⟨⟨?_, ?_, ?_, ?_⟩, fun x hx => ?_, fun x hx => ?_⟩
                     · dsimp only; rw [upd2_ne (by omega)]; exact n1
                     · dsimp only; rw [upd2_ne (by omega)]; exact n2
                     · dsimp only; rw [upd2_ne (by omega)]; exact n3
                     · dsimp only; rw [upd2_ne (by omega)]; exact n4
                     · dsimp only
                       by_cases e : x = c - 1
                       · subst e
                         rw [show ((c : Int) - 1) = ((c - 1 : Nat) : Int) by omega, upd2_at]
                         refine Or.inr ⟨rfl, ?_⟩
                         rintro (h | ⟨a, g1, g2, f, g3, g4⟩ | ⟨f', g1, g2⟩)
                         · omega
                         · omega
                         · omega
                       · rw [upd2_ne (by omega)]
                         rcases n5 x hx with ⟨h1, h2⟩ | ⟨h1, h2⟩
                         · refine Or.inl ⟨h1, ?_⟩
                           rcases h2 with h3 | h3
                           · exact Or.inl ⟨by omega, h3.2⟩
                           · exact Or.inr (Or.inl h3)
                         · refine Or.inr ⟨h1, ?_⟩
                           rintro (h | h | ⟨f', g1, g2⟩)
                           · exact h2 (Or.inl ⟨by omega, h.2⟩)
                           · exact h2 (Or.inr h)
                           · omega
                     · dsimp only at hx ⊢
                       rw [upd2_ne (by omega), upd2_ne (by omega)]
                       rcases hx with h | ⟨f', g1, g2⟩
                       · exact n6 x h
                       · omega))
       · refine ⟨?_, fun x hx => ?_, fun x hx => ?_⟩
         · dsimp only
           rw [upd2_ne (by decide), upd2_at, upd2_at]
           omega
         · dsimp only
           rw [upd2_ne (by omega), upd2_ne (by omega)]
           rcases m5 x hx with ⟨h1, h2⟩ | ⟨h1, h2⟩
           · refine Or.inl ⟨h1, Or.inl ⟨?_, h2⟩⟩
             have := m6 x h2
             omega
           · refine Or.inr ⟨h1, ?_⟩
             rintro (h | ⟨a, g1, g2, g3⟩)
             · exact h2 h.2
             · have := m6 a g2
               omega
         · dsimp only at hx
           obtain ⟨a, g1, g2, g3⟩ := hx
           have := m6 a g2
           omega)
  · first
    | (exfalso; omega)
    | (refine gx_iconst hx dX0_passItem_21 ?_
       refine gx_goto (tgt := 26) hx dX0_passItem_22 (by decide) ?_
       refine GJ.top (fun lf hlf => ?_)
       have hlf2 : (lf = 2 ∧ isT P i) ∨ (lf = 0 ∧ ¬ isT P i) := by unfold isT; omega
       refine gx_istore hx dX0_passItem_26 (Nat.le_of_ble_eq_true rfl) ?_
       refine gx_aload_n hx dX0_passItem_28 rfl ?_
       refine gx_sipush hx dX0_passItem_29 (by decide) ?_
       refine gx_put hx fpX0_15 dX0_passItem_32 (by decide) rfl rfl rfl rfl 3 rfl ?_
       refine gx_aload_n hx dX0_passItem_35 rfl ?_
       refine gx_iconst hx dX0_passItem_36 ?_
       refine gx_put hx fpX0_19 dX0_passItem_37 (by decide) rfl rfl rfl rfl 4 rfl ?_
       refine gx_iload_n hx dX0_passItem_40 rfl ?_
       refine gx_istore hx dX0_passItem_41 (Nat.le_of_ble_eq_true rfl) ?_
       refine GJ.cong (L' := [some (.inr 67), some (.inl (i : Int)), some (.inl (σ 67 4)), some (.inl (σ 67 3)), some (.inl lf), some (.inl ((((σ 67 4).toNat + 1 : Nat) : Int) - 1)), none]) (st' := []) (by rw [show ((((σ 67 4).toNat + 1 : Nat) : Int) - 1) = σ 67 4 by omega]; rfl) rfl rfl ?_
       refine gx_loop (α := Nat × Sg) (fun x => (x.1 : Int) ≤ σ 67 4 + 1 ∧ AM x.2 (fun y => (y < x.1 ∧ S y) ∨ (fun w => ∃ a, x.1 ≤ a ∧ S a ∧ ∃ f, f ≤ 2 ∧ w = a + sz P i f a) y) ((fun w => ∃ a, x.1 ≤ a ∧ S a ∧ ∃ f, f ≤ 2 ∧ w = a + sz P i f a)) ∧ SO σ x.2 67 68) (fun x => x.1) (fun x => [some (.inr 67), some (.inl (i : Int)), some (.inl (σ 67 4)), some (.inl (σ 67 3)), some (.inl lf), some (.inl ((x.1 : Int) - 1)), none]) (fun _ => []) (fun x => x.2) ?_ ((σ 67 4).toNat + 1, upd2 (upd2 σ 67 3 2047) 67 4 0) ⟨by dsimp only; omega, ?_, SO.trans (SO.upd (by decide) (by decide)) (SO.upd (by decide) (by decide))⟩
       · rintro ⟨c, τ⟩ ⟨hc1, hA1, hso⟩ ih
         dsimp only at hc1 hA1 hso ih ⊢
         obtain ⟨⟨n1, n2, n3, n4⟩, n5, n6⟩ := id hA1
         refine gx_iload hx dX0_passItem_43 rfl ?_
         refine gx_iload_n hx dX0_passItem_45 rfl ?_
         refine gx_icmp_lt (tgt := 108) hx dX0_passItem_46 (by decide) ⟨by omega, by omega⟩ ⟨by omega, by omega⟩ (fun h46 => ?_) (fun h46 => ?_)
         · first
           | (exfalso; omega)
           | (refine hret _ _ _ _ _ (by decide) (by decide) dX0_passItem_108 ?_
              refine ⟨hA1.congr (fun x hx => ?_) (fun x hx => ?_), hso⟩
              · constructor
                · rintro (h | ⟨a, g1, g2⟩)
                  · have := m6 x h.2
                    omega
                  · exact ⟨a, g2⟩
                · rintro ⟨a, g2, g3⟩
                  have := m6 a g2
                  exact Or.inr ⟨a, by omega, g2, g3⟩
              · obtain ⟨a, g2, g3⟩ := hx
                have := m6 a g2
                exact ⟨a, by omega, g2, g3⟩)
         · first
           | (exfalso; omega)
           | (refine gx_aload_n hx dX0_passItem_49 rfl ?_
              refine gx_getR hx flX0_9 dX0_passItem_50 (by decide) rfl rfl ?_
              refine gx_iload hx dX0_passItem_53 rfl ?_
              refine gx_zald hx dX0_passItem_55 (by decide) rfl (by omega) (by omega) (by decide) ?_
              have hx9 := n5 (c - 1) (by omega)
              rw [show ((c - 1 : Nat) : Int) = (c : Int) - 1 by omega] at hx9
              refine gx_if_eq (tgt := 102) hx dX0_passItem_56 (by decide) ⟨by omega, by omega⟩ (fun h56 => ?_) (fun h56 => ?_)
              · first
                | (exfalso; omega)
                | (refine gx_iinc hx dX0_passItem_102 (Nat.le_of_ble_eq_true rfl) rfl ?_
                   refine gx_goto (tgt := 43) hx dX0_passItem_105 (by decide) ?_
                   first
                   | (refine GJ.drop 6 ?_
                      refine GJ.cong ?_ rfl rfl (ih (c - 1, υ) ⟨by omega, ?_, hso2⟩ (by dsimp only; omega))
                      · dsimp only
                        rw [show (((c - 1 : Nat) : Int) - 1) = ((c - 1 : Nat) : Int) + -1 by omega]
                        rfl
                      · dsimp only
                        have hall : ∀ x, (∃ f', f' < f ∧ x = c - 1 + sz P i f' (c - 1)) ↔ (∃ f', f' ≤ 2 ∧ x = c - 1 + sz P i f' (c - 1)) := fun x => by
                          rcases hlf2 with ⟨w1, w2⟩ | ⟨w1, w2⟩
                          · constructor
                            · rintro ⟨f', g1, g2⟩; exact ⟨f', by omega, g2⟩
                            · rintro ⟨f', g1, g2⟩; exact ⟨f', by omega, g2⟩
                          · constructor
                            · rintro ⟨f', g1, g2⟩; exact ⟨f', by omega, g2⟩
                            · rintro ⟨f', g1, g2⟩; exact ⟨0, by omega, by rw [g2, sz_flat (f := f') (g := 0) w2]⟩
                        refine hA2.congr (fun x hx => ?_) (fun x hx => ?_)
                        · constructor
                          · rintro (h | h | h)
                            · exact Or.inl ⟨by omega, h.2⟩
                            · obtain ⟨a, g1, g2⟩ := h
                              exact Or.inr ⟨a, by omega, g2⟩
                            · exact Or.inr ⟨c - 1, Nat.le_refl _, hSc, (hall x).mp h⟩
                          · rintro (h | ⟨a, g1, g2, g3⟩)
                            · exact Or.inl ⟨by omega, h.2⟩
                            · by_cases e : a = c - 1
                              · subst e; exact Or.inr (Or.inr ((hall x).mpr g3))
                              · exact Or.inr (Or.inl ⟨a, by omega, g2, g3⟩)
                        · obtain ⟨a, g1, g2, g3⟩ := hx
                          by_cases e : a = c - 1
                          · subst e; exact Or.inr ((hall x).mpr g3)
                          · exact Or.inl ⟨a, by omega, g2, g3⟩)
                   | (have hnS : ¬ S (c - 1) := by
                        intro hS1
                        rcases hx9 with ⟨w1, w2⟩ | ⟨w1, w2⟩
                        · omega
                        · exact w2 (Or.inl ⟨by omega, hS1⟩)
                      refine GJ.cong ?_ rfl rfl (ih (c - 1, τ) ⟨by omega, ?_, hso⟩ (by dsimp only; omega))
                      · dsimp only
                        rw [show (((c - 1 : Nat) : Int) - 1) = (c : Int) - 1 + -1 by omega]
                        rfl
                      · dsimp only
                        refine hA1.congr (fun x hx => ?_) (fun x hx => ?_)
                        · constructor
                          · rintro (h | ⟨a, g1, g2⟩)
                            · refine Or.inl ⟨?_, h.2⟩
                              by_cases e : x = c - 1
                              · subst e; exact absurd h.2 hnS
                              · omega
                            · exact Or.inr ⟨a, by omega, g2⟩
                          · rintro (h | ⟨a, g1, g2, g3⟩)
                            · exact Or.inl ⟨by omega, h.2⟩
                            · by_cases e : a = c - 1
                              · subst e; exact absurd g2 hnS
                              · exact Or.inr ⟨a, by omega, g2, g3⟩
                        · obtain ⟨a, g1, g2, g3⟩ := hx
                          by_cases e : a = c - 1
                          · subst e; exact absurd g2 hnS
                          · exact ⟨a, by omega, g2, g3⟩))
              · first
                | (exfalso; omega)
                | (refine gx_aload_n hx dX0_passItem_59 rfl ?_
                   refine gx_getR hx flX0_9 dX0_passItem_60 (by decide) rfl rfl ?_
                   refine gx_iload hx dX0_passItem_63 rfl ?_
                   refine gx_iconst hx dX0_passItem_65 ?_
                   refine gx_zast hx dX0_passItem_66 (by decide) rfl (by omega) (by omega) (by decide) rfl ?_
                   refine gx_iconst hx dX0_passItem_67 ?_
                   refine gx_istore hx dX0_passItem_68 (Nat.le_of_ble_eq_true rfl) ?_
                   have hSc : S (c - 1) := by
                     rcases hx9 with ⟨w1, w2⟩ | ⟨w1, w2⟩
                     · rcases w2 with w3 | ⟨a, g1, g2, f, g3, g4⟩
                       · exact w3.2
                       · omega
                     · omega
                   refine GJ.cong (L' := [some (.inr 67), some (.inl (i : Int)), some (.inl (σ 67 4)), some (.inl (σ 67 3)), some (.inl lf), some (.inl ((c - 1 : Nat) : Int)), some (.inl ((0 : Nat) : Int))]) (st' := []) (by rw [show ((c - 1 : Nat) : Int) = (c : Int) - 1 by omega]; rfl) rfl rfl ?_
                   refine gx_loop (α := Nat × Sg) (fun x => (x.1 : Int) ≤ lf + 1 ∧ AM x.2 (fun y => (y < c - 1 ∧ S y) ∨ (fun w => ∃ a, c ≤ a ∧ S a ∧ ∃ f, f ≤ 2 ∧ w = a + sz P i f a) y ∨ ∃ f', f' < x.1 ∧ y = c - 1 + sz P i f' (c - 1)) (fun y => (fun w => ∃ a, c ≤ a ∧ S a ∧ ∃ f, f ≤ 2 ∧ w = a + sz P i f a) y ∨ ∃ f', f' < x.1 ∧ y = c - 1 + sz P i f' (c - 1)) ∧ SO σ x.2 67 68) (fun x => 3 - x.1) (fun x => [some (.inr 67), some (.inl (i : Int)), some (.inl (σ 67 4)), some (.inl (σ 67 3)), some (.inl lf), some (.inl ((c - 1 : Nat) : Int)), some (.inl (x.1 : Int))]) (fun _ => []) (fun x => x.2) ?_ (0, upd2 τ 68 ((c : Int) - 1) 0) ⟨by dsimp only; omega, ?_, hso.trans (SO.upd (lo := 67) (hi := 68) (k := 68) (by decide) (by decide))⟩
                   · rintro ⟨f, υ⟩ ⟨hf1, hA2, hso2⟩ ih2
                     dsimp only at hf1 hA2 hso2 ih2 ⊢
                     refine gx_iload hx dX0_passItem_70 rfl ?_
                     refine gx_iload hx dX0_passItem_72 rfl ?_
                     refine gx_icmp_gt (tgt := 102) hx dX0_passItem_74 (by decide) ⟨by omega, by omega⟩ ⟨by omega, by omega⟩ (fun h74 => ?_) (fun h74 => ?_)
                     · first
                       | (exfalso; omega)
                       | (refine gx_iinc hx dX0_passItem_102 (Nat.le_of_ble_eq_true rfl) rfl ?_
                          refine gx_goto (tgt := 43) hx dX0_passItem_105 (by decide) ?_
                          first
                          | (refine GJ.drop 6 ?_
                             refine GJ.cong ?_ rfl rfl (ih (c - 1, υ) ⟨by omega, ?_, hso2⟩ (by dsimp only; omega))
                             · dsimp only
                               rw [show (((c - 1 : Nat) : Int) - 1) = ((c - 1 : Nat) : Int) + -1 by omega]
                               rfl
                             · dsimp only
                               have hall : ∀ x, (∃ f', f' < f ∧ x = c - 1 + sz P i f' (c - 1)) ↔ (∃ f', f' ≤ 2 ∧ x = c - 1 + sz P i f' (c - 1)) := fun x => by
                                 rcases hlf2 with ⟨w1, w2⟩ | ⟨w1, w2⟩
                                 · constructor
                                   · rintro ⟨f', g1, g2⟩; exact ⟨f', by omega, g2⟩
                                   · rintro ⟨f', g1, g2⟩; exact ⟨f', by omega, g2⟩
                                 · constructor
                                   · rintro ⟨f', g1, g2⟩; exact ⟨f', by omega, g2⟩
                                   · rintro ⟨f', g1, g2⟩; exact ⟨0, by omega, by rw [g2, sz_flat (f := f') (g := 0) w2]⟩
                               refine hA2.congr (fun x hx => ?_) (fun x hx => ?_)
                               · constructor
                                 · rintro (h | h | h)
                                   · exact Or.inl ⟨by omega, h.2⟩
                                   · obtain ⟨a, g1, g2⟩ := h
                                     exact Or.inr ⟨a, by omega, g2⟩
                                   · exact Or.inr ⟨c - 1, Nat.le_refl _, hSc, (hall x).mp h⟩
                                 · rintro (h | ⟨a, g1, g2, g3⟩)
                                   · exact Or.inl ⟨by omega, h.2⟩
                                   · by_cases e : a = c - 1
                                     · subst e; exact Or.inr (Or.inr ((hall x).mpr g3))
                                     · exact Or.inr (Or.inl ⟨a, by omega, g2, g3⟩)
                               · obtain ⟨a, g1, g2, g3⟩ := hx
                                 by_cases e : a = c - 1
                                 · subst e; exact Or.inr ((hall x).mpr g3)
                                 · exact Or.inl ⟨a, by omega, g2, g3⟩)
                          | (have hnS : ¬ S (c - 1) := by
                               intro hS1
                               rcases hx9 with ⟨w1, w2⟩ | ⟨w1, w2⟩
                               · omega
                               · exact w2 (Or.inl ⟨by omega, hS1⟩)
                             refine GJ.cong ?_ rfl rfl (ih (c - 1, τ) ⟨by omega, ?_, hso⟩ (by dsimp only; omega))
                             · dsimp only
                               rw [show (((c - 1 : Nat) : Int) - 1) = (c : Int) - 1 + -1 by omega]
                               rfl
                             · dsimp only
                               refine hA1.congr (fun x hx => ?_) (fun x hx => ?_)
                               · constructor
                                 · rintro (h | ⟨a, g1, g2⟩)
                                   · refine Or.inl ⟨?_, h.2⟩
                                     by_cases e : x = c - 1
                                     · subst e; exact absurd h.2 hnS
                                     · omega
                                   · exact Or.inr ⟨a, by omega, g2⟩
                                 · rintro (h | ⟨a, g1, g2, g3⟩)
                                   · exact Or.inl ⟨by omega, h.2⟩
                                   · by_cases e : a = c - 1
                                     · subst e; exact absurd g2 hnS
                                     · exact Or.inr ⟨a, by omega, g2, g3⟩
                               · obtain ⟨a, g1, g2, g3⟩ := hx
                                 by_cases e : a = c - 1
                                 · subst e; exact absurd g2 hnS
                                 · exact ⟨a, by omega, g2, g3⟩))
                     · first
                       | (exfalso; omega)
                       | (refine gx_aload_n hx dX0_passItem_77 rfl ?_
                          refine gx_iload hx dX0_passItem_78 rfl ?_
                          refine gx_aload_n hx dX0_passItem_80 rfl ?_
                          refine gx_getR hx flX0_26 dX0_passItem_81 (by decide) rfl rfl ?_
                          refine gx_iload_n hx dX0_passItem_84 rfl ?_
                          refine gx_iload hx dX0_passItem_85 rfl ?_
                          refine gx_iload hx dX0_passItem_87 rfl ?_
                          refine gx_callI hx (c_X4_sizeWith (i := i) (f := f) (a := c - 1) _ _ (hP.so hso2 (by decide)) (hL.so (fun k a1 a2 => hso2 k (by omega))) hi (by omega) (by omega)) lkX0_47 mwX4_sizeWith dX0_passItem_89 (by decide) rfl rfl rfl rfl (Nat.le_of_ble_eq_true rfl) (by decide) ⟨by decide, by decide⟩ (fun z_89 σ_89 hz_89 => ?_)
                          obtain ⟨rfl, rfl⟩ := hz_89
                          refine gx_iadd hx dX0_passItem_92 ?_
                          refine gx_callV hx (c_X0_hold (b := c - 1 + sz P i f (c - 1)) _ _ hA2 (hS (c - 1) f hSc (by omega)) (by omega)) lkX0_53 mwX0_hold dX0_passItem_93 (by decide) rfl rfl rfl rfl (Nat.le_of_ble_eq_true rfl) (by decide) ⟨by decide, by decide⟩ (fun σ_93 hz_93 => ?_)
                          obtain ⟨q1, q2⟩ := hz_93
                          refine gx_iinc hx dX0_passItem_96 (Nat.le_of_ble_eq_true rfl) rfl ?_
                          refine gx_goto (tgt := 70) hx dX0_passItem_99 (by decide) ?_
                          exact ih2 (f + 1, _) ⟨by omega, q1.congr (fun x hx => by
                            constructor
                            · rintro ((h | h | ⟨f', g1, g2⟩) | h)
                              · exact Or.inl h
                              · exact Or.inr (Or.inl h)
                              · exact Or.inr (Or.inr ⟨f', by omega, g2⟩)
                              · exact Or.inr (Or.inr ⟨f, by omega, h⟩)
                            · rintro (h | h | ⟨f', g1, g2⟩)
                              · exact Or.inl (Or.inl h)
                              · exact Or.inl (Or.inr (Or.inl h))
                              · by_cases e : f' = f
                                · subst e; exact Or.inr g2
                                · exact Or.inl (Or.inr (Or.inr ⟨f', by omega, g2⟩))) (fun x hx => by
                            rcases hx with h | ⟨f', g1, g2⟩
                            · exact Or.inl (Or.inl h)
                            · by_cases e : f' = f
                              · subst e; exact Or.inr g2
                              · exact Or.inl (Or.inr ⟨f', by omega, g2⟩)), hso2.trans q2⟩ (by dsimp only; omega))
                   · refine ⟨⟨?_, ?_, ?_, ?_⟩, fun x hx => ?_, fun x hx => ?_⟩
                     · dsimp only; rw [upd2_ne (by omega)]; exact n1
                     · dsimp only; rw [upd2_ne (by omega)]; exact n2
                     · dsimp only; rw [upd2_ne (by omega)]; exact n3
                     · dsimp only; rw [upd2_ne (by omega)]; exact n4
                     · dsimp only
                       by_cases e : x = c - 1
                       · subst e
                         rw [show ((c : Int) - 1) = ((c - 1 : Nat) : Int) by omega, upd2_at]
                         refine Or.inr ⟨rfl, ?_⟩
                         rintro (h | ⟨a, g1, g2, f, g3, g4⟩ | ⟨f', g1, g2⟩)
                         · omega
                         · omega
                         · omega
                       · rw [upd2_ne (by omega)]
                         rcases n5 x hx with ⟨h1, h2⟩ | ⟨h1, h2⟩
                         · refine Or.inl ⟨h1, ?_⟩
                           rcases h2 with h3 | h3
                           · exact Or.inl ⟨by omega, h3.2⟩
                           · exact Or.inr (Or.inl h3)
                         · refine Or.inr ⟨h1, ?_⟩
                           rintro (h | h | ⟨f', g1, g2⟩)
                           · exact h2 (Or.inl ⟨by omega, h.2⟩)
                           · exact h2 (Or.inr h)
                           · omega
                     · dsimp only at hx ⊢
                       rw [upd2_ne (by omega), upd2_ne (by omega)]
                       rcases hx with h | ⟨f', g1, g2⟩
                       · exact n6 x h
                       · omega))
       · refine ⟨?_, fun x hx => ?_, fun x hx => ?_⟩
         · dsimp only
           rw [upd2_ne (by decide), upd2_at, upd2_at]
           omega
         · dsimp only
           rw [upd2_ne (by omega), upd2_ne (by omega)]
           rcases m5 x hx with ⟨h1, h2⟩ | ⟨h1, h2⟩
           · refine Or.inl ⟨h1, Or.inl ⟨?_, h2⟩⟩
             have := m6 x h2
             omega
           · refine Or.inr ⟨h1, ?_⟩
             rintro (h | ⟨a, g1, g2, g3⟩)
             · exact h2 h.2
             · have := m6 a g2
               omega
         · dsimp only at hx
           obtain ⟨a, g1, g2, g3⟩ := hx
           have := m6 a g2
           omega)
set_option maxRecDepth 20000 in
set_option maxHeartbeats 400000 in
theorem c_X0_numberAt (g : Gm) (l : Launch) {σ : Sg} {P : List It} {S : Nat → Prop} {i0 : Nat} (hP : PR σ 0 P) (hL : LR σ P) (hA : AM σ S S) (hi0 : i0 < P.length) : KI g l yX0_numberAt cX0_numberAt 4 ((some .int)) 4 0 0 [.inr 67, .inl (i0 : Int)] σ (fun r σ' => r = (cnt (rS P i0) 2048 : Int) ∧ (∃ S' : Nat → Prop, AM σ' S' S') ∧ SO σ σ' 67 68) := by
  refine startI (own := RX0) (by decide +kernel) rfl (Nat.le_of_ble_eq_true rfl) ?_
  intro X hx _ _ hret
  obtain ⟨hok, hc, hg9⟩ := id hP
  have hn := hok.1
  refine gx_aload_n hx dX0_numberAt_0 rfl ?_
  refine gx_callV hx (c_X0_startWithZero _ _ hA) lkX0_30 mwX0_startWithZero dX0_numberAt_1 (by decide) rfl rfl rfl rfl (Nat.le_of_ble_eq_true rfl) (by decide) ⟨by decide, by decide⟩ (fun σ_1 hz_1 => ?_)
  obtain ⟨q1, q2⟩ := hz_1
  refine gx_iconst hx dX0_numberAt_4 ?_
  refine gx_istore_n hx dX0_numberAt_5 (Nat.le_of_ble_eq_true rfl) ?_
  refine gx_loop (α := Nat × Sg) (fun x => x.1 ≤ i0 ∧ AM x.2 (fun y => rS P x.1 y = true) (fun y => rS P x.1 y = true) ∧ SO σ x.2 67 68) (fun x => i0 - x.1) (fun x => [some (.inr 67), some (.inl (i0 : Int)), some (.inl (x.1 : Int)), none]) (fun _ => []) (fun x => x.2) ?_ (0, σ_1) ⟨Nat.zero_le _, q1.congr (fun x _ => by simp [rS]) (fun x hx => by simpa [rS] using hx), q2⟩
  rintro ⟨i, τ⟩ ⟨hi, hA1, hso⟩ ih
  dsimp only at hi hA1 hso ih ⊢
  refine gx_iload_n hx dX0_numberAt_6 rfl ?_
  refine gx_iload_n hx dX0_numberAt_7 rfl ?_
  refine gx_icmp_ge (tgt := 33) hx dX0_numberAt_8 (by decide) ⟨by omega, by omega⟩ ⟨by omega, by omega⟩ (fun h8 => ?_) (fun h8 => ?_)
  · first
    | (exfalso; omega)
    | (refine gx_iconst hx dX0_numberAt_33 ?_
       refine gx_istore_n hx dX0_numberAt_34 (Nat.le_of_ble_eq_true rfl) ?_
       refine gx_aload_n hx dX0_numberAt_35 rfl ?_
       refine gx_getI hx flX0_15 dX0_numberAt_36 (by decide) rfl rfl 3 rfl ?_
       refine gx_istore_n hx dX0_numberAt_39 (Nat.le_of_ble_eq_true rfl) ?_
       have ei : i = i0 := by omega
       subst ei
       obtain ⟨⟨n1, n2, n3, n4⟩, n5, n6⟩ := id hA1
       have hz0 : cnt (rS P i) (τ 67 3).toNat = 0 := (cnt_zero _).mpr (fun x hx => by
         cases hr : rS P i x
         · rfl
         · have := n6 x hr
           omega)
       refine GJ.cong (L' := [some (.inr 67), some (.inl (i : Int)), some (.inl (cnt (rS P i) (τ 67 3).toNat : Int)), some (.inl (((τ 67 3).toNat : Nat) : Int))]) (st' := []) (by rw [hz0, show (((τ 67 3).toNat : Nat) : Int) = τ 67 3 by omega]; rfl) rfl rfl ?_
       refine gx_loop (α := Nat) (fun c => (τ 67 3).toNat ≤ c ∧ c ≤ 2048) (fun c => 2048 - c) (fun c => [some (.inr 67), some (.inl (i : Int)), some (.inl (cnt (rS P i) c : Int)), some (.inl (c : Int))]) (fun _ => []) (fun _ => τ) ?_ (τ 67 3).toNat ⟨Nat.le_refl _, by omega⟩
       rintro c ⟨hc1, hc2⟩ ih2
       have hcl := cnt_le (rS P i) c
       refine gx_iload_n hx dX0_numberAt_40 rfl ?_
       refine gx_aload_n hx dX0_numberAt_41 rfl ?_
       refine gx_getI hx flX0_19 dX0_numberAt_42 (by decide) rfl rfl 4 rfl ?_
       refine gx_icmp_gt (tgt := 66) hx dX0_numberAt_45 (by decide) ⟨by omega, by omega⟩ ⟨by omega, by omega⟩ (fun h45 => ?_) (fun h45 => ?_)
       · first
         | (exfalso; omega)
         | (refine gx_iload_n hx dX0_numberAt_66 rfl ?_
            refine hret _ _ _ _ _ _ _ (by decide) (by decide) dX0_numberAt_67 rfl rfl ?_
            refine ⟨?_, ⟨_, hA1⟩, hso⟩
            rw [cnt_tail 2048 hc2 (fun x h1 h2 => ?_)]
            cases hr : rS P i x
            · rfl
            · have := n6 x hr
              omega)
       · first
         | (exfalso; omega)
         | (refine gx_aload_n hx dX0_numberAt_48 rfl ?_
            refine gx_getR hx flX0_9 dX0_numberAt_49 (by decide) rfl rfl ?_
            refine gx_iload_n hx dX0_numberAt_52 rfl ?_
            have hx9 := n5 c (by omega)
            refine gx_zald hx dX0_numberAt_53 (by decide) rfl (by omega) (by omega) (by decide) ?_
            refine gx_if_eq (tgt := 60) hx dX0_numberAt_54 (by decide) ⟨by omega, by omega⟩ (fun h54 => ?_) (fun h54 => ?_)
            · first
              | (exfalso; omega)
              | (refine gx_iinc hx dX0_numberAt_60 (Nat.le_of_ble_eq_true rfl) rfl ?_
                 refine gx_goto (tgt := 40) hx dX0_numberAt_63 (by decide) ?_
                 refine GJ.cong ?_ rfl rfl (ih2 (c + 1) ⟨by omega, by omega⟩ (by omega))
                 rcases hx9 with ⟨w1, w2⟩ | ⟨w1, w2⟩
                 · first
                   | (rw [cnt_s1 (p := rS P i) (i := c) w2]; rfl)
                   | omega
                 · first
                   | (rw [cnt_s0 (p := rS P i) (i := c) (by simpa using w2)]; rfl)
                   | omega)
            · first
              | (exfalso; omega)
              | (refine gx_iinc hx dX0_numberAt_57 (Nat.le_of_ble_eq_true rfl) rfl ?_
                 refine gx_iinc hx dX0_numberAt_60 (Nat.le_of_ble_eq_true rfl) rfl ?_
                 refine gx_goto (tgt := 40) hx dX0_numberAt_63 (by decide) ?_
                 refine GJ.cong ?_ rfl rfl (ih2 (c + 1) ⟨by omega, by omega⟩ (by omega))
                 rcases hx9 with ⟨w1, w2⟩ | ⟨w1, w2⟩
                 · first
                   | (rw [cnt_s1 (p := rS P i) (i := c) w2]; rfl)
                   | omega
                 · first
                   | (rw [cnt_s0 (p := rS P i) (i := c) (by simpa using w2)]; rfl)
                   | omega)))
  · first
    | (exfalso; omega)
    | (refine gx_iload_n hx dX0_numberAt_11 rfl ?_
       refine gx_aload_n hx dX0_numberAt_12 rfl ?_
       refine gx_getR hx flX0_22 dX0_numberAt_13 (by decide) rfl rfl ?_
       refine gx_callI hx (c_X6_count (j := 0) _ _ (by decide) (hP.so hso (by decide))) lkX0_33 mwX6_count dX0_numberAt_16 (by decide) rfl rfl rfl rfl (Nat.le_of_ble_eq_true rfl) (by decide) ⟨by decide, by decide⟩ (fun z_16 σ_16 hz_16 => ?_)
       obtain ⟨rfl, rfl⟩ := hz_16
       refine gx_icmp_ge (tgt := 33) hx dX0_numberAt_19 (by decide) ⟨by omega, by omega⟩ ⟨by omega, by omega⟩ (fun h19 => ?_) (fun h19 => ?_)
       · first
         | (exfalso; omega)
         | (refine gx_iconst hx dX0_numberAt_33 ?_
            refine gx_istore_n hx dX0_numberAt_34 (Nat.le_of_ble_eq_true rfl) ?_
            refine gx_aload_n hx dX0_numberAt_35 rfl ?_
            refine gx_getI hx flX0_15 dX0_numberAt_36 (by decide) rfl rfl 3 rfl ?_
            refine gx_istore_n hx dX0_numberAt_39 (Nat.le_of_ble_eq_true rfl) ?_
            have ei : i = i0 := by omega
            subst ei
            obtain ⟨⟨n1, n2, n3, n4⟩, n5, n6⟩ := id hA1
            have hz0 : cnt (rS P i) (τ 67 3).toNat = 0 := (cnt_zero _).mpr (fun x hx => by
              cases hr : rS P i x
              · rfl
              · have := n6 x hr
                omega)
            refine GJ.cong (L' := [some (.inr 67), some (.inl (i : Int)), some (.inl (cnt (rS P i) (τ 67 3).toNat : Int)), some (.inl (((τ 67 3).toNat : Nat) : Int))]) (st' := []) (by rw [hz0, show (((τ 67 3).toNat : Nat) : Int) = τ 67 3 by omega]; rfl) rfl rfl ?_
            refine gx_loop (α := Nat) (fun c => (τ 67 3).toNat ≤ c ∧ c ≤ 2048) (fun c => 2048 - c) (fun c => [some (.inr 67), some (.inl (i : Int)), some (.inl (cnt (rS P i) c : Int)), some (.inl (c : Int))]) (fun _ => []) (fun _ => τ) ?_ (τ 67 3).toNat ⟨Nat.le_refl _, by omega⟩
            rintro c ⟨hc1, hc2⟩ ih2
            have hcl := cnt_le (rS P i) c
            refine gx_iload_n hx dX0_numberAt_40 rfl ?_
            refine gx_aload_n hx dX0_numberAt_41 rfl ?_
            refine gx_getI hx flX0_19 dX0_numberAt_42 (by decide) rfl rfl 4 rfl ?_
            refine gx_icmp_gt (tgt := 66) hx dX0_numberAt_45 (by decide) ⟨by omega, by omega⟩ ⟨by omega, by omega⟩ (fun h45 => ?_) (fun h45 => ?_)
            · first
              | (exfalso; omega)
              | (refine gx_iload_n hx dX0_numberAt_66 rfl ?_
                 refine hret _ _ _ _ _ _ _ (by decide) (by decide) dX0_numberAt_67 rfl rfl ?_
                 refine ⟨?_, ⟨_, hA1⟩, hso⟩
                 rw [cnt_tail 2048 hc2 (fun x h1 h2 => ?_)]
                 cases hr : rS P i x
                 · rfl
                 · have := n6 x hr
                   omega)
            · first
              | (exfalso; omega)
              | (refine gx_aload_n hx dX0_numberAt_48 rfl ?_
                 refine gx_getR hx flX0_9 dX0_numberAt_49 (by decide) rfl rfl ?_
                 refine gx_iload_n hx dX0_numberAt_52 rfl ?_
                 have hx9 := n5 c (by omega)
                 refine gx_zald hx dX0_numberAt_53 (by decide) rfl (by omega) (by omega) (by decide) ?_
                 refine gx_if_eq (tgt := 60) hx dX0_numberAt_54 (by decide) ⟨by omega, by omega⟩ (fun h54 => ?_) (fun h54 => ?_)
                 · first
                   | (exfalso; omega)
                   | (refine gx_iinc hx dX0_numberAt_60 (Nat.le_of_ble_eq_true rfl) rfl ?_
                      refine gx_goto (tgt := 40) hx dX0_numberAt_63 (by decide) ?_
                      refine GJ.cong ?_ rfl rfl (ih2 (c + 1) ⟨by omega, by omega⟩ (by omega))
                      rcases hx9 with ⟨w1, w2⟩ | ⟨w1, w2⟩
                      · first
                        | (rw [cnt_s1 (p := rS P i) (i := c) w2]; rfl)
                        | omega
                      · first
                        | (rw [cnt_s0 (p := rS P i) (i := c) (by simpa using w2)]; rfl)
                        | omega)
                 · first
                   | (exfalso; omega)
                   | (refine gx_iinc hx dX0_numberAt_57 (Nat.le_of_ble_eq_true rfl) rfl ?_
                      refine gx_iinc hx dX0_numberAt_60 (Nat.le_of_ble_eq_true rfl) rfl ?_
                      refine gx_goto (tgt := 40) hx dX0_numberAt_63 (by decide) ?_
                      refine GJ.cong ?_ rfl rfl (ih2 (c + 1) ⟨by omega, by omega⟩ (by omega))
                      rcases hx9 with ⟨w1, w2⟩ | ⟨w1, w2⟩
                      · first
                        | (rw [cnt_s1 (p := rS P i) (i := c) w2]; rfl)
                        | omega
                      · first
                        | (rw [cnt_s0 (p := rS P i) (i := c) (by simpa using w2)]; rfl)
                        | omega)))
       · first
         | (exfalso; omega)
         | (refine gx_aload_n hx dX0_numberAt_22 rfl ?_
            refine gx_iload_n hx dX0_numberAt_23 rfl ?_
            refine gx_callV hx (c_X0_passItem (i := i) (S := fun x => rS P i x = true) _ _ (hP.so hso (by decide)) (hL.so (fun k a1 a2 => hso k (by omega))) hA1 (by omega) (fun a f h1 h2 => by have h3 := rS_le hok (i + 1) (a + sz P i f a) (rS_succ.mpr ⟨a, h1, f, h2, rfl⟩); omega)) lkX0_39 mwX0_passItem dX0_numberAt_24 (by decide) rfl rfl rfl rfl (Nat.le_of_ble_eq_true rfl) (by decide) ⟨by decide, by decide⟩ (fun σ_24 hz_24 => ?_)
            obtain ⟨q3, q4⟩ := hz_24
            refine gx_iinc hx dX0_numberAt_27 (Nat.le_of_ble_eq_true rfl) rfl ?_
            refine gx_goto (tgt := 6) hx dX0_numberAt_30 (by decide) ?_
            exact ih (i + 1, _) ⟨by omega, q3.congr (fun x _ => rS_succ.symm) (fun x hx => rS_succ.mp hx), hso.trans q4⟩ (by dsimp only; omega)))
