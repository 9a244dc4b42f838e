/-! Links -/
set_option maxRecDepth 20000 in
set_option maxHeartbeats 400000 in
theorem c_J7_fill_53178 (g : Gm) (l : Launch) {σ : Sg} {k n : Nat} {v : Int} (hk : k < 83) (hs : shp k = .inl (0, n)) (hn : n < 5000) : KV g l yJ7_fill_53178 cJ7_fill_53178 4 (0) 0 0 [.inr k, .inl v] σ (fun σ' => σ' = fun k' q => if k' = k ∧ 0 ≤ q ∧ q < (n : Int) then v else σ k' q) := by
  refine startV (own := RJ7) (by decide +kernel) rfl (Nat.le_of_ble_eq_true rfl) ?_
  intro X hx _ _ hret
  refine gx_iconst hx dJ7_fill_53178_0 ?_
  refine gx_istore_n hx dJ7_fill_53178_1 (Nat.le_of_ble_eq_true rfl) ?_
  refine gx_aload_n hx dJ7_fill_53178_2 rfl ?_
  refine gx_alen hx dJ7_fill_53178_3 hk hs (by decide) ?_
  refine gx_istore_n hx dJ7_fill_53178_4 (Nat.le_of_ble_eq_true rfl) ?_
  refine GJ.cong (L' := [some (.inr k), some (.inl v), some (.inl ((0 : Nat) : Int)), some (.inl (n : Int))]) (st' := []) (σ' := (fun i => fun k' q => if k' = k ∧ 0 ≤ q ∧ q < (i : Int) then v else σ k' q) 0) rfl rfl (by
    funext k' q
    dsimp only
    rw [if_neg (by omega)]) ?_
  refine gx_loop (α := Nat) (fun i => i ≤ n) (fun i => n - i) (fun i => [some (.inr k), some (.inl v), some (.inl (i : Int)), some (.inl (n : Int))]) (fun _ => []) (fun i => fun k' q => if k' = k ∧ 0 ≤ q ∧ q < (i : Int) then v else σ k' q) ?_ 0 (Nat.zero_le _)
  intro i hi ih
  refine gx_iload_n hx dJ7_fill_53178_5 rfl ?_
  refine gx_iload_n hx dJ7_fill_53178_6 rfl ?_
  refine gx_icmp_ge (tgt := 20) hx dJ7_fill_53178_7 (by decide) ⟨by omega, by omega⟩ ⟨by omega, by omega⟩ (fun h7 => ?_) (fun h7 => ?_)
  · first
    | (exfalso; omega)
    | (refine hret _ _ _ _ _ (by decide) (by decide) dJ7_fill_53178_20 ?_
       have e : i = n := by omega
       subst e
       rfl)
  · first
    | (exfalso; omega)
    | (refine gx_aload_n hx dJ7_fill_53178_10 rfl ?_
       refine gx_iload_n hx dJ7_fill_53178_11 rfl ?_
       refine gx_iload_n hx dJ7_fill_53178_12 rfl ?_
       refine gx_iast hx dJ7_fill_53178_13 hk hs (by omega) (by omega) (by omega) ?_
       refine gx_iinc hx dJ7_fill_53178_14 (Nat.le_of_ble_eq_true rfl) rfl ?_
       refine gx_goto (tgt := 5) hx dJ7_fill_53178_17 (by decide) ?_
       refine GJ.cong rfl rfl ?_ (ih (i + 1) (by omega) (by omega))
       funext k' q
       simp only [upd2]
       repeat' split
       all_goals first | rfl | (exfalso; omega))
set_option maxRecDepth 20000 in
set_option maxHeartbeats 400000 in
theorem c_X5_readLoad (g : Gm) (l : Launch) {σ : Sg} {i v e : Nat} (hi : i < 40) (hv : v < 100) (he : e ≤ 40) (hE : σ 52 8 = (e : Int)) (hr : -1 ≤ σ 58 (v : Int) ∧ σ 58 (v : Int) ≤ 40) : KV g l yX5_readLoad cX5_readLoad 3 (0) 0 0 [.inr 52, .inl (i : Int), .inl (v : Int)] σ (fun σ' => σ' = if σ 58 (v : Int) = (e : Int) then upd2 σ 55 (i : Int) (σ 59 (v : Int)) else upd2 (upd2 (upd2 (upd2 σ 58 (v : Int) (e : Int)) 59 (v : Int) (σ 57 (e : Int))) 57 (e : Int) (σ 57 (e : Int) + 1)) 55 (i : Int) (σ 57 (e : Int))) := by
  refine startV (own := RX5) (by decide +kernel) rfl (Nat.le_of_ble_eq_true rfl) ?_
  intro X hx _ _ hret
  refine gx_aload_n hx dX5_readLoad_0 rfl ?_
  refine gx_getR hx flX5_27 dX5_readLoad_1 (by decide) rfl rfl ?_
  refine gx_iload_n hx dX5_readLoad_4 rfl ?_
  refine gx_iald hx dX5_readLoad_5 (by decide) rfl (by omega) (by omega) (by decide) ?_
  refine gx_aload_n hx dX5_readLoad_6 rfl ?_
  refine gx_getI hx flX5_33 dX5_readLoad_7 (by decide) rfl rfl 8 rfl ?_
  refine gx_icmp_eq (tgt := 51) hx dX5_readLoad_10 (by decide) ⟨by omega, by omega⟩ ⟨by omega, by omega⟩ (fun h10 => ?_) (fun h10 => ?_)
  · first
    | (exfalso; omega)
    | (refine gx_aload_n hx dX5_readLoad_51 rfl ?_
       refine gx_getR hx flX5_18 dX5_readLoad_52 (by decide) rfl rfl ?_
       refine gx_iload_n hx dX5_readLoad_55 rfl ?_
       refine gx_aload_n hx dX5_readLoad_56 rfl ?_
       refine gx_getR hx flX5_30 dX5_readLoad_57 (by decide) rfl rfl ?_
       refine gx_iload_n hx dX5_readLoad_60 rfl ?_
       refine gx_iald hx dX5_readLoad_61 (by decide) rfl (by omega) (by omega) (by decide) ?_
       refine gx_iast hx dX5_readLoad_62 (by decide) rfl (by omega) (by omega) (by decide) ?_
       refine hret _ _ _ _ _ (by decide) (by decide) dX5_readLoad_63 ?_
       first
       | (rw [if_pos (by omega)])
       | (rw [if_neg (by omega), upd2_ne (by omega), upd2_at]))
  · first
    | (exfalso; omega)
    | (rw [hE] at h10
       refine gx_aload_n hx dX5_readLoad_13 rfl ?_
       refine gx_getR hx flX5_27 dX5_readLoad_14 (by decide) rfl rfl ?_
       refine gx_iload_n hx dX5_readLoad_17 rfl ?_
       refine gx_aload_n hx dX5_readLoad_18 rfl ?_
       refine gx_getI hx flX5_33 dX5_readLoad_19 (by decide) rfl rfl 8 rfl ?_
       rw [hE]
       refine gx_iast hx dX5_readLoad_22 (by decide) rfl (by omega) (by omega) (by decide) ?_
       refine gx_aload_n hx dX5_readLoad_23 rfl ?_
       refine gx_getR hx flX5_30 dX5_readLoad_24 (by decide) rfl rfl ?_
       refine gx_iload_n hx dX5_readLoad_27 rfl ?_
       refine gx_aload_n hx dX5_readLoad_28 rfl ?_
       refine gx_getR hx flX5_24 dX5_readLoad_29 (by decide) rfl rfl ?_
       refine gx_aload_n hx dX5_readLoad_32 rfl ?_
       refine gx_getI hx flX5_33 dX5_readLoad_33 (by decide) rfl rfl 8 rfl ?_
       rw [upd2_ne (by omega), hE]
       refine gx_iald hx dX5_readLoad_36 (by decide) rfl (by omega) (by omega) (by decide) ?_
       rw [upd2_ne (by omega)]
       refine gx_iast hx dX5_readLoad_37 (by decide) rfl (by omega) (by omega) (by decide) ?_
       refine gx_aload_n hx dX5_readLoad_38 rfl ?_
       refine gx_getR hx flX5_24 dX5_readLoad_39 (by decide) rfl rfl ?_
       refine gx_aload_n hx dX5_readLoad_42 rfl ?_
       refine gx_getI hx flX5_33 dX5_readLoad_43 (by decide) rfl rfl 8 rfl ?_
       rw [upd2_ne (by omega), upd2_ne (by omega), hE]
       refine gx_dup2 hx dX5_readLoad_46 ?_
       refine gx_iald hx dX5_readLoad_47 (by decide) rfl (by omega) (by omega) (by decide) ?_
       rw [upd2_ne (by omega), upd2_ne (by omega)]
       refine gx_iconst hx dX5_readLoad_48 ?_
       refine gx_iadd hx dX5_readLoad_49 ?_
       refine gx_iast hx dX5_readLoad_50 (by decide) rfl (by omega) (by omega) (by decide) ?_
       refine gx_aload_n hx dX5_readLoad_51 rfl ?_
       refine gx_getR hx flX5_18 dX5_readLoad_52 (by decide) rfl rfl ?_
       refine gx_iload_n hx dX5_readLoad_55 rfl ?_
       refine gx_aload_n hx dX5_readLoad_56 rfl ?_
       refine gx_getR hx flX5_30 dX5_readLoad_57 (by decide) rfl rfl ?_
       refine gx_iload_n hx dX5_readLoad_60 rfl ?_
       refine gx_iald hx dX5_readLoad_61 (by decide) rfl (by omega) (by omega) (by decide) ?_
       refine gx_iast hx dX5_readLoad_62 (by decide) rfl (by omega) (by omega) (by decide) ?_
       refine hret _ _ _ _ _ (by decide) (by decide) dX5_readLoad_63 ?_
       first
       | (rw [if_pos (by omega)])
       | (rw [if_neg (by omega), upd2_ne (by omega), upd2_at]))
set_option maxRecDepth 20000 in
set_option maxHeartbeats 400000 in
theorem c_X5_readItem (g : Gm) (l : Launch) {σ : Sg} {P : List It} {i : Nat} (hP : PR σ 0 P) (hi : i < P.length) (hL : LRp σ P i) : KV g l yX5_readItem cX5_readItem 3 (1) 0 0 [.inr 52, .inl (i : Int)] σ (fun σ' => LRp σ' P (i + 1) ∧ SO σ σ' 52 59) := by
  refine startV (own := RX5) (by decide +kernel) rfl (Nat.le_of_ble_eq_true rfl) ?_
  intro X hx _ _ hret
  obtain ⟨hok, hc, hg9⟩ := id hP
  have hn := hok.1
  have hpn := pno_le P i
  obtain ⟨l1, l2, l3, l4, l5, l6, l7⟩ := id hL
  have hb := hok.2.1 i
  unfold okI at hb
  have hcs : kd P i = 2 ∨ kd P i = 6 ∨ kd P i = 7 ∨ (kd P i = 0 ∨ kd P i = 1 ∨ kd P i = 3 ∨ kd P i = 4 ∨ kd P i = 5) := by omega
  refine gx_aload_n hx dX5_readItem_0 rfl ?_
  refine gx_getR hx flX5_37 dX5_readItem_1 (by decide) rfl rfl ?_
  refine gx_iload_n hx dX5_readItem_4 rfl ?_
  refine gx_callI hx (c_X6_operandAt (j := 0) _ _ (by decide) hP hi) lkX5_57 mwX6_operandAt dX5_readItem_5 (by decide) rfl rfl rfl rfl (Nat.le_of_ble_eq_true rfl) (by decide) ⟨by decide, by decide⟩ (fun z_5 σ_5 hz_5 => ?_)
  obtain ⟨rfl, rfl⟩ := hz_5
  refine gx_istore_n hx dX5_readItem_8 (Nat.le_of_ble_eq_true rfl) ?_
  refine gx_aload_n hx dX5_readItem_9 rfl ?_
  refine gx_getR hx flX5_15 dX5_readItem_10 (by decide) rfl rfl ?_
  refine gx_iload_n hx dX5_readItem_13 rfl ?_
  refine gx_aload_n hx dX5_readItem_14 rfl ?_
  refine gx_getI hx flX5_33 dX5_readItem_15 (by decide) rfl rfl 8 rfl ?_
  rw [l4]
  refine gx_iast hx dX5_readItem_18 (by decide) rfl (by omega) (by omega) (by decide) ?_
  refine gx_aload_n hx dX5_readItem_19 rfl ?_
  refine gx_getR hx flX5_37 dX5_readItem_20 (by decide) rfl rfl ?_
  refine gx_iload_n hx dX5_readItem_23 rfl ?_
  refine gx_callI hx (c_X6_kindAt (j := 0) _ _ (by decide) (hP.so (SO.upd (lo := 54) (hi := 54) (by decide) (by decide)) (by decide)) hi) lkX5_61 mwX6_kindAt dX5_readItem_24 (by decide) rfl rfl rfl rfl (Nat.le_of_ble_eq_true rfl) (by decide) ⟨by decide, by decide⟩ (fun z_24 σ_24 hz_24 => ?_)
  obtain ⟨rfl, rfl⟩ := hz_24
  rcases hcs with h | h | h | h
  · refine gx_lookup (off := 33) (tgt := 60) hx dX5_readItem_27 ⟨by omega, by omega⟩ (by decide) (by rw [h]; rfl) (by decide) ?_
    refine gx_iload_n hx dX5_readItem_60 rfl ?_
    refine gx_if_lt (tgt := 141) hx dX5_readItem_61 (by decide) ⟨by omega, by omega⟩ (fun h61 => ?_) (fun h61 => ?_)
    · first
      | (exfalso; omega)
      | (refine hret _ _ _ _ _ (by decide) (by decide) dX5_readItem_141 ?_
         first
         | exact ⟨LRp_label hL h (by omega), SO.trans (SO.upd (by decide) (by decide)) (SO.upd (by decide) (by decide))⟩
         | exact ⟨LRp_pool hL h, SO.trans (SO.upd (by decide) (by decide)) (SO.trans (SO.upd (by decide) (by decide)) (SO.trans (SO.upd (by decide) (by decide)) (SO.upd (by decide) (by decide))))⟩
         | exact ⟨LRp_other hL (by omega) (by omega) (by omega), SO.upd (by decide) (by decide)⟩
         | (have e := LRp_load hok hL h
            rw [upd2_ne (by omega), upd2_ne (by omega), upd2_ne (by omega)]
            refine ⟨e, ?_⟩
            split
            · exact SO.trans (SO.upd (by decide) (by decide)) (SO.upd (by decide) (by decide))
            · exact SO.trans (SO.upd (by decide) (by decide)) (SO.trans (SO.upd (by decide) (by decide)) (SO.trans (SO.upd (by decide) (by decide)) (SO.trans (SO.upd (by decide) (by decide)) (SO.upd (by decide) (by decide)))))))
    · first
      | (exfalso; omega)
      | (refine gx_iload_n hx dX5_readItem_64 rfl ?_
         refine gx_bipush hx dX5_readItem_65 (by decide) ?_
         refine gx_icmp_ge (tgt := 141) hx dX5_readItem_67 (by decide) ⟨by omega, by omega⟩ ⟨by omega, by omega⟩ (fun h67 => ?_) (fun h67 => ?_)
         · first
           | (exfalso; omega)
           | (refine hret _ _ _ _ _ (by decide) (by decide) dX5_readItem_141 ?_
              first
              | exact ⟨LRp_label hL h (by omega), SO.trans (SO.upd (by decide) (by decide)) (SO.upd (by decide) (by decide))⟩
              | exact ⟨LRp_pool hL h, SO.trans (SO.upd (by decide) (by decide)) (SO.trans (SO.upd (by decide) (by decide)) (SO.trans (SO.upd (by decide) (by decide)) (SO.upd (by decide) (by decide))))⟩
              | exact ⟨LRp_other hL (by omega) (by omega) (by omega), SO.upd (by decide) (by decide)⟩
              | (have e := LRp_load hok hL h
                 rw [upd2_ne (by omega), upd2_ne (by omega), upd2_ne (by omega)]
                 refine ⟨e, ?_⟩
                 split
                 · exact SO.trans (SO.upd (by decide) (by decide)) (SO.upd (by decide) (by decide))
                 · exact SO.trans (SO.upd (by decide) (by decide)) (SO.trans (SO.upd (by decide) (by decide)) (SO.trans (SO.upd (by decide) (by decide)) (SO.trans (SO.upd (by decide) (by decide)) (SO.upd (by decide) (by decide)))))))
         · first
           | (exfalso; omega)
           | (refine gx_aload_n hx dX5_readItem_70 rfl ?_
              refine gx_getR hx flX5_9 dX5_readItem_71 (by decide) rfl rfl ?_
              refine gx_iload_n hx dX5_readItem_74 rfl ?_
              refine gx_iload_n hx dX5_readItem_75 rfl ?_
              refine gx_iast hx dX5_readItem_76 (by decide) rfl (by omega) (by omega) (by decide) ?_
              refine gx_goto (tgt := 141) hx dX5_readItem_77 (by decide) ?_
              refine hret _ _ _ _ _ (by decide) (by decide) dX5_readItem_141 ?_
              first
              | exact ⟨LRp_label hL h (by omega), SO.trans (SO.upd (by decide) (by decide)) (SO.upd (by decide) (by decide))⟩
              | exact ⟨LRp_pool hL h, SO.trans (SO.upd (by decide) (by decide)) (SO.trans (SO.upd (by decide) (by decide)) (SO.trans (SO.upd (by decide) (by decide)) (SO.upd (by decide) (by decide))))⟩
              | exact ⟨LRp_other hL (by omega) (by omega) (by omega), SO.upd (by decide) (by decide)⟩
              | (have e := LRp_load hok hL h
                 rw [upd2_ne (by omega), upd2_ne (by omega), upd2_ne (by omega)]
                 refine ⟨e, ?_⟩
                 split
                 · exact SO.trans (SO.upd (by decide) (by decide)) (SO.upd (by decide) (by decide))
                 · exact SO.trans (SO.upd (by decide) (by decide)) (SO.trans (SO.upd (by decide) (by decide)) (SO.trans (SO.upd (by decide) (by decide)) (SO.trans (SO.upd (by decide) (by decide)) (SO.upd (by decide) (by decide))))))))
  · refine gx_lookup (off := 53) (tgt := 80) hx dX5_readItem_27 ⟨by omega, by omega⟩ (by decide) (by rw [h]; rfl) (by decide) ?_
    refine gx_iload_n hx dX5_readItem_80 rfl ?_
    refine gx_if_lt (tgt := 141) hx dX5_readItem_81 (by decide) ⟨by omega, by omega⟩ (fun h81 => ?_) (fun h81 => ?_)
    · first
      | (exfalso; omega)
      | (refine hret _ _ _ _ _ (by decide) (by decide) dX5_readItem_141 ?_
         first
         | exact ⟨LRp_label hL h (by omega), SO.trans (SO.upd (by decide) (by decide)) (SO.upd (by decide) (by decide))⟩
         | exact ⟨LRp_pool hL h, SO.trans (SO.upd (by decide) (by decide)) (SO.trans (SO.upd (by decide) (by decide)) (SO.trans (SO.upd (by decide) (by decide)) (SO.upd (by decide) (by decide))))⟩
         | exact ⟨LRp_other hL (by omega) (by omega) (by omega), SO.upd (by decide) (by decide)⟩
         | (have e := LRp_load hok hL h
            rw [upd2_ne (by omega), upd2_ne (by omega), upd2_ne (by omega)]
            refine ⟨e, ?_⟩
            split
            · exact SO.trans (SO.upd (by decide) (by decide)) (SO.upd (by decide) (by decide))
            · exact SO.trans (SO.upd (by decide) (by decide)) (SO.trans (SO.upd (by decide) (by decide)) (SO.trans (SO.upd (by decide) (by decide)) (SO.trans (SO.upd (by decide) (by decide)) (SO.upd (by decide) (by decide)))))))
    · first
      | (exfalso; omega)
      | (refine gx_iload_n hx dX5_readItem_84 rfl ?_
         refine gx_bipush hx dX5_readItem_85 (by decide) ?_
         refine gx_icmp_ge (tgt := 141) hx dX5_readItem_87 (by decide) ⟨by omega, by omega⟩ ⟨by omega, by omega⟩ (fun h87 => ?_) (fun h87 => ?_)
         · first
           | (exfalso; omega)
           | (refine hret _ _ _ _ _ (by decide) (by decide) dX5_readItem_141 ?_
              first
              | exact ⟨LRp_label hL h (by omega), SO.trans (SO.upd (by decide) (by decide)) (SO.upd (by decide) (by decide))⟩
              | exact ⟨LRp_pool hL h, SO.trans (SO.upd (by decide) (by decide)) (SO.trans (SO.upd (by decide) (by decide)) (SO.trans (SO.upd (by decide) (by decide)) (SO.upd (by decide) (by decide))))⟩
              | exact ⟨LRp_other hL (by omega) (by omega) (by omega), SO.upd (by decide) (by decide)⟩
              | (have e := LRp_load hok hL h
                 rw [upd2_ne (by omega), upd2_ne (by omega), upd2_ne (by omega)]
                 refine ⟨e, ?_⟩
                 split
                 · exact SO.trans (SO.upd (by decide) (by decide)) (SO.upd (by decide) (by decide))
                 · exact SO.trans (SO.upd (by decide) (by decide)) (SO.trans (SO.upd (by decide) (by decide)) (SO.trans (SO.upd (by decide) (by decide)) (SO.trans (SO.upd (by decide) (by decide)) (SO.upd (by decide) (by decide)))))))
         · first
           | (exfalso; omega)
           | (refine gx_aload_n hx dX5_readItem_90 rfl ?_
              refine gx_iload_n hx dX5_readItem_91 rfl ?_
              refine gx_iload_n hx dX5_readItem_92 rfl ?_
              refine gx_callV hx (c_X5_readLoad (e := pno P i) _ _ (by omega) (by omega) (by omega) (by rw [upd2_ne (by omega)]; exact l4) (by rw [upd2_ne (by omega)]; have := l7 (op P i) (by omega); omega)) lkX5_64 mwX5_readLoad dX5_readItem_93 (by decide) rfl rfl rfl rfl (Nat.le_of_ble_eq_true rfl) (by decide) ⟨by decide, by decide⟩ (fun σ_93 hz_93 => ?_)
              subst hz_93
              refine gx_goto (tgt := 141) hx dX5_readItem_96 (by decide) ?_
              refine hret _ _ _ _ _ (by decide) (by decide) dX5_readItem_141 ?_
              first
              | exact ⟨LRp_label hL h (by omega), SO.trans (SO.upd (by decide) (by decide)) (SO.upd (by decide) (by decide))⟩
              | exact ⟨LRp_pool hL h, SO.trans (SO.upd (by decide) (by decide)) (SO.trans (SO.upd (by decide) (by decide)) (SO.trans (SO.upd (by decide) (by decide)) (SO.upd (by decide) (by decide))))⟩
              | exact ⟨LRp_other hL (by omega) (by omega) (by omega), SO.upd (by decide) (by decide)⟩
              | (have e := LRp_load hok hL h
                 rw [upd2_ne (by omega), upd2_ne (by omega), upd2_ne (by omega)]
                 refine ⟨e, ?_⟩
                 split
                 · exact SO.trans (SO.upd (by decide) (by decide)) (SO.upd (by decide) (by decide))
                 · exact SO.trans (SO.upd (by decide) (by decide)) (SO.trans (SO.upd (by decide) (by decide)) (SO.trans (SO.upd (by decide) (by decide)) (SO.trans (SO.upd (by decide) (by decide)) (SO.upd (by decide) (by decide))))))))
  · refine gx_lookup (off := 72) (tgt := 99) hx dX5_readItem_27 ⟨by omega, by omega⟩ (by decide) (by rw [h]; rfl) (by decide) ?_
    refine gx_aload_n hx dX5_readItem_99 rfl ?_
    refine gx_getI hx flX5_33 dX5_readItem_100 (by decide) rfl rfl 8 rfl ?_
    rw [upd2_ne (by omega), l4]
    refine gx_bipush hx dX5_readItem_103 (by decide) ?_
    refine gx_icmp_ge (tgt := 141) hx dX5_readItem_105 (by decide) ⟨by omega, by omega⟩ ⟨by omega, by omega⟩ (fun h105 => ?_) (fun h105 => ?_)
    · first
      | (exfalso; omega)
      | (refine hret _ _ _ _ _ (by decide) (by decide) dX5_readItem_141 ?_
         first
         | exact ⟨LRp_label hL h (by omega), SO.trans (SO.upd (by decide) (by decide)) (SO.upd (by decide) (by decide))⟩
         | exact ⟨LRp_pool hL h, SO.trans (SO.upd (by decide) (by decide)) (SO.trans (SO.upd (by decide) (by decide)) (SO.trans (SO.upd (by decide) (by decide)) (SO.upd (by decide) (by decide))))⟩
         | exact ⟨LRp_other hL (by omega) (by omega) (by omega), SO.upd (by decide) (by decide)⟩
         | (have e := LRp_load hok hL h
            rw [upd2_ne (by omega), upd2_ne (by omega), upd2_ne (by omega)]
            refine ⟨e, ?_⟩
            split
            · exact SO.trans (SO.upd (by decide) (by decide)) (SO.upd (by decide) (by decide))
            · exact SO.trans (SO.upd (by decide) (by decide)) (SO.trans (SO.upd (by decide) (by decide)) (SO.trans (SO.upd (by decide) (by decide)) (SO.trans (SO.upd (by decide) (by decide)) (SO.upd (by decide) (by decide)))))))
    · first
      | (exfalso; omega)
      | (refine gx_aload_n hx dX5_readItem_108 rfl ?_
         refine gx_getR hx flX5_21 dX5_readItem_109 (by decide) rfl rfl ?_
         refine gx_aload_n hx dX5_readItem_112 rfl ?_
         refine gx_getI hx flX5_33 dX5_readItem_113 (by decide) rfl rfl 8 rfl ?_
         refine gx_iload_n hx dX5_readItem_116 rfl ?_
         rw [upd2_ne (by omega), l4]
         refine gx_iast hx dX5_readItem_117 (by decide) rfl (by omega) (by omega) (by decide) ?_
         refine gx_aload_n hx dX5_readItem_118 rfl ?_
         refine gx_dup hx dX5_readItem_119 ?_
         refine gx_getI hx flX5_33 dX5_readItem_120 (by decide) rfl rfl 8 rfl ?_
         rw [upd2_ne (by omega), upd2_ne (by omega), l4]
         refine gx_iconst hx dX5_readItem_123 ?_
         refine gx_iadd hx dX5_readItem_124 ?_
         refine gx_put hx fpX5_33 dX5_readItem_125 (by decide) rfl rfl rfl rfl 8 rfl ?_
         refine gx_aload_n hx dX5_readItem_128 rfl ?_
         refine gx_getR hx flX5_24 dX5_readItem_129 (by decide) rfl rfl ?_
         refine gx_aload_n hx dX5_readItem_132 rfl ?_
         refine gx_getI hx flX5_33 dX5_readItem_133 (by decide) rfl rfl 8 rfl ?_
         rw [upd2_at]
         refine gx_iconst hx dX5_readItem_136 ?_
         refine gx_iast hx dX5_readItem_137 (by decide) rfl (by omega) (by omega) (by decide) ?_
         refine gx_goto (tgt := 141) hx dX5_readItem_138 (by decide) ?_
         refine hret _ _ _ _ _ (by decide) (by decide) dX5_readItem_141 ?_
         first
         | exact ⟨LRp_label hL h (by omega), SO.trans (SO.upd (by decide) (by decide)) (SO.upd (by decide) (by decide))⟩
         | exact ⟨LRp_pool hL h, SO.trans (SO.upd (by decide) (by decide)) (SO.trans (SO.upd (by decide) (by decide)) (SO.trans (SO.upd (by decide) (by decide)) (SO.upd (by decide) (by decide))))⟩
         | exact ⟨LRp_other hL (by omega) (by omega) (by omega), SO.upd (by decide) (by decide)⟩
         | (have e := LRp_load hok hL h
            rw [upd2_ne (by omega), upd2_ne (by omega), upd2_ne (by omega)]
            refine ⟨e, ?_⟩
            split
            · exact SO.trans (SO.upd (by decide) (by decide)) (SO.upd (by decide) (by decide))
            · exact SO.trans (SO.upd (by decide) (by decide)) (SO.trans (SO.upd (by decide) (by decide)) (SO.trans (SO.upd (by decide) (by decide)) (SO.trans (SO.upd (by decide) (by decide)) (SO.upd (by decide) (by decide)))))))
  · refine gx_lookup (off := 114) (tgt := 141) hx dX5_readItem_27 ⟨by omega, by omega⟩ (by decide) (by rcases h with h | h | h | h | h <;> rw [h] <;> rfl) (by decide) ?_
    refine hret _ _ _ _ _ (by decide) (by decide) dX5_readItem_141 ?_
    first
    | exact ⟨LRp_label hL h (by omega), SO.trans (SO.upd (by decide) (by decide)) (SO.upd (by decide) (by decide))⟩
    | exact ⟨LRp_pool hL h, SO.trans (SO.upd (by decide) (by decide)) (SO.trans (SO.upd (by decide) (by decide)) (SO.trans (SO.upd (by decide) (by decide)) (SO.upd (by decide) (by decide))))⟩
    | exact ⟨LRp_other hL (by omega) (by omega) (by omega), SO.upd (by decide) (by decide)⟩
    | (have e := LRp_load hok hL h
       rw [upd2_ne (by omega), upd2_ne (by omega), upd2_ne (by omega)]
       refine ⟨e, ?_⟩
       split
       · exact SO.trans (SO.upd (by decide) (by decide)) (SO.upd (by decide) (by decide))
       · exact SO.trans (SO.upd (by decide) (by decide)) (SO.trans (SO.upd (by decide) (by decide)) (SO.trans (SO.upd (by decide) (by decide)) (SO.trans (SO.upd (by decide) (by decide)) (SO.upd (by decide) (by decide))))))
set_option maxRecDepth 20000 in
set_option maxHeartbeats 400000 in
theorem c_X5_read (g : Gm) (l : Launch) {σ : Sg} {P : List It} (hP : PR σ 0 P) : KV g l yX5_read cX5_read 2 (2) 0 0 [.inr 52] σ (fun σ' => LR σ' P ∧ SO σ σ' 52 59) := by
  refine startV (own := RX5) (by decide +kernel) rfl (Nat.le_of_ble_eq_true rfl) ?_
  intro X hx _ _ hret
  obtain ⟨hok, hc, hg9⟩ := id hP
  have hn := hok.1
  have hpn := pno_le P P.length
  refine gx_aload_n hx dX5_read_0 rfl ?_
  refine gx_getR hx flX5_9 dX5_read_1 (by decide) rfl rfl ?_
  refine gx_iconst hx dX5_read_4 ?_
  refine gx_callSV hx (c_J7_fill_53178 (n := 10) _ _ (by decide) rfl (by decide)) lkX5_41 mwJ7_fill_53178 dX5_read_5 rfl rfl (Nat.le_of_ble_eq_true rfl) (by decide) ⟨by decide, by decide⟩ (fun σ_5 hz_5 => ?_)
  obtain rfl := hz_5
  refine gx_aload_n hx dX5_read_8 rfl ?_
  refine gx_getR hx flX5_27 dX5_read_9 (by decide) rfl rfl ?_
  refine gx_iconst hx dX5_read_12 ?_
  refine gx_callSV hx (c_J7_fill_53178 (n := 100) _ _ (by decide) rfl (by decide)) lkX5_41 mwJ7_fill_53178 dX5_read_13 rfl rfl (Nat.le_of_ble_eq_true rfl) (by decide) ⟨by decide, by decide⟩ (fun σ_13 hz_13 => ?_)
  obtain ⟨σ1, es1⟩ : ∃ s, s = σ_13 := ⟨_, rfl⟩
  rw [← es1]
  rw [hz_13] at es1
  refine gx_aload_n hx dX5_read_16 rfl ?_
  refine gx_iconst hx dX5_read_17 ?_
  refine gx_put hx fpX5_33 dX5_read_18 (by decide) rfl rfl rfl rfl 8 rfl ?_
  refine gx_aload_n hx dX5_read_21 rfl ?_
  refine gx_getR hx flX5_24 dX5_read_22 (by decide) rfl rfl ?_
  refine gx_iconst hx dX5_read_25 ?_
  refine gx_iconst hx dX5_read_26 ?_
  refine gx_iast hx dX5_read_27 (by decide) rfl (by omega) (by omega) (by decide) ?_
  refine gx_iconst hx dX5_read_28 ?_
  refine gx_istore_n hx dX5_read_29 (Nat.le_of_ble_eq_true rfl) ?_
  refine gx_loop (α := Nat × Sg) (fun x => x.1 ≤ P.length ∧ LRp x.2 P x.1 ∧ SO σ x.2 52 59) (fun x => P.length - x.1) (fun x => [some (.inr 52), some (.inl (x.1 : Int))]) (fun _ => []) (fun x => x.2) ?_ (0, upd2 (upd2 σ1 52 8 0) 57 0 0) ?_
  · rintro ⟨i, τ⟩ ⟨hi, hL, hso⟩ ih
    dsimp only at hi hL hso ih ⊢
    refine gx_iload_n hx dX5_read_30 rfl ?_
    refine gx_aload_n hx dX5_read_31 rfl ?_
    refine gx_getR hx flX5_37 dX5_read_32 (by decide) rfl rfl ?_
    refine gx_callI hx (c_X6_count (j := 0) _ _ (by decide) (hP.so hso (by decide))) lkX5_47 mwX6_count dX5_read_35 (by decide) rfl rfl rfl rfl (Nat.le_of_ble_eq_true rfl) (by decide) ⟨by decide, by decide⟩ (fun z_35 σ_35 hz_35 => ?_)
    obtain ⟨rfl, rfl⟩ := hz_35
    refine gx_icmp_ge (tgt := 58) hx dX5_read_38 (by decide) ⟨by omega, by omega⟩ ⟨by omega, by omega⟩ (fun h38 => ?_) (fun h38 => ?_)
    · first
      | (exfalso; omega)
      | (refine gx_aload_n hx dX5_read_58 rfl ?_
         refine gx_getR hx flX5_21 dX5_read_59 (by decide) rfl rfl ?_
         refine gx_aload_n hx dX5_read_62 rfl ?_
         refine gx_getI hx flX5_33 dX5_read_63 (by decide) rfl rfl 8 rfl ?_
         refine gx_aload_n hx dX5_read_66 rfl ?_
         refine gx_getR hx flX5_37 dX5_read_67 (by decide) rfl rfl ?_
         refine gx_callI hx (c_X6_count (j := 0) _ _ (by decide) (hP.so hso (by decide))) lkX5_47 mwX6_count dX5_read_70 (by decide) rfl rfl rfl rfl (Nat.le_of_ble_eq_true rfl) (by decide) ⟨by decide, by decide⟩ (fun z_70 σ_70 hz_70 => ?_)
         obtain ⟨rfl, rfl⟩ := hz_70
         have el4 := hL.2.2.2.1
         have ei : i = P.length := by omega
         subst ei
         rw [el4]
         have hpn2 := pno_le P P.length
         refine gx_iast hx dX5_read_73 (by decide) rfl (by omega) (by omega) (by decide) ?_
         refine hret _ _ _ _ _ (by decide) (by decide) dX5_read_74 ?_
         exact ⟨LR_of hL, hso.trans (SO.upd (by decide) (by decide))⟩)
    · first
      | (exfalso; omega)
      | (refine gx_iload_n hx dX5_read_41 rfl ?_
         refine gx_bipush hx dX5_read_42 (by decide) ?_
         refine gx_icmp_ge (tgt := 58) hx dX5_read_44 (by decide) ⟨by omega, by omega⟩ ⟨by omega, by omega⟩ (fun h44 => ?_) (fun h44 => ?_)
         · first
           | (exfalso; omega)
           | (refine gx_aload_n hx dX5_read_58 rfl ?_
              refine gx_getR hx flX5_21 dX5_read_59 (by decide) rfl rfl ?_
              refine gx_aload_n hx dX5_read_62 rfl ?_
              refine gx_getI hx flX5_33 dX5_read_63 (by decide) rfl rfl 8 rfl ?_
              refine gx_aload_n hx dX5_read_66 rfl ?_
              refine gx_getR hx flX5_37 dX5_read_67 (by decide) rfl rfl ?_
              refine gx_callI hx (c_X6_count (j := 0) _ _ (by decide) (hP.so hso (by decide))) lkX5_47 mwX6_count dX5_read_70 (by decide) rfl rfl rfl rfl (Nat.le_of_ble_eq_true rfl) (by decide) ⟨by decide, by decide⟩ (fun z_70 σ_70 hz_70 => ?_)
              obtain ⟨rfl, rfl⟩ := hz_70
              have el4 := hL.2.2.2.1
              have ei : i = P.length := by omega
              subst ei
              rw [el4]
              have hpn2 := pno_le P P.length
              refine gx_iast hx dX5_read_73 (by decide) rfl (by omega) (by omega) (by decide) ?_
              refine hret _ _ _ _ _ (by decide) (by decide) dX5_read_74 ?_
              exact ⟨LR_of hL, hso.trans (SO.upd (by decide) (by decide))⟩)
         · first
           | (exfalso; omega)
           | (refine gx_aload_n hx dX5_read_47 rfl ?_
              refine gx_iload_n hx dX5_read_48 rfl ?_
              refine gx_callV hx (c_X5_readItem _ _ (hP.so hso (by decide)) (by omega) hL) lkX5_53 mwX5_readItem dX5_read_49 (by decide) rfl rfl rfl rfl (Nat.le_of_ble_eq_true rfl) (by decide) ⟨by decide, by decide⟩ (fun σ_49 hz_49 => ?_)
              obtain ⟨q1, q2⟩ := hz_49
              refine gx_iinc hx dX5_read_52 (Nat.le_of_ble_eq_true rfl) rfl ?_
              refine gx_goto (tgt := 30) hx dX5_read_55 (by decide) ?_
              exact ih (i + 1, σ_49) ⟨by omega, q1, hso.trans q2⟩ (by dsimp only; omega)))
  · subst es1
    dsimp only
    refine ⟨Nat.zero_le _, ⟨fun lb hl => ?_, fun q hq => absurd hq (Nat.not_lt_zero q), fun q hq => absurd hq (Nat.not_lt_zero q), ?_, fun q hq => absurd hq (Nat.not_lt_zero q), ?_, fun v hv => ?_⟩, fun k hk => ?_⟩
    · rw [upd2_ne (by omega), upd2_ne (by omega), if_neg (by omega), if_pos (by omega)]
      rfl
    · rw [upd2_ne (by omega), upd2_at]
      rfl
    · rw [show ((pno P 0 : Nat) : Int) = 0 from rfl, upd2_at]
      rfl
    · rw [upd2_ne (by omega), upd2_ne (by omega), if_pos (by omega)]
      refine ⟨by omega, by omega, ⟨fun h => ?_, fun h => ?_⟩, fun h => ?_⟩
      · have : ((pno P 0 : Nat) : Int) = 0 := rfl
        omega
      · simp [vals] at h
      · simp [vals] at h
    · funext q
      simp only [upd2]
      rw [if_neg (by omega), if_neg (by omega), if_neg (by omega), if_neg (by omega)]
set_option maxRecDepth 20000 in
set_option maxHeartbeats 400000 in
theorem c_X5_definerOf (g : Gm) (l : Launch) {σ : Sg} {P : List It} {lb : Nat} (hP : PR σ 0 P) (hL : LR σ P) (hlb : lb < 10) : KI g l yX5_definerOf cX5_definerOf 2 ((some .int)) (0) 0 0 [.inr 52, .inl (lb : Int)] σ (fun r σ' => r = dfn P lb P.length ∧ σ = σ') := by
  refine startI (own := RX5) (by decide +kernel) rfl (Nat.le_of_ble_eq_true rfl) ?_
  intro X hx _ _ hret
  obtain ⟨hok, hc, hg9⟩ := id hP
  have hn := hok.1
  have hpn := pno_le P P.length
  obtain ⟨l1, l2, l3, l4, l5⟩ := id hL
  refine gx_iload_n hx dX5_definerOf_0 rfl ?_
  refine gx_if_lt (tgt := 19) hx dX5_definerOf_1 (by decide) ⟨by omega, by omega⟩ (fun h1 => ?_) (fun h1 => ?_)
  · first
    | (exfalso; omega)
    | (refine gx_iconst hx dX5_definerOf_19 ?_
       refine hret _ _ _ _ _ _ _ (by decide) (by decide) dX5_definerOf_20 rfl rfl ?_
       exact ⟨l1 lb hlb, rfl⟩)
  · first
    | (exfalso; omega)
    | (refine gx_iload_n hx dX5_definerOf_4 rfl ?_
       refine gx_bipush hx dX5_definerOf_5 (by decide) ?_
       refine gx_icmp_ge (tgt := 19) hx dX5_definerOf_7 (by decide) ⟨by omega, by omega⟩ ⟨by omega, by omega⟩ (fun h7 => ?_) (fun h7 => ?_)
       · first
         | (exfalso; omega)
         | (refine gx_iconst hx dX5_definerOf_19 ?_
            refine hret _ _ _ _ _ _ _ (by decide) (by decide) dX5_definerOf_20 rfl rfl ?_
            exact ⟨l1 lb hlb, rfl⟩)
       · first
         | (exfalso; omega)
         | (refine gx_aload_n hx dX5_definerOf_10 rfl ?_
            refine gx_getR hx flX5_9 dX5_definerOf_11 (by decide) rfl rfl ?_
            refine gx_iload_n hx dX5_definerOf_14 rfl ?_
            refine gx_iald hx dX5_definerOf_15 (by decide) rfl (by omega) (by omega) (by decide) ?_
            refine gx_goto (tgt := 20) hx dX5_definerOf_16 (by decide) ?_
            refine hret _ _ _ _ _ _ _ (by decide) (by decide) dX5_definerOf_20 rfl rfl ?_
            exact ⟨l1 lb hlb, rfl⟩))
set_option maxRecDepth 20000 in
set_option maxHeartbeats 400000 in
theorem c_X5_endPoolNumber (g : Gm) (l : Launch) {σ : Sg} {P : List It} (hP : PR σ 0 P) (hL : LR σ P) : KI g l yX5_endPoolNumber cX5_endPoolNumber 1 ((some .int)) (0) 0 0 [.inr 52] σ (fun r σ' => r = (pno P P.length : Int) ∧ σ = σ') := by
  refine startI (own := RX5) (by decide +kernel) rfl (Nat.le_of_ble_eq_true rfl) ?_
  intro X hx _ _ hret
  obtain ⟨hok, hc, hg9⟩ := id hP
  have hn := hok.1
  have hpn := pno_le P P.length
  obtain ⟨l1, l2, l3, l4, l5⟩ := id hL
  refine gx_aload_n hx dX5_endPoolNumber_0 rfl ?_
  refine gx_getI hx flX5_33 dX5_endPoolNumber_1 (by decide) rfl rfl 8 rfl ?_
  refine hret _ _ _ _ _ _ _ (by decide) (by decide) dX5_endPoolNumber_4 rfl rfl ?_
  exact ⟨l4, rfl⟩
set_option maxRecDepth 20000 in
set_option maxHeartbeats 400000 in
theorem c_X5_poolAt (g : Gm) (l : Launch) {σ : Sg} {P : List It} {i : Nat} (hP : PR σ 0 P) (hL : LR σ P) (hi : i < P.length) : KI g l yX5_poolAt cX5_poolAt 2 ((some .int)) (1) 0 0 [.inr 52, .inl (i : Int)] σ (fun r σ' => r = (pno P i : Int) ∧ σ = σ') := by
  refine startI (own := RX5) (by decide +kernel) rfl (Nat.le_of_ble_eq_true rfl) ?_
  intro X hx _ _ hret
  obtain ⟨hok, hc, hg9⟩ := id hP
  have hn := hok.1
  have hpn := pno_le P P.length
  obtain ⟨l1, l2, l3, l4, l5⟩ := id hL
  refine gx_aload_n hx dX5_poolAt_0 rfl ?_
  refine gx_getR hx flX5_37 dX5_poolAt_1 (by decide) rfl rfl ?_
  refine gx_iload_n hx dX5_poolAt_4 rfl ?_
  refine gx_callI hx (c_X6_has (j := 0) _ _ (by decide) hP ⟨by omega, by omega⟩) lkX5_68 mwX6_has dX5_poolAt_5 (by decide) rfl rfl rfl rfl (Nat.le_of_ble_eq_true rfl) (by decide) ⟨by decide, by decide⟩ (fun z_5 σ_5 hz_5 => ?_)
  obtain ⟨e9, rfl⟩ := hz_5
  rw [if_pos (by omega)] at e9
  subst e9
  refine gx_if_eq (tgt := 20) hx dX5_poolAt_8 (by decide) ⟨by omega, by omega⟩ (fun h8 => ?_) (fun h8 => ?_)
  · first
    | (exfalso; omega)
    | (refine gx_aload_n hx dX5_poolAt_20 rfl ?_
       refine gx_getI hx flX5_33 dX5_poolAt_21 (by decide) rfl rfl 8 rfl ?_
       refine hret _ _ _ _ _ _ _ (by decide) (by decide) dX5_poolAt_24 rfl rfl ?_
       exact ⟨l2 i hi, rfl⟩)
  · first
    | (exfalso; omega)
    | (refine gx_aload_n hx dX5_poolAt_11 rfl ?_
       refine gx_getR hx flX5_15 dX5_poolAt_12 (by decide) rfl rfl ?_
       refine gx_iload_n hx dX5_poolAt_15 rfl ?_
       refine gx_iald hx dX5_poolAt_16 (by decide) rfl (by omega) (by omega) (by decide) ?_
       refine gx_goto (tgt := 24) hx dX5_poolAt_17 (by decide) ?_
       refine hret _ _ _ _ _ _ _ (by decide) (by decide) dX5_poolAt_24 rfl rfl ?_
       exact ⟨l2 i hi, rfl⟩)
set_option maxRecDepth 20000 in
set_option maxHeartbeats 400000 in
theorem c_X5_literalIndexAt (g : Gm) (l : Launch) {σ : Sg} {P : List It} {i : Nat} (hP : PR σ 0 P) (hL : LR σ P) (hi : i < P.length) (h6 : kd P i = 6) : KI g l yX5_literalIndexAt cX5_literalIndexAt 2 ((some .int)) (1) 0 0 [.inr 52, .inl (i : Int)] σ (fun r σ' => r = ((vals P (i + 1)).idxOf (op P i) : Int) ∧ σ = σ') := by
  refine startI (own := RX5) (by decide +kernel) rfl (Nat.le_of_ble_eq_true rfl) ?_
  intro X hx _ _ hret
  obtain ⟨hok, hc, hg9⟩ := id hP
  have hn := hok.1
  have hpn := pno_le P P.length
  obtain ⟨l1, l2, l3, l4, l5⟩ := id hL
  refine gx_aload_n hx dX5_literalIndexAt_0 rfl ?_
  refine gx_getR hx flX5_37 dX5_literalIndexAt_1 (by decide) rfl rfl ?_
  refine gx_iload_n hx dX5_literalIndexAt_4 rfl ?_
  refine gx_callI hx (c_X6_has (j := 0) _ _ (by decide) hP ⟨by omega, by omega⟩) lkX5_68 mwX6_has dX5_literalIndexAt_5 (by decide) rfl rfl rfl rfl (Nat.le_of_ble_eq_true rfl) (by decide) ⟨by decide, by decide⟩ (fun z_5 σ_5 hz_5 => ?_)
  obtain ⟨e9, rfl⟩ := hz_5
  rw [if_pos (by omega)] at e9
  subst e9
  refine gx_if_eq (tgt := 20) hx dX5_literalIndexAt_8 (by decide) ⟨by omega, by omega⟩ (fun h8 => ?_) (fun h8 => ?_)
  · first
    | (exfalso; omega)
    | (refine gx_iconst hx dX5_literalIndexAt_20 ?_
       refine hret _ _ _ _ _ _ _ (by decide) (by decide) dX5_literalIndexAt_21 rfl rfl ?_
       exact ⟨l3 i hi h6, rfl⟩)
  · first
    | (exfalso; omega)
    | (refine gx_aload_n hx dX5_literalIndexAt_11 rfl ?_
       refine gx_getR hx flX5_18 dX5_literalIndexAt_12 (by decide) rfl rfl ?_
       refine gx_iload_n hx dX5_literalIndexAt_15 rfl ?_
       refine gx_iald hx dX5_literalIndexAt_16 (by decide) rfl (by omega) (by omega) (by decide) ?_
       refine gx_goto (tgt := 21) hx dX5_literalIndexAt_17 (by decide) ?_
       refine hret _ _ _ _ _ _ _ (by decide) (by decide) dX5_literalIndexAt_21 rfl rfl ?_
       exact ⟨l3 i hi h6, rfl⟩)
set_option maxRecDepth 20000 in
set_option maxHeartbeats 400000 in
theorem c_X5_literalsIn (g : Gm) (l : Launch) {σ : Sg} {P : List It} {q : Nat} (hP : PR σ 0 P) (hL : LR σ P) (hq : q ≤ P.length) (h7 : kd P q = 7) : KI g l yX5_literalsIn cX5_literalsIn 2 ((some .int)) (0) 0 0 [.inr 52, .inl (pno P q : Int)] σ (fun r σ' => r = ((vals P q).length : Int) ∧ σ = σ') := by
  refine startI (own := RX5) (by decide +kernel) rfl (Nat.le_of_ble_eq_true rfl) ?_
  intro X hx _ _ hret
  obtain ⟨hok, hc, hg9⟩ := id hP
  have hn := hok.1
  have hpn := pno_le P P.length
  obtain ⟨l1, l2, l3, l4, l5⟩ := id hL
  have hm := pno_mono P hq
  refine gx_iload_n hx dX5_literalsIn_0 rfl ?_
  refine gx_if_lt (tgt := 21) hx dX5_literalsIn_1 (by decide) ⟨by omega, by omega⟩ (fun h1 => ?_) (fun h1 => ?_)
  · first
    | (exfalso; omega)
    | (refine gx_iconst hx dX5_literalsIn_21 ?_
       refine hret _ _ _ _ _ _ _ (by decide) (by decide) dX5_literalsIn_22 rfl rfl ?_
       exact ⟨(l5 q hq h7).2, rfl⟩)
  · first
    | (exfalso; omega)
    | (refine gx_iload_n hx dX5_literalsIn_4 rfl ?_
       refine gx_aload_n hx dX5_literalsIn_5 rfl ?_
       refine gx_getI hx flX5_33 dX5_literalsIn_6 (by decide) rfl rfl 8 rfl ?_
       refine gx_icmp_gt (tgt := 21) hx dX5_literalsIn_9 (by decide) ⟨by omega, by omega⟩ ⟨by omega, by omega⟩ (fun h9 => ?_) (fun h9 => ?_)
       · first
         | (exfalso; omega)
         | (refine gx_iconst hx dX5_literalsIn_21 ?_
            refine hret _ _ _ _ _ _ _ (by decide) (by decide) dX5_literalsIn_22 rfl rfl ?_
            exact ⟨(l5 q hq h7).2, rfl⟩)
       · first
         | (exfalso; omega)
         | (refine gx_aload_n hx dX5_literalsIn_12 rfl ?_
            refine gx_getR hx flX5_24 dX5_literalsIn_13 (by decide) rfl rfl ?_
            refine gx_iload_n hx dX5_literalsIn_16 rfl ?_
            refine gx_iald hx dX5_literalsIn_17 (by decide) rfl (by omega) (by omega) (by decide) ?_
            refine gx_goto (tgt := 22) hx dX5_literalsIn_18 (by decide) ?_
            refine hret _ _ _ _ _ _ _ (by decide) (by decide) dX5_literalsIn_22 rfl rfl ?_
            exact ⟨(l5 q hq h7).2, rfl⟩))
set_option maxRecDepth 20000 in
set_option maxHeartbeats 400000 in
theorem c_X5_itemOfPool (g : Gm) (l : Launch) {σ : Sg} {P : List It} {q : Nat} (hP : PR σ 0 P) (hL : LR σ P) (hq : q ≤ P.length) (h7 : kd P q = 7) : KI g l yX5_itemOfPool cX5_itemOfPool 2 ((some .int)) (1) 0 0 [.inr 52, .inl (pno P q : Int)] σ (fun r σ' => r = (q : Int) ∧ σ = σ') := by
  refine startI (own := RX5) (by decide +kernel) rfl (Nat.le_of_ble_eq_true rfl) ?_
  intro X hx _ _ hret
  obtain ⟨hok, hc, hg9⟩ := id hP
  have hn := hok.1
  have hpn := pno_le P P.length
  obtain ⟨l1, l2, l3, l4, l5⟩ := id hL
  have hm := pno_mono P hq
  refine gx_iload_n hx dX5_itemOfPool_0 rfl ?_
  refine gx_if_lt (tgt := 21) hx dX5_itemOfPool_1 (by decide) ⟨by omega, by omega⟩ (fun h1 => ?_) (fun h1 => ?_)
  · first
    | (exfalso; omega)
    | (refine gx_aload_n hx dX5_itemOfPool_21 rfl ?_
       refine gx_getR hx flX5_37 dX5_itemOfPool_22 (by decide) rfl rfl ?_
       refine gx_callI hx (c_X6_count (j := 0) _ _ (by decide) hP) lkX5_47 mwX6_count dX5_itemOfPool_25 (by decide) rfl rfl rfl rfl (Nat.le_of_ble_eq_true rfl) (by decide) ⟨by decide, by decide⟩ (fun z_25 σ_25 hz_25 => ?_)
       obtain ⟨rfl, rfl⟩ := hz_25
       refine hret _ _ _ _ _ _ _ (by decide) (by decide) dX5_itemOfPool_28 rfl rfl ?_
       exact ⟨(l5 q hq h7).1, rfl⟩)
  · first
    | (exfalso; omega)
    | (refine gx_iload_n hx dX5_itemOfPool_4 rfl ?_
       refine gx_aload_n hx dX5_itemOfPool_5 rfl ?_
       refine gx_getI hx flX5_33 dX5_itemOfPool_6 (by decide) rfl rfl 8 rfl ?_
       refine gx_icmp_gt (tgt := 21) hx dX5_itemOfPool_9 (by decide) ⟨by omega, by omega⟩ ⟨by omega, by omega⟩ (fun h9 => ?_) (fun h9 => ?_)
       · first
         | (exfalso; omega)
         | (refine gx_aload_n hx dX5_itemOfPool_21 rfl ?_
            refine gx_getR hx flX5_37 dX5_itemOfPool_22 (by decide) rfl rfl ?_
            refine gx_callI hx (c_X6_count (j := 0) _ _ (by decide) hP) lkX5_47 mwX6_count dX5_itemOfPool_25 (by decide) rfl rfl rfl rfl (Nat.le_of_ble_eq_true rfl) (by decide) ⟨by decide, by decide⟩ (fun z_25 σ_25 hz_25 => ?_)
            obtain ⟨rfl, rfl⟩ := hz_25
            refine hret _ _ _ _ _ _ _ (by decide) (by decide) dX5_itemOfPool_28 rfl rfl ?_
            exact ⟨(l5 q hq h7).1, rfl⟩)
       · first
         | (exfalso; omega)
         | (refine gx_aload_n hx dX5_itemOfPool_12 rfl ?_
            refine gx_getR hx flX5_21 dX5_itemOfPool_13 (by decide) rfl rfl ?_
            refine gx_iload_n hx dX5_itemOfPool_16 rfl ?_
            refine gx_iald hx dX5_itemOfPool_17 (by decide) rfl (by omega) (by omega) (by decide) ?_
            refine gx_goto (tgt := 28) hx dX5_itemOfPool_18 (by decide) ?_
            refine hret _ _ _ _ _ _ _ (by decide) (by decide) dX5_itemOfPool_28 rfl rfl ?_
            exact ⟨(l5 q hq h7).1, rfl⟩))
