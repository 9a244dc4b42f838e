/-! The law: cases 0 to 9 -/
set_option maxRecDepth 20000 in
set_option maxHeartbeats 1000000 in
theorem law_0 {X : Cx} {h0 mc0 ms0 N i a b : Nat} {xs : Nat → Int32} {σ : Sg} {A : AS} (hx : CX X cL_law RL h0 mc0 ms0) (hh0 : 40 ≤ h0) (hX : LWX X N xs) (hnc : NCS X.2.2.2.2.2.1) (hl : X.2.2.1.stackTraces = false) (hN : N ≤ 1536) (hi : i + 3 ≤ N) (hC : CR σ A) (hR : MR σ A) (ha : a + 3 ≤ mc0) (hb : b + 18 ≤ ms0) (kk : ∀ σ' A', CR σ' A' → MR σ' A' → GJ X (a + 3) (b + 18) 2067 [some (.inr 1040), some (.inr 69), some (.inr 70), some (.inr 81), some (.inr 82), some (.inl (i : Int)), none, none, none] [] σ') : GJ X a b 220 [some (.inr 1040), some (.inr 69), some (.inr 70), some (.inr 81), some (.inr 82), some (.inl (i : Int)), none, none, none] [] σ := by
  refine gx_aload_n hx dL_law_220 rfl ?_
  refine gx_callI hx (c_X8_reset _ _ hC) lkL_125 mwX8_reset dL_law_221 (by decide) rfl rfl rfl rfl (Nat.le_of_ble_eq_true rfl) (by omega) ⟨by omega, by omega⟩ (fun z1 σ1 h1 => ?_)
  obtain ⟨A1, r1, c1, e1⟩ := h1
  have hR1 : MR σ1 A := hR.out (fun k k1 _ => e1 k k1)
  refine gx_aload_n hx dL_law_224 rfl ?_
  refine gx_callI hx (c_X9_reset _ _ hR1) lkL_128 mwX9_reset dL_law_225 (by decide) rfl rfl rfl rfl (Nat.le_of_ble_eq_true rfl) (by omega) ⟨by omega, by omega⟩ (fun z2 σ2 h2 => ?_)
  obtain ⟨c2, A2, r2, m2, m3, m4⟩ := h2
  obtain ⟨rfl, rfl, rfl⟩ := uniq_fn _ _ _ _ _ _ _ r1 r2
  refine gx_icmpS (tgt := 2067) hx dL_law_228 (by decide) ?_
  exact GJ.widen (by omega) (by omega) (kk _ _ (c1.out (fun k hk => m4 k (Or.inl hk))) m2)
set_option maxRecDepth 20000 in
set_option maxHeartbeats 1000000 in
theorem law_1 {X : Cx} {h0 mc0 ms0 N i a b : Nat} {xs : Nat → Int32} {σ : Sg} {A : AS} (hx : CX X cL_law RL h0 mc0 ms0) (hh0 : 40 ≤ h0) (hX : LWX X N xs) (hnc : NCS X.2.2.2.2.2.1) (hl : X.2.2.1.stackTraces = false) (hN : N ≤ 1536) (hi : i + 3 ≤ N) (hC : CR σ A) (hR : MR σ A) (ha : a + 3 ≤ mc0) (hb : b + 18 ≤ ms0) (kk : ∀ σ' A', CR σ' A' → MR σ' A' → GJ X (a + 3) (b + 18) 2067 [some (.inr 1040), some (.inr 69), some (.inr 70), some (.inr 81), some (.inr 82), some (.inl (i : Int)), none, none, none] [] σ') : GJ X a b 233 [some (.inr 1040), some (.inr 69), some (.inr 70), some (.inr 81), some (.inr 82), some (.inl (i : Int)), none, none, none] [] σ := by
  refine gx_aload_n hx dL_law_233 rfl ?_
  refine gx_callI hx (c_X8_itemCount _ _ hC) lkL_129 mwX8_itemCount dL_law_234 (by decide) rfl rfl rfl rfl (Nat.le_of_ble_eq_true rfl) (by omega) ⟨by omega, by omega⟩ (fun z1 σ1 h1 => ?_)
  obtain ⟨A1, r1, c1, e1⟩ := h1
  have hR1 : MR σ1 A := hR.out (fun k k1 _ => e1 k k1)
  refine gx_aload_n hx dL_law_237 rfl ?_
  refine gx_callI hx (c_X9_itemCount _ _ hR1) lkL_132 mwX9_itemCount dL_law_238 (by decide) rfl rfl rfl rfl (Nat.le_of_ble_eq_true rfl) (by omega) ⟨by omega, by omega⟩ (fun z2 σ2 h2 => ?_)
  obtain ⟨c2, A2, r2, m2, m3, m4⟩ := h2
  obtain ⟨rfl, rfl, rfl⟩ := uniq_fn _ _ _ _ _ _ _ r1 r2
  refine gx_icmpS (tgt := 2067) hx dL_law_241 (by decide) ?_
  exact GJ.widen (by omega) (by omega) (kk _ _ (c1.out (fun k hk => m4 k (Or.inl hk))) m2)
set_option maxRecDepth 20000 in
set_option maxHeartbeats 1000000 in
theorem law_2 {X : Cx} {h0 mc0 ms0 N i a b : Nat} {xs : Nat → Int32} {σ : Sg} {A : AS} (hx : CX X cL_law RL h0 mc0 ms0) (hh0 : 40 ≤ h0) (hX : LWX X N xs) (hnc : NCS X.2.2.2.2.2.1) (hl : X.2.2.1.stackTraces = false) (hN : N ≤ 1536) (hi : i + 3 ≤ N) (hC : CR σ A) (hR : MR σ A) (ha : a + 3 ≤ mc0) (hb : b + 18 ≤ ms0) (kk : ∀ σ' A', CR σ' A' → MR σ' A' → GJ X (a + 3) (b + 18) 2067 [some (.inr 1040), some (.inr 69), some (.inr 70), some (.inr 81), some (.inr 82), some (.inl (i : Int)), none, none, none] [] σ') : GJ X a b 246 [some (.inr 1040), some (.inr 69), some (.inr 70), some (.inr 81), some (.inr 82), some (.inl (i : Int)), none, none, none] [] σ := by
  obtain ⟨c, hc, hc1⟩ := i2c_any (xs ((i : Int) + 1).toNat).toInt
  refine gx_aload_n hx dL_law_246 rfl ?_
  refine gx_aload_n hx dL_law_247 rfl ?_
  refine gx_iload hx dL_law_248 rfl ?_
  refine gx_iconst hx dL_law_250 ?_
  refine gx_iadd hx dL_law_251 ?_
  refine gx_sld hx hX dL_law_252 (by omega) (by omega) (by omega) ?_
  refine gx_i2c hx dL_law_253 hc1 ?_
  refine gx_aload_n hx dL_law_254 rfl ?_
  refine gx_callL hx hnc (c_L_append _ _ hl hC hc) lkL_133 mwL_append dL_law_255 rfl rfl (Nat.le_of_ble_eq_true rfl) (by omega) ⟨by omega, by omega⟩ (fun z1 σ1 h1 => ?_)
  obtain ⟨n1, v1, A1, rfl, n9, r1, c1, o1, k1⟩ := h1
  have hR1 : MR σ1 A := hR.out (fun k q1 q2 => k1 k q1 (by omega) (by omega))
  refine gx_istore hx dL_law_258 (Nat.le_of_ble_eq_true rfl) ?_
  refine gx_aload_n hx dL_law_260 rfl ?_
  refine gx_aload_n hx dL_law_261 rfl ?_
  refine gx_iload hx dL_law_262 rfl ?_
  refine gx_iconst hx dL_law_264 ?_
  refine gx_iadd hx dL_law_265 ?_
  refine gx_sld hx hX dL_law_266 (by omega) (by omega) (by omega) ?_
  refine gx_i2c hx dL_law_267 hc1 ?_
  refine gx_callI hx (c_X9_append _ _ hR1 hc) lkL_138 mwX9_append dL_law_268 (by decide) rfl rfl rfl rfl (Nat.le_of_ble_eq_true rfl) (by omega) ⟨by omega, by omega⟩ (fun z2 σ2 h2 => ?_)
  obtain ⟨c2, A2, r2, m2, m3, m4⟩ := h2
  obtain ⟨rfl, rfl, rfl⟩ := (uniq_fn _) _ _ _ _ _ _ r1 r2
  refine gx_istore hx dL_law_271 (Nat.le_of_ble_eq_true rfl) ?_
  refine gx_aload_n hx dL_law_273 rfl ?_
  refine gx_callI hx (c_X9_thrown _ _) lkL_139 mwX9_thrown dL_law_274 (by decide) rfl rfl rfl rfl (Nat.le_of_ble_eq_true rfl) (by omega) ⟨by omega, by omega⟩ (fun z3 σ3 h3 => ?_)
  obtain ⟨rfl, rfl⟩ := h3
  rw [m3]
  refine gx_iload hx dL_law_277 rfl ?_
  refine gx_icmpS (tgt := 284) hx dL_law_279 (by decide) ?_
  refine gx_iload hx dL_law_284 rfl ?_
  have hend : GJ X (a + 3) (b + 18) 301 [some (.inr 1040), some (.inr 69), some (.inr 70), some (.inr 81), some (.inr 82), some (.inl (i : Int)), some (.inl (n1 : Int)), some (.inl v1), none] [] σ2 := by
    refine gx_goto (tgt := 2067) hx dL_law_301 (by decide) ?_
    refine GJ.drop 6 (GJ.drop 7 ?_)
    exact GJ.widen (by omega) (by omega) (kk _ _ (c1.out (fun k hk => m4 k (Or.inl hk))) m2)
  refine gx_if_ne (tgt := 301) hx dL_law_286 (by decide) ⟨by omega, by omega⟩ (fun hq => ?_) (fun hq => ?_)
  · exact GJ.widen (by omega) (by omega) hend
  · have hz : σ2 81 0 = (ii v1).toInt := by
      rw [m4 81 (Or.inr (by decide))]
      exact o1 (by omega)
    refine gx_aload_n hx dL_law_289 rfl ?_
    refine gx_iconst hx dL_law_290 ?_
    refine gx_lcmpS (tgt := 301) hx hz dL_law_291 dL_law_292 dL_law_294 dL_law_295 dL_law_296 (by decide) rfl ?_
    exact GJ.widen (by omega) (by omega) hend
set_option maxRecDepth 20000 in
set_option maxHeartbeats 1000000 in
theorem law_3 {X : Cx} {h0 mc0 ms0 N i a b : Nat} {xs : Nat → Int32} {σ : Sg} {A : AS} (hx : CX X cL_law RL h0 mc0 ms0) (hh0 : 40 ≤ h0) (hX : LWX X N xs) (hnc : NCS X.2.2.2.2.2.1) (hl : X.2.2.1.stackTraces = false) (hN : N ≤ 1536) (hi : i + 3 ≤ N) (hC : CR σ A) (hR : MR σ A) (ha : a + 3 ≤ mc0) (hb : b + 18 ≤ ms0) (kk : ∀ σ' A', CR σ' A' → MR σ' A' → GJ X (a + 3) (b + 18) 2067 [some (.inr 1040), some (.inr 69), some (.inr 70), some (.inr 81), some (.inr 82), some (.inl (i : Int)), none, none, none] [] σ') : GJ X a b 304 [some (.inr 1040), some (.inr 69), some (.inr 70), some (.inr 81), some (.inr 82), some (.inl (i : Int)), none, none, none] [] σ := by
  refine gx_aload_n hx dL_law_304 rfl ?_
  refine gx_aload_n hx dL_law_305 rfl ?_
  refine gx_iload hx dL_law_306 rfl ?_
  refine gx_iconst hx dL_law_308 ?_
  refine gx_iadd hx dL_law_309 ?_
  refine gx_sld hx hX dL_law_310 (by omega) (by omega) (by omega) ?_
  refine gx_aload_n hx dL_law_311 rfl ?_
  refine gx_callL hx hnc (c_L_insert _ _ hl hC (rg_of _)) lkL_142 mwL_insert dL_law_312 rfl rfl (Nat.le_of_ble_eq_true rfl) (by omega) ⟨by omega, by omega⟩ (fun z1 σ1 h1 => ?_)
  obtain ⟨n1, v1, A1, rfl, n9, r1, c1, o1, k1⟩ := h1
  have hR1 : MR σ1 A := hR.out (fun k q1 q2 => k1 k q1 (by omega) (by omega))
  refine gx_istore hx dL_law_315 (Nat.le_of_ble_eq_true rfl) ?_
  refine gx_aload_n hx dL_law_317 rfl ?_
  refine gx_aload_n hx dL_law_318 rfl ?_
  refine gx_iload hx dL_law_319 rfl ?_
  refine gx_iconst hx dL_law_321 ?_
  refine gx_iadd hx dL_law_322 ?_
  refine gx_sld hx hX dL_law_323 (by omega) (by omega) (by omega) ?_
  refine gx_callI hx (c_X9_insert _ _ hR1 (rg_of _)) lkL_145 mwX9_insert dL_law_324 (by decide) rfl rfl rfl rfl (Nat.le_of_ble_eq_true rfl) (by omega) ⟨by omega, by omega⟩ (fun z2 σ2 h2 => ?_)
  obtain ⟨c2, A2, r2, m2, m3, m4⟩ := h2
  obtain ⟨rfl, rfl, rfl⟩ := (uniq_fn _) _ _ _ _ _ _ r1 r2
  refine gx_istore hx dL_law_327 (Nat.le_of_ble_eq_true rfl) ?_
  refine gx_aload_n hx dL_law_329 rfl ?_
  refine gx_callI hx (c_X9_thrown _ _) lkL_139 mwX9_thrown dL_law_330 (by decide) rfl rfl rfl rfl (Nat.le_of_ble_eq_true rfl) (by omega) ⟨by omega, by omega⟩ (fun z3 σ3 h3 => ?_)
  obtain ⟨rfl, rfl⟩ := h3
  rw [m3]
  refine gx_iload hx dL_law_333 rfl ?_
  refine gx_icmpS (tgt := 340) hx dL_law_335 (by decide) ?_
  refine gx_iload hx dL_law_340 rfl ?_
  have hend : GJ X (a + 3) (b + 18) 357 [some (.inr 1040), some (.inr 69), some (.inr 70), some (.inr 81), some (.inr 82), some (.inl (i : Int)), some (.inl (n1 : Int)), some (.inl v1), none] [] σ2 := by
    refine gx_goto (tgt := 2067) hx dL_law_357 (by decide) ?_
    refine GJ.drop 6 (GJ.drop 7 ?_)
    exact GJ.widen (by omega) (by omega) (kk _ _ (c1.out (fun k hk => m4 k (Or.inl hk))) m2)
  refine gx_if_ne (tgt := 357) hx dL_law_342 (by decide) ⟨by omega, by omega⟩ (fun hq => ?_) (fun hq => ?_)
  · exact GJ.widen (by omega) (by omega) hend
  · have hz : σ2 81 0 = (ii v1).toInt := by
      rw [m4 81 (Or.inr (by decide))]
      exact o1 (by omega)
    refine gx_aload_n hx dL_law_345 rfl ?_
    refine gx_iconst hx dL_law_346 ?_
    refine gx_lcmpS (tgt := 357) hx hz dL_law_347 dL_law_348 dL_law_350 dL_law_351 dL_law_352 (by decide) rfl ?_
    exact GJ.widen (by omega) (by omega) hend
set_option maxRecDepth 20000 in
set_option maxHeartbeats 1000000 in
theorem law_4 {X : Cx} {h0 mc0 ms0 N i a b : Nat} {xs : Nat → Int32} {σ : Sg} {A : AS} (hx : CX X cL_law RL h0 mc0 ms0) (hh0 : 40 ≤ h0) (hX : LWX X N xs) (hnc : NCS X.2.2.2.2.2.1) (hl : X.2.2.1.stackTraces = false) (hN : N ≤ 1536) (hi : i + 3 ≤ N) (hC : CR σ A) (hR : MR σ A) (ha : a + 3 ≤ mc0) (hb : b + 18 ≤ ms0) (kk : ∀ σ' A', CR σ' A' → MR σ' A' → GJ X (a + 3) (b + 18) 2067 [some (.inr 1040), some (.inr 69), some (.inr 70), some (.inr 81), some (.inr 82), some (.inl (i : Int)), none, none, none] [] σ') : GJ X a b 360 [some (.inr 1040), some (.inr 69), some (.inr 70), some (.inr 81), some (.inr 82), some (.inl (i : Int)), none, none, none] [] σ := by
  refine gx_aload_n hx dL_law_360 rfl ?_
  refine gx_aload_n hx dL_law_361 rfl ?_
  refine gx_callL hx hnc (c_L_errorPosition _ _ hl hC) lkL_146 mwL_errorPosition dL_law_362 rfl rfl (Nat.le_of_ble_eq_true rfl) (by omega) ⟨by omega, by omega⟩ (fun z1 σ1 h1 => ?_)
  obtain ⟨n1, v1, A1, rfl, n9, r1, c1, o1, k1⟩ := h1
  have hR1 : MR σ1 A := hR.out (fun k q1 q2 => k1 k q1 (by omega) (by omega))
  refine gx_istore hx dL_law_365 (Nat.le_of_ble_eq_true rfl) ?_
  refine gx_aload_n hx dL_law_367 rfl ?_
  refine gx_callI hx (c_X9_errorPosition _ _ hR1) lkL_149 mwX9_errorPosition dL_law_368 (by decide) rfl rfl rfl rfl (Nat.le_of_ble_eq_true rfl) (by omega) ⟨by omega, by omega⟩ (fun z2 σ2 h2 => ?_)
  obtain ⟨c2, A2, r2, m2, m3, m4⟩ := h2
  obtain ⟨rfl, rfl, rfl⟩ := (uniq_fn _) _ _ _ _ _ _ r1 r2
  refine gx_istore hx dL_law_371 (Nat.le_of_ble_eq_true rfl) ?_
  refine gx_aload_n hx dL_law_373 rfl ?_
  refine gx_callI hx (c_X9_thrown _ _) lkL_139 mwX9_thrown dL_law_374 (by decide) rfl rfl rfl rfl (Nat.le_of_ble_eq_true rfl) (by omega) ⟨by omega, by omega⟩ (fun z3 σ3 h3 => ?_)
  obtain ⟨rfl, rfl⟩ := h3
  rw [m3]
  refine gx_iload hx dL_law_377 rfl ?_
  refine gx_icmpS (tgt := 384) hx dL_law_379 (by decide) ?_
  refine gx_iload hx dL_law_384 rfl ?_
  have hend : GJ X (a + 3) (b + 18) 401 [some (.inr 1040), some (.inr 69), some (.inr 70), some (.inr 81), some (.inr 82), some (.inl (i : Int)), some (.inl (n1 : Int)), some (.inl v1), none] [] σ2 := by
    refine gx_goto (tgt := 2067) hx dL_law_401 (by decide) ?_
    refine GJ.drop 6 (GJ.drop 7 ?_)
    exact GJ.widen (by omega) (by omega) (kk _ _ (c1.out (fun k hk => m4 k (Or.inl hk))) m2)
  refine gx_if_ne (tgt := 401) hx dL_law_386 (by decide) ⟨by omega, by omega⟩ (fun hq => ?_) (fun hq => ?_)
  · exact GJ.widen (by omega) (by omega) hend
  · have hz : σ2 81 0 = (ii v1).toInt := by
      rw [m4 81 (Or.inr (by decide))]
      exact o1 (by omega)
    refine gx_aload_n hx dL_law_389 rfl ?_
    refine gx_iconst hx dL_law_390 ?_
    refine gx_lcmpS (tgt := 401) hx hz dL_law_391 dL_law_392 dL_law_394 dL_law_395 dL_law_396 (by decide) rfl ?_
    exact GJ.widen (by omega) (by omega) hend
set_option maxRecDepth 20000 in
set_option maxHeartbeats 1000000 in
theorem law_5 {X : Cx} {h0 mc0 ms0 N i a b : Nat} {xs : Nat → Int32} {σ : Sg} {A : AS} (hx : CX X cL_law RL h0 mc0 ms0) (hh0 : 40 ≤ h0) (hX : LWX X N xs) (hnc : NCS X.2.2.2.2.2.1) (hl : X.2.2.1.stackTraces = false) (hN : N ≤ 1536) (hi : i + 3 ≤ N) (hC : CR σ A) (hR : MR σ A) (ha : a + 3 ≤ mc0) (hb : b + 18 ≤ ms0) (kk : ∀ σ' A', CR σ' A' → MR σ' A' → GJ X (a + 3) (b + 18) 2067 [some (.inr 1040), some (.inr 69), some (.inr 70), some (.inr 81), some (.inr 82), some (.inl (i : Int)), none, none, none] [] σ') : GJ X a b 404 [some (.inr 1040), some (.inr 69), some (.inr 70), some (.inr 81), some (.inr 82), some (.inl (i : Int)), none, none, none] [] σ := by
  refine gx_aload_n hx dL_law_404 rfl ?_
  refine gx_aload_n hx dL_law_405 rfl ?_
  refine gx_iload hx dL_law_406 rfl ?_
  refine gx_iconst hx dL_law_408 ?_
  refine gx_iadd hx dL_law_409 ?_
  refine gx_sld hx hX dL_law_410 (by omega) (by omega) (by omega) ?_
  refine gx_aload_n hx dL_law_411 rfl ?_
  refine gx_callL hx hnc (c_L_remove _ _ hl hC (rg_of _)) lkL_150 mwL_remove dL_law_412 rfl rfl (Nat.le_of_ble_eq_true rfl) (by omega) ⟨by omega, by omega⟩ (fun z1 σ1 h1 => ?_)
  obtain ⟨n1, v1, A1, rfl, n9, r1, c1, o1, k1⟩ := h1
  have hR1 : MR σ1 A := hR.out (fun k q1 q2 => k1 k q1 (by omega) (by omega))
  refine gx_istore hx dL_law_415 (Nat.le_of_ble_eq_true rfl) ?_
  refine gx_aload_n hx dL_law_417 rfl ?_
  refine gx_aload_n hx dL_law_418 rfl ?_
  refine gx_iload hx dL_law_419 rfl ?_
  refine gx_iconst hx dL_law_421 ?_
  refine gx_iadd hx dL_law_422 ?_
  refine gx_sld hx hX dL_law_423 (by omega) (by omega) (by omega) ?_
  refine gx_callI hx (c_X9_remove _ _ hR1 (rg_of _)) lkL_152 mwX9_remove dL_law_424 (by decide) rfl rfl rfl rfl (Nat.le_of_ble_eq_true rfl) (by omega) ⟨by omega, by omega⟩ (fun z2 σ2 h2 => ?_)
  obtain ⟨c2, A2, r2, m2, m3, m4⟩ := h2
  obtain ⟨rfl, rfl, rfl⟩ := (uniq_fn _) _ _ _ _ _ _ r1 r2
  refine gx_istore hx dL_law_427 (Nat.le_of_ble_eq_true rfl) ?_
  refine gx_aload_n hx dL_law_429 rfl ?_
  refine gx_callI hx (c_X9_thrown _ _) lkL_139 mwX9_thrown dL_law_430 (by decide) rfl rfl rfl rfl (Nat.le_of_ble_eq_true rfl) (by omega) ⟨by omega, by omega⟩ (fun z3 σ3 h3 => ?_)
  obtain ⟨rfl, rfl⟩ := h3
  rw [m3]
  refine gx_iload hx dL_law_433 rfl ?_
  refine gx_icmpS (tgt := 440) hx dL_law_435 (by decide) ?_
  refine gx_iload hx dL_law_440 rfl ?_
  have hend : GJ X (a + 3) (b + 18) 457 [some (.inr 1040), some (.inr 69), some (.inr 70), some (.inr 81), some (.inr 82), some (.inl (i : Int)), some (.inl (n1 : Int)), some (.inl v1), none] [] σ2 := by
    refine gx_goto (tgt := 2067) hx dL_law_457 (by decide) ?_
    refine GJ.drop 6 (GJ.drop 7 ?_)
    exact GJ.widen (by omega) (by omega) (kk _ _ (c1.out (fun k hk => m4 k (Or.inl hk))) m2)
  refine gx_if_ne (tgt := 457) hx dL_law_442 (by decide) ⟨by omega, by omega⟩ (fun hq => ?_) (fun hq => ?_)
  · exact GJ.widen (by omega) (by omega) hend
  · have hz : σ2 81 0 = (ii v1).toInt := by
      rw [m4 81 (Or.inr (by decide))]
      exact o1 (by omega)
    refine gx_aload_n hx dL_law_445 rfl ?_
    refine gx_iconst hx dL_law_446 ?_
    refine gx_lcmpS (tgt := 457) hx hz dL_law_447 dL_law_448 dL_law_450 dL_law_451 dL_law_452 (by decide) rfl ?_
    exact GJ.widen (by omega) (by omega) hend
set_option maxRecDepth 20000 in
set_option maxHeartbeats 1000000 in
theorem law_6 {X : Cx} {h0 mc0 ms0 N i a b : Nat} {xs : Nat → Int32} {σ : Sg} {A : AS} (hx : CX X cL_law RL h0 mc0 ms0) (hh0 : 40 ≤ h0) (hX : LWX X N xs) (hnc : NCS X.2.2.2.2.2.1) (hl : X.2.2.1.stackTraces = false) (hN : N ≤ 1536) (hi : i + 3 ≤ N) (hC : CR σ A) (hR : MR σ A) (ha : a + 3 ≤ mc0) (hb : b + 18 ≤ ms0) (kk : ∀ σ' A', CR σ' A' → MR σ' A' → GJ X (a + 3) (b + 18) 2067 [some (.inr 1040), some (.inr 69), some (.inr 70), some (.inr 81), some (.inr 82), some (.inl (i : Int)), none, none, none] [] σ') : GJ X a b 460 [some (.inr 1040), some (.inr 69), some (.inr 70), some (.inr 81), some (.inr 82), some (.inl (i : Int)), none, none, none] [] σ := by
  refine gx_aload_n hx dL_law_460 rfl ?_
  refine gx_aload_n hx dL_law_461 rfl ?_
  refine gx_iload hx dL_law_462 rfl ?_
  refine gx_iconst hx dL_law_464 ?_
  refine gx_iadd hx dL_law_465 ?_
  refine gx_sld hx hX dL_law_466 (by omega) (by omega) (by omega) ?_
  refine gx_aload_n hx dL_law_467 rfl ?_
  refine gx_iload hx dL_law_468 rfl ?_
  refine gx_iconst hx dL_law_470 ?_
  refine gx_iadd hx dL_law_471 ?_
  refine gx_sld hx hX dL_law_472 (by omega) (by omega) (by omega) ?_
  refine gx_aload_n hx dL_law_473 rfl ?_
  refine gx_callL hx hnc (c_L_move _ _ hl hC (rg_of _) (rg_of _)) lkL_153 mwL_move dL_law_474 rfl rfl (Nat.le_of_ble_eq_true rfl) (by omega) ⟨by omega, by omega⟩ (fun z1 σ1 h1 => ?_)
  obtain ⟨n1, v1, A1, rfl, n9, r1, c1, o1, k1⟩ := h1
  have hR1 : MR σ1 A := hR.out (fun k q1 q2 => k1 k q1 (by omega) (by omega))
  refine gx_istore hx dL_law_477 (Nat.le_of_ble_eq_true rfl) ?_
  refine gx_aload_n hx dL_law_479 rfl ?_
  refine gx_aload_n hx dL_law_480 rfl ?_
  refine gx_iload hx dL_law_481 rfl ?_
  refine gx_iconst hx dL_law_483 ?_
  refine gx_iadd hx dL_law_484 ?_
  refine gx_sld hx hX dL_law_485 (by omega) (by omega) (by omega) ?_
  refine gx_aload_n hx dL_law_486 rfl ?_
  refine gx_iload hx dL_law_487 rfl ?_
  refine gx_iconst hx dL_law_489 ?_
  refine gx_iadd hx dL_law_490 ?_
  refine gx_sld hx hX dL_law_491 (by omega) (by omega) (by omega) ?_
  refine gx_callI hx (c_X9_move _ _ hR1 (rg_of _) (rg_of _)) lkL_156 mwX9_move dL_law_492 (by decide) rfl rfl rfl rfl (Nat.le_of_ble_eq_true rfl) (by omega) ⟨by omega, by omega⟩ (fun z2 σ2 h2 => ?_)
  obtain ⟨c2, A2, r2, m2, m3, m4⟩ := h2
  obtain ⟨rfl, rfl, rfl⟩ := (uniq_fn _) _ _ _ _ _ _ r1 r2
  refine gx_istore hx dL_law_495 (Nat.le_of_ble_eq_true rfl) ?_
  refine gx_aload_n hx dL_law_497 rfl ?_
  refine gx_callI hx (c_X9_thrown _ _) lkL_139 mwX9_thrown dL_law_498 (by decide) rfl rfl rfl rfl (Nat.le_of_ble_eq_true rfl) (by omega) ⟨by omega, by omega⟩ (fun z3 σ3 h3 => ?_)
  obtain ⟨rfl, rfl⟩ := h3
  rw [m3]
  refine gx_iload hx dL_law_501 rfl ?_
  refine gx_icmpS (tgt := 508) hx dL_law_503 (by decide) ?_
  refine gx_iload hx dL_law_508 rfl ?_
  have hend : GJ X (a + 3) (b + 18) 525 [some (.inr 1040), some (.inr 69), some (.inr 70), some (.inr 81), some (.inr 82), some (.inl (i : Int)), some (.inl (n1 : Int)), some (.inl v1), none] [] σ2 := by
    refine gx_goto (tgt := 2067) hx dL_law_525 (by decide) ?_
    refine GJ.drop 6 (GJ.drop 7 ?_)
    exact GJ.widen (by omega) (by omega) (kk _ _ (c1.out (fun k hk => m4 k (Or.inl hk))) m2)
  refine gx_if_ne (tgt := 525) hx dL_law_510 (by decide) ⟨by omega, by omega⟩ (fun hq => ?_) (fun hq => ?_)
  · exact GJ.widen (by omega) (by omega) hend
  · have hz : σ2 81 0 = (ii v1).toInt := by
      rw [m4 81 (Or.inr (by decide))]
      exact o1 (by omega)
    refine gx_aload_n hx dL_law_513 rfl ?_
    refine gx_iconst hx dL_law_514 ?_
    refine gx_lcmpS (tgt := 525) hx hz dL_law_515 dL_law_516 dL_law_518 dL_law_519 dL_law_520 (by decide) rfl ?_
    exact GJ.widen (by omega) (by omega) hend
set_option maxRecDepth 20000 in
set_option maxHeartbeats 1000000 in
theorem law_7 {X : Cx} {h0 mc0 ms0 N i a b : Nat} {xs : Nat → Int32} {σ : Sg} {A : AS} (hx : CX X cL_law RL h0 mc0 ms0) (hh0 : 40 ≤ h0) (hX : LWX X N xs) (hnc : NCS X.2.2.2.2.2.1) (hl : X.2.2.1.stackTraces = false) (hN : N ≤ 1536) (hi : i + 3 ≤ N) (hC : CR σ A) (hR : MR σ A) (ha : a + 3 ≤ mc0) (hb : b + 18 ≤ ms0) (kk : ∀ σ' A', CR σ' A' → MR σ' A' → GJ X (a + 3) (b + 18) 2067 [some (.inr 1040), some (.inr 69), some (.inr 70), some (.inr 81), some (.inr 82), some (.inl (i : Int)), none, none, none] [] σ') : GJ X a b 528 [some (.inr 1040), some (.inr 69), some (.inr 70), some (.inr 81), some (.inr 82), some (.inl (i : Int)), none, none, none] [] σ := by
  refine gx_aload_n hx dL_law_528 rfl ?_
  refine gx_aload_n hx dL_law_529 rfl ?_
  refine gx_iload hx dL_law_530 rfl ?_
  refine gx_iconst hx dL_law_532 ?_
  refine gx_iadd hx dL_law_533 ?_
  refine gx_sld hx hX dL_law_534 (by omega) (by omega) (by omega) ?_
  refine gx_aload_n hx dL_law_535 rfl ?_
  refine gx_iload hx dL_law_536 rfl ?_
  refine gx_iconst hx dL_law_538 ?_
  refine gx_iadd hx dL_law_539 ?_
  refine gx_sld hx hX dL_law_540 (by omega) (by omega) (by omega) ?_
  refine gx_aload_n hx dL_law_541 rfl ?_
  refine gx_callL hx hnc (c_L_item _ _ hl hC (rg_of _) (rg_of _)) lkL_157 mwL_item dL_law_542 rfl rfl (Nat.le_of_ble_eq_true rfl) (by omega) ⟨by omega, by omega⟩ (fun z1 σ1 h1 => ?_)
  obtain ⟨n1, v1, A1, rfl, n9, r1, c1, o1, k1⟩ := h1
  have hR1 : MR σ1 A := hR.out (fun k q1 q2 => k1 k q1 (by omega) (by omega))
  refine gx_istore hx dL_law_545 (Nat.le_of_ble_eq_true rfl) ?_
  refine gx_aload_n hx dL_law_547 rfl ?_
  refine gx_aload_n hx dL_law_548 rfl ?_
  refine gx_iload hx dL_law_549 rfl ?_
  refine gx_iconst hx dL_law_551 ?_
  refine gx_iadd hx dL_law_552 ?_
  refine gx_sld hx hX dL_law_553 (by omega) (by omega) (by omega) ?_
  refine gx_aload_n hx dL_law_554 rfl ?_
  refine gx_iload hx dL_law_555 rfl ?_
  refine gx_iconst hx dL_law_557 ?_
  refine gx_iadd hx dL_law_558 ?_
  refine gx_sld hx hX dL_law_559 (by omega) (by omega) (by omega) ?_
  refine gx_callI hx (c_X9_item _ _ hR1 (rg_of _) (rg_of _)) lkL_159 mwX9_item dL_law_560 (by decide) rfl rfl rfl rfl (Nat.le_of_ble_eq_true rfl) (by omega) ⟨by omega, by omega⟩ (fun z2 σ2 h2 => ?_)
  obtain ⟨c2, A2, r2, m2, m3, m4⟩ := h2
  obtain ⟨rfl, rfl, rfl⟩ := (uniq_fn _) _ _ _ _ _ _ r1 r2
  refine gx_istore hx dL_law_563 (Nat.le_of_ble_eq_true rfl) ?_
  refine gx_aload_n hx dL_law_565 rfl ?_
  refine gx_callI hx (c_X9_thrown _ _) lkL_139 mwX9_thrown dL_law_566 (by decide) rfl rfl rfl rfl (Nat.le_of_ble_eq_true rfl) (by omega) ⟨by omega, by omega⟩ (fun z3 σ3 h3 => ?_)
  obtain ⟨rfl, rfl⟩ := h3
  rw [m3]
  refine gx_iload hx dL_law_569 rfl ?_
  refine gx_icmpS (tgt := 576) hx dL_law_571 (by decide) ?_
  refine gx_iload hx dL_law_576 rfl ?_
  have hend : GJ X (a + 3) (b + 18) 593 [some (.inr 1040), some (.inr 69), some (.inr 70), some (.inr 81), some (.inr 82), some (.inl (i : Int)), some (.inl (n1 : Int)), some (.inl v1), none] [] σ2 := by
    refine gx_goto (tgt := 2067) hx dL_law_593 (by decide) ?_
    refine GJ.drop 6 (GJ.drop 7 ?_)
    exact GJ.widen (by omega) (by omega) (kk _ _ (c1.out (fun k hk => m4 k (Or.inl hk))) m2)
  refine gx_if_ne (tgt := 593) hx dL_law_578 (by decide) ⟨by omega, by omega⟩ (fun hq => ?_) (fun hq => ?_)
  · exact GJ.widen (by omega) (by omega) hend
  · have hz : σ2 81 0 = (ii v1).toInt := by
      rw [m4 81 (Or.inr (by decide))]
      exact o1 (by omega)
    refine gx_aload_n hx dL_law_581 rfl ?_
    refine gx_iconst hx dL_law_582 ?_
    refine gx_lcmpS (tgt := 593) hx hz dL_law_583 dL_law_584 dL_law_586 dL_law_587 dL_law_588 (by decide) rfl ?_
    exact GJ.widen (by omega) (by omega) hend
set_option maxRecDepth 20000 in
set_option maxHeartbeats 1000000 in
theorem law_8 {X : Cx} {h0 mc0 ms0 N i a b : Nat} {xs : Nat → Int32} {σ : Sg} {A : AS} (hx : CX X cL_law RL h0 mc0 ms0) (hh0 : 40 ≤ h0) (hX : LWX X N xs) (hnc : NCS X.2.2.2.2.2.1) (hl : X.2.2.1.stackTraces = false) (hN : N ≤ 1536) (hi : i + 3 ≤ N) (hC : CR σ A) (hR : MR σ A) (ha : a + 3 ≤ mc0) (hb : b + 18 ≤ ms0) (kk : ∀ σ' A', CR σ' A' → MR σ' A' → GJ X (a + 3) (b + 18) 2067 [some (.inr 1040), some (.inr 69), some (.inr 70), some (.inr 81), some (.inr 82), some (.inl (i : Int)), none, none, none] [] σ') : GJ X a b 596 [some (.inr 1040), some (.inr 69), some (.inr 70), some (.inr 81), some (.inr 82), some (.inl (i : Int)), none, none, none] [] σ := by
  refine gx_aload_n hx dL_law_596 rfl ?_
  refine gx_aload_n hx dL_law_597 rfl ?_
  refine gx_iload hx dL_law_598 rfl ?_
  refine gx_iconst hx dL_law_600 ?_
  refine gx_iadd hx dL_law_601 ?_
  refine gx_sld hx hX dL_law_602 (by omega) (by omega) (by omega) ?_
  refine gx_aload_n hx dL_law_603 rfl ?_
  refine gx_iload hx dL_law_604 rfl ?_
  refine gx_iconst hx dL_law_606 ?_
  refine gx_iadd hx dL_law_607 ?_
  refine gx_sld hx hX dL_law_608 (by omega) (by omega) (by omega) ?_
  refine gx_aload_n hx dL_law_609 rfl ?_
  refine gx_callL hx hnc (c_L_nameCharacter _ _ hl hC (rg_of _) (rg_of _)) lkL_160 mwL_nameCharacter dL_law_610 rfl rfl (Nat.le_of_ble_eq_true rfl) (by omega) ⟨by omega, by omega⟩ (fun z1 σ1 h1 => ?_)
  obtain ⟨n1, v1, A1, rfl, n9, r1, c1, o1, k1⟩ := h1
  have hR1 : MR σ1 A := hR.out (fun k q1 q2 => k1 k q1 (by omega) (by omega))
  refine gx_istore hx dL_law_613 (Nat.le_of_ble_eq_true rfl) ?_
  refine gx_aload_n hx dL_law_615 rfl ?_
  refine gx_aload_n hx dL_law_616 rfl ?_
  refine gx_iload hx dL_law_617 rfl ?_
  refine gx_iconst hx dL_law_619 ?_
  refine gx_iadd hx dL_law_620 ?_
  refine gx_sld hx hX dL_law_621 (by omega) (by omega) (by omega) ?_
  refine gx_aload_n hx dL_law_622 rfl ?_
  refine gx_iload hx dL_law_623 rfl ?_
  refine gx_iconst hx dL_law_625 ?_
  refine gx_iadd hx dL_law_626 ?_
  refine gx_sld hx hX dL_law_627 (by omega) (by omega) (by omega) ?_
  refine gx_callI hx (c_X9_nameCharacter _ _ hR1 (rg_of _) (rg_of _)) lkL_162 mwX9_nameCharacter dL_law_628 (by decide) rfl rfl rfl rfl (Nat.le_of_ble_eq_true rfl) (by omega) ⟨by omega, by omega⟩ (fun z2 σ2 h2 => ?_)
  obtain ⟨c2, A2, r2, m2, m3, m4⟩ := h2
  obtain ⟨rfl, rfl, rfl⟩ := (uniq_fn _) _ _ _ _ _ _ r1 r2
  refine gx_istore hx dL_law_631 (Nat.le_of_ble_eq_true rfl) ?_
  refine gx_aload_n hx dL_law_633 rfl ?_
  refine gx_callI hx (c_X9_thrown _ _) lkL_139 mwX9_thrown dL_law_634 (by decide) rfl rfl rfl rfl (Nat.le_of_ble_eq_true rfl) (by omega) ⟨by omega, by omega⟩ (fun z3 σ3 h3 => ?_)
  obtain ⟨rfl, rfl⟩ := h3
  rw [m3]
  refine gx_iload hx dL_law_637 rfl ?_
  refine gx_icmpS (tgt := 644) hx dL_law_639 (by decide) ?_
  refine gx_iload hx dL_law_644 rfl ?_
  have hend : GJ X (a + 3) (b + 18) 661 [some (.inr 1040), some (.inr 69), some (.inr 70), some (.inr 81), some (.inr 82), some (.inl (i : Int)), some (.inl (n1 : Int)), some (.inl v1), none] [] σ2 := by
    refine gx_goto (tgt := 2067) hx dL_law_661 (by decide) ?_
    refine GJ.drop 6 (GJ.drop 7 ?_)
    exact GJ.widen (by omega) (by omega) (kk _ _ (c1.out (fun k hk => m4 k (Or.inl hk))) m2)
  refine gx_if_ne (tgt := 661) hx dL_law_646 (by decide) ⟨by omega, by omega⟩ (fun hq => ?_) (fun hq => ?_)
  · exact GJ.widen (by omega) (by omega) hend
  · have hz : σ2 81 0 = (ii v1).toInt := by
      rw [m4 81 (Or.inr (by decide))]
      exact o1 (by omega)
    refine gx_aload_n hx dL_law_649 rfl ?_
    refine gx_iconst hx dL_law_650 ?_
    refine gx_lcmpS (tgt := 661) hx hz dL_law_651 dL_law_652 dL_law_654 dL_law_655 dL_law_656 (by decide) rfl ?_
    exact GJ.widen (by omega) (by omega) hend
set_option maxRecDepth 20000 in
set_option maxHeartbeats 1000000 in
theorem law_9 {X : Cx} {h0 mc0 ms0 N i a b : Nat} {xs : Nat → Int32} {σ : Sg} {A : AS} (hx : CX X cL_law RL h0 mc0 ms0) (hh0 : 40 ≤ h0) (hX : LWX X N xs) (hnc : NCS X.2.2.2.2.2.1) (hl : X.2.2.1.stackTraces = false) (hN : N ≤ 1536) (hi : i + 3 ≤ N) (hC : CR σ A) (hR : MR σ A) (ha : a + 3 ≤ mc0) (hb : b + 18 ≤ ms0) (kk : ∀ σ' A', CR σ' A' → MR σ' A' → GJ X (a + 3) (b + 18) 2067 [some (.inr 1040), some (.inr 69), some (.inr 70), some (.inr 81), some (.inr 82), some (.inl (i : Int)), none, none, none] [] σ') : GJ X a b 664 [some (.inr 1040), some (.inr 69), some (.inr 70), some (.inr 81), some (.inr 82), some (.inl (i : Int)), none, none, none] [] σ := by
  refine gx_aload_n hx dL_law_664 rfl ?_
  refine gx_aload_n hx dL_law_665 rfl ?_
  refine gx_iload hx dL_law_666 rfl ?_
  refine gx_iconst hx dL_law_668 ?_
  refine gx_iadd hx dL_law_669 ?_
  refine gx_sld hx hX dL_law_670 (by omega) (by omega) (by omega) ?_
  refine gx_aload_n hx dL_law_671 rfl ?_
  refine gx_iload hx dL_law_672 rfl ?_
  refine gx_iconst hx dL_law_674 ?_
  refine gx_iadd hx dL_law_675 ?_
  refine gx_sld hx hX dL_law_676 (by omega) (by omega) (by omega) ?_
  refine gx_aload_n hx dL_law_677 rfl ?_
  refine gx_callL hx hnc (c_L_setForm _ _ hl hC (rg_of _) (rg_of _)) lkL_163 mwL_setForm dL_law_678 rfl rfl (Nat.le_of_ble_eq_true rfl) (by omega) ⟨by omega, by omega⟩ (fun z1 σ1 h1 => ?_)
  obtain ⟨n1, v1, A1, rfl, n9, r1, c1, o1, k1⟩ := h1
  have hR1 : MR σ1 A := hR.out (fun k q1 q2 => k1 k q1 (by omega) (by omega))
  refine gx_istore hx dL_law_681 (Nat.le_of_ble_eq_true rfl) ?_
  refine gx_aload_n hx dL_law_683 rfl ?_
  refine gx_aload_n hx dL_law_684 rfl ?_
  refine gx_iload hx dL_law_685 rfl ?_
  refine gx_iconst hx dL_law_687 ?_
  refine gx_iadd hx dL_law_688 ?_
  refine gx_sld hx hX dL_law_689 (by omega) (by omega) (by omega) ?_
  refine gx_aload_n hx dL_law_690 rfl ?_
  refine gx_iload hx dL_law_691 rfl ?_
  refine gx_iconst hx dL_law_693 ?_
  refine gx_iadd hx dL_law_694 ?_
  refine gx_sld hx hX dL_law_695 (by omega) (by omega) (by omega) ?_
  refine gx_callI hx (c_X9_setForm _ _ hR1 (rg_of _) (rg_of _)) lkL_165 mwX9_setForm dL_law_696 (by decide) rfl rfl rfl rfl (Nat.le_of_ble_eq_true rfl) (by omega) ⟨by omega, by omega⟩ (fun z2 σ2 h2 => ?_)
  obtain ⟨c2, A2, r2, m2, m3, m4⟩ := h2
  obtain ⟨rfl, rfl, rfl⟩ := (uniq_fn _) _ _ _ _ _ _ r1 r2
  refine gx_istore hx dL_law_699 (Nat.le_of_ble_eq_true rfl) ?_
  refine gx_aload_n hx dL_law_701 rfl ?_
  refine gx_callI hx (c_X9_thrown _ _) lkL_139 mwX9_thrown dL_law_702 (by decide) rfl rfl rfl rfl (Nat.le_of_ble_eq_true rfl) (by omega) ⟨by omega, by omega⟩ (fun z3 σ3 h3 => ?_)
  obtain ⟨rfl, rfl⟩ := h3
  rw [m3]
  refine gx_iload hx dL_law_705 rfl ?_
  refine gx_icmpS (tgt := 712) hx dL_law_707 (by decide) ?_
  refine gx_iload hx dL_law_712 rfl ?_
  have hend : GJ X (a + 3) (b + 18) 729 [some (.inr 1040), some (.inr 69), some (.inr 70), some (.inr 81), some (.inr 82), some (.inl (i : Int)), some (.inl (n1 : Int)), some (.inl v1), none] [] σ2 := by
    refine gx_goto (tgt := 2067) hx dL_law_729 (by decide) ?_
    refine GJ.drop 6 (GJ.drop 7 ?_)
    exact GJ.widen (by omega) (by omega) (kk _ _ (c1.out (fun k hk => m4 k (Or.inl hk))) m2)
  refine gx_if_ne (tgt := 729) hx dL_law_714 (by decide) ⟨by omega, by omega⟩ (fun hq => ?_) (fun hq => ?_)
  · exact GJ.widen (by omega) (by omega) hend
  · have hz : σ2 81 0 = (ii v1).toInt := by
      rw [m4 81 (Or.inr (by decide))]
      exact o1 (by omega)
    refine gx_aload_n hx dL_law_717 rfl ?_
    refine gx_iconst hx dL_law_718 ?_
    refine gx_lcmpS (tgt := 729) hx hz dL_law_719 dL_law_720 dL_law_722 dL_law_723 dL_law_724 (by decide) rfl ?_
    exact GJ.widen (by omega) (by omega) hend
