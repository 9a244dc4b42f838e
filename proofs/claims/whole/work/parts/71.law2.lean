/-! The law: cases 20 to 29 -/
set_option maxRecDepth 20000 in
set_option maxHeartbeats 1000000 in
theorem law_20 {X : Cx} {h0 mc0 ms0 N i a b : Nat} {xs : Nat → Int32} {σ : Sg} {A : AS} (hx : CX X cL_law RL h0 mc0 ms0) (hh0 : 40 ≤ h0) (hX : LWX X N xs) (hnc : NCS X.2.2.2.2.2.1) (hl : X.2.2.1.stackTraces = false) (hN : N ≤ 1536) (hi : i + 3 ≤ N) (hC : CR σ A) (hR : MR σ A) (ha : a + 3 ≤ mc0) (hb : b + 18 ≤ ms0) (kk : ∀ σ' A', CR σ' A' → MR σ' A' → GJ X (a + 3) (b + 18) 2067 [some (.inr 1040), some (.inr 69), some (.inr 70), some (.inr 81), some (.inr 82), some (.inl (i : Int)), none, none, none] [] σ') : GJ X a b 1132 [some (.inr 1040), some (.inr 69), some (.inr 70), some (.inr 81), some (.inr 82), some (.inl (i : Int)), none, none, none] [] σ := by
  refine gx_aload_n hx dL_law_1132 rfl ?_
  refine gx_aload_n hx dL_law_1133 rfl ?_
  refine gx_iload hx dL_law_1134 rfl ?_
  refine gx_iconst hx dL_law_1136 ?_
  refine gx_iadd hx dL_law_1137 ?_
  refine gx_sld hx hX dL_law_1138 (by omega) (by omega) (by omega) ?_
  refine gx_aload_n hx dL_law_1139 rfl ?_
  refine gx_callL hx hnc (c_L_fits _ _ hl hC (rg_of _)) lkL_200 mwL_fits dL_law_1140 rfl rfl (Nat.le_of_ble_eq_true rfl) (by omega) ⟨by omega, by omega⟩ (fun z1 σ1 h1 => ?_)
  obtain ⟨n1, v1, A1, rfl, n9, r1, c1, o1, k1⟩ := h1
  have hR1 : MR σ1 A := hR.out (fun k q1 q2 => k1 k q1 (by omega) (by omega))
  refine gx_istore hx dL_law_1143 (Nat.le_of_ble_eq_true rfl) ?_
  refine gx_aload_n hx dL_law_1145 rfl ?_
  refine gx_aload_n hx dL_law_1146 rfl ?_
  refine gx_iload hx dL_law_1147 rfl ?_
  refine gx_iconst hx dL_law_1149 ?_
  refine gx_iadd hx dL_law_1150 ?_
  refine gx_sld hx hX dL_law_1151 (by omega) (by omega) (by omega) ?_
  refine gx_callI hx (c_X9_fits _ _ hR1 (rg_of _)) lkL_202 mwX9_fits dL_law_1152 (by decide) rfl rfl rfl rfl (Nat.le_of_ble_eq_true rfl) (by omega) ⟨by omega, by omega⟩ (fun z2 σ2 h2 => ?_)
  obtain ⟨c2, A2, r2, m2, m3, m4⟩ := h2
  obtain ⟨rfl, rfl, rfl⟩ := (uniq_fn _) _ _ _ _ _ _ r1 r2
  refine gx_istore hx dL_law_1155 (Nat.le_of_ble_eq_true rfl) ?_
  refine gx_aload_n hx dL_law_1157 rfl ?_
  refine gx_callI hx (c_X9_thrown _ _) lkL_139 mwX9_thrown dL_law_1158 (by decide) rfl rfl rfl rfl (Nat.le_of_ble_eq_true rfl) (by omega) ⟨by omega, by omega⟩ (fun z3 σ3 h3 => ?_)
  obtain ⟨rfl, rfl⟩ := h3
  rw [m3]
  refine gx_iload hx dL_law_1161 rfl ?_
  refine gx_icmpS (tgt := 1168) hx dL_law_1163 (by decide) ?_
  refine gx_iload hx dL_law_1168 rfl ?_
  have hend : GJ X (a + 3) (b + 18) 1192 [some (.inr 1040), some (.inr 69), some (.inr 70), some (.inr 81), some (.inr 82), some (.inl (i : Int)), some (.inl (n1 : Int)), some (.inl v1), none] [] σ2 := by
    refine gx_goto (tgt := 2067) hx dL_law_1192 (by decide) ?_
    refine GJ.drop 6 (GJ.drop 7 ?_)
    exact GJ.widen (by omega) (by omega) (kk _ _ (c1.out (fun k hk => m4 k (Or.inl hk))) m2)
  refine gx_if_ne (tgt := 1192) hx dL_law_1170 (by decide) ⟨by omega, by omega⟩ (fun hq => ?_) (fun hq => ?_)
  · exact GJ.widen (by omega) (by omega) hend
  · have hz : σ2 81 0 = (ii v1).toInt := by
      rw [m4 81 (Or.inr (by decide))]
      exact o1 (by omega)
    refine gx_aload_n hx dL_law_1173 rfl ?_
    refine gx_iconst hx dL_law_1174 ?_
    have h01 : v1 = 0 ∨ v1 = 1 := by
      have e0 : n1 = 0 := by omega
      subst e0
      exact fit01 r1
    refine gx_lcmpF (t1 := 1185) (t2 := 1186) (t3 := 1192) hx h01 hz dL_law_1175 dL_law_1176 dL_law_1178 (by decide) dL_law_1181 dL_law_1182 (by decide) dL_law_1185 rfl dL_law_1186 dL_law_1187 (by decide) rfl ?_
    exact GJ.widen (by omega) (by omega) hend
set_option maxRecDepth 20000 in
set_option maxHeartbeats 1000000 in
theorem law_21 {X : Cx} {h0 mc0 ms0 N i a b : Nat} {xs : Nat → Int32} {σ : Sg} {A : AS} (hx : CX X cL_law RL h0 mc0 ms0) (hh0 : 40 ≤ h0) (hX : LWX X N xs) (hnc : NCS X.2.2.2.2.2.1) (hl : X.2.2.1.stackTraces = false) (hN : N ≤ 1536) (hi : i + 3 ≤ N) (hC : CR σ A) (hR : MR σ A) (ha : a + 3 ≤ mc0) (hb : b + 18 ≤ ms0) (kk : ∀ σ' A', CR σ' A' → MR σ' A' → GJ X (a + 3) (b + 18) 2067 [some (.inr 1040), some (.inr 69), some (.inr 70), some (.inr 81), some (.inr 82), some (.inl (i : Int)), none, none, none] [] σ') : GJ X a b 1195 [some (.inr 1040), some (.inr 69), some (.inr 70), some (.inr 81), some (.inr 82), some (.inl (i : Int)), none, none, none] [] σ := by
  refine gx_aload_n hx dL_law_1195 rfl ?_
  refine gx_aload_n hx dL_law_1196 rfl ?_
  refine gx_callL hx hnc (c_L_misfits _ _ hl hC) lkL_203 mwL_misfits dL_law_1197 rfl rfl (Nat.le_of_ble_eq_true rfl) (by omega) ⟨by omega, by omega⟩ (fun z1 σ1 h1 => ?_)
  obtain ⟨n1, v1, A1, rfl, n9, r1, c1, o1, k1⟩ := h1
  have hR1 : MR σ1 A := hR.out (fun k q1 q2 => k1 k q1 (by omega) (by omega))
  refine gx_istore hx dL_law_1200 (Nat.le_of_ble_eq_true rfl) ?_
  refine gx_aload_n hx dL_law_1202 rfl ?_
  refine gx_callI hx (c_X9_misfits _ _ hR1) lkL_205 mwX9_misfits dL_law_1203 (by decide) rfl rfl rfl rfl (Nat.le_of_ble_eq_true rfl) (by omega) ⟨by omega, by omega⟩ (fun z2 σ2 h2 => ?_)
  obtain ⟨c2, A2, r2, m2, m3, m4⟩ := h2
  obtain ⟨rfl, rfl, rfl⟩ := (uniq_fn _) _ _ _ _ _ _ r1 r2
  refine gx_istore hx dL_law_1206 (Nat.le_of_ble_eq_true rfl) ?_
  refine gx_aload_n hx dL_law_1208 rfl ?_
  refine gx_callI hx (c_X9_thrown _ _) lkL_139 mwX9_thrown dL_law_1209 (by decide) rfl rfl rfl rfl (Nat.le_of_ble_eq_true rfl) (by omega) ⟨by omega, by omega⟩ (fun z3 σ3 h3 => ?_)
  obtain ⟨rfl, rfl⟩ := h3
  rw [m3]
  refine gx_iload hx dL_law_1212 rfl ?_
  refine gx_icmpS (tgt := 1219) hx dL_law_1214 (by decide) ?_
  refine gx_iload hx dL_law_1219 rfl ?_
  have hend : GJ X (a + 3) (b + 18) 1236 [some (.inr 1040), some (.inr 69), some (.inr 70), some (.inr 81), some (.inr 82), some (.inl (i : Int)), some (.inl (n1 : Int)), some (.inl v1), none] [] σ2 := by
    refine gx_goto (tgt := 2067) hx dL_law_1236 (by decide) ?_
    refine GJ.drop 6 (GJ.drop 7 ?_)
    exact GJ.widen (by omega) (by omega) (kk _ _ (c1.out (fun k hk => m4 k (Or.inl hk))) m2)
  refine gx_if_ne (tgt := 1236) hx dL_law_1221 (by decide) ⟨by omega, by omega⟩ (fun hq => ?_) (fun hq => ?_)
  · exact GJ.widen (by omega) (by omega) hend
  · have hz : σ2 81 0 = (ii v1).toInt := by
      rw [m4 81 (Or.inr (by decide))]
      exact o1 (by omega)
    refine gx_aload_n hx dL_law_1224 rfl ?_
    refine gx_iconst hx dL_law_1225 ?_
    refine gx_lcmpS (tgt := 1236) hx hz dL_law_1226 dL_law_1227 dL_law_1229 dL_law_1230 dL_law_1231 (by decide) rfl ?_
    exact GJ.widen (by omega) (by omega) hend
set_option maxRecDepth 20000 in
set_option maxHeartbeats 1000000 in
theorem law_22 {X : Cx} {h0 mc0 ms0 N i a b : Nat} {xs : Nat → Int32} {σ : Sg} {A : AS} (hx : CX X cL_law RL h0 mc0 ms0) (hh0 : 40 ≤ h0) (hX : LWX X N xs) (hnc : NCS X.2.2.2.2.2.1) (hl : X.2.2.1.stackTraces = false) (hN : N ≤ 1536) (hi : i + 3 ≤ N) (hC : CR σ A) (hR : MR σ A) (ha : a + 3 ≤ mc0) (hb : b + 18 ≤ ms0) (kk : ∀ σ' A', CR σ' A' → MR σ' A' → GJ X (a + 3) (b + 18) 2067 [some (.inr 1040), some (.inr 69), some (.inr 70), some (.inr 81), some (.inr 82), some (.inl (i : Int)), none, none, none] [] σ') : GJ X a b 1239 [some (.inr 1040), some (.inr 69), some (.inr 70), some (.inr 81), some (.inr 82), some (.inl (i : Int)), none, none, none] [] σ := by
  refine gx_aload_n hx dL_law_1239 rfl ?_
  refine gx_aload_n hx dL_law_1240 rfl ?_
  refine gx_iload hx dL_law_1241 rfl ?_
  refine gx_iconst hx dL_law_1243 ?_
  refine gx_iadd hx dL_law_1244 ?_
  refine gx_sld hx hX dL_law_1245 (by omega) (by omega) (by omega) ?_
  refine gx_aload_n hx dL_law_1246 rfl ?_
  refine gx_callL hx hnc (c_L_neededForm _ _ hl hC (rg_of _)) lkL_206 mwL_neededForm dL_law_1247 rfl rfl (Nat.le_of_ble_eq_true rfl) (by omega) ⟨by omega, by omega⟩ (fun z1 σ1 h1 => ?_)
  obtain ⟨n1, v1, A1, rfl, n9, r1, c1, o1, k1⟩ := h1
  have hR1 : MR σ1 A := hR.out (fun k q1 q2 => k1 k q1 (by omega) (by omega))
  refine gx_istore hx dL_law_1250 (Nat.le_of_ble_eq_true rfl) ?_
  refine gx_aload_n hx dL_law_1252 rfl ?_
  refine gx_aload_n hx dL_law_1253 rfl ?_
  refine gx_iload hx dL_law_1254 rfl ?_
  refine gx_iconst hx dL_law_1256 ?_
  refine gx_iadd hx dL_law_1257 ?_
  refine gx_sld hx hX dL_law_1258 (by omega) (by omega) (by omega) ?_
  refine gx_callI hx (c_X9_neededForm _ _ hR1 (rg_of _)) lkL_208 mwX9_neededForm dL_law_1259 (by decide) rfl rfl rfl rfl (Nat.le_of_ble_eq_true rfl) (by omega) ⟨by omega, by omega⟩ (fun z2 σ2 h2 => ?_)
  obtain ⟨c2, A2, r2, m2, m3, m4⟩ := h2
  obtain ⟨rfl, rfl, rfl⟩ := (uniq_fn _) _ _ _ _ _ _ r1 r2
  refine gx_istore hx dL_law_1262 (Nat.le_of_ble_eq_true rfl) ?_
  refine gx_aload_n hx dL_law_1264 rfl ?_
  refine gx_callI hx (c_X9_thrown _ _) lkL_139 mwX9_thrown dL_law_1265 (by decide) rfl rfl rfl rfl (Nat.le_of_ble_eq_true rfl) (by omega) ⟨by omega, by omega⟩ (fun z3 σ3 h3 => ?_)
  obtain ⟨rfl, rfl⟩ := h3
  rw [m3]
  refine gx_iload hx dL_law_1268 rfl ?_
  refine gx_icmpS (tgt := 1275) hx dL_law_1270 (by decide) ?_
  refine gx_iload hx dL_law_1275 rfl ?_
  have hend : GJ X (a + 3) (b + 18) 1292 [some (.inr 1040), some (.inr 69), some (.inr 70), some (.inr 81), some (.inr 82), some (.inl (i : Int)), some (.inl (n1 : Int)), some (.inl v1), none] [] σ2 := by
    refine gx_goto (tgt := 2067) hx dL_law_1292 (by decide) ?_
    refine GJ.drop 6 (GJ.drop 7 ?_)
    exact GJ.widen (by omega) (by omega) (kk _ _ (c1.out (fun k hk => m4 k (Or.inl hk))) m2)
  refine gx_if_ne (tgt := 1292) hx dL_law_1277 (by decide) ⟨by omega, by omega⟩ (fun hq => ?_) (fun hq => ?_)
  · exact GJ.widen (by omega) (by omega) hend
  · have hz : σ2 81 0 = (ii v1).toInt := by
      rw [m4 81 (Or.inr (by decide))]
      exact o1 (by omega)
    refine gx_aload_n hx dL_law_1280 rfl ?_
    refine gx_iconst hx dL_law_1281 ?_
    refine gx_lcmpS (tgt := 1292) hx hz dL_law_1282 dL_law_1283 dL_law_1285 dL_law_1286 dL_law_1287 (by decide) rfl ?_
    exact GJ.widen (by omega) (by omega) hend
set_option maxRecDepth 20000 in
set_option maxHeartbeats 1000000 in
theorem law_23 {X : Cx} {h0 mc0 ms0 N i a b : Nat} {xs : Nat → Int32} {σ : Sg} {A : AS} (hx : CX X cL_law RL h0 mc0 ms0) (hh0 : 40 ≤ h0) (hX : LWX X N xs) (hnc : NCS X.2.2.2.2.2.1) (hl : X.2.2.1.stackTraces = false) (hN : N ≤ 1536) (hi : i + 3 ≤ N) (hC : CR σ A) (hR : MR σ A) (ha : a + 3 ≤ mc0) (hb : b + 18 ≤ ms0) (kk : ∀ σ' A', CR σ' A' → MR σ' A' → GJ X (a + 3) (b + 18) 2067 [some (.inr 1040), some (.inr 69), some (.inr 70), some (.inr 81), some (.inr 82), some (.inl (i : Int)), none, none, none] [] σ') : GJ X a b 1295 [some (.inr 1040), some (.inr 69), some (.inr 70), some (.inr 81), some (.inr 82), some (.inl (i : Int)), none, none, none] [] σ := by
  refine gx_aload_n hx dL_law_1295 rfl ?_
  refine gx_aload_n hx dL_law_1296 rfl ?_
  refine gx_callL hx hnc (c_L_relax _ _ hl hC) lkL_209 mwL_relax dL_law_1297 rfl rfl (Nat.le_of_ble_eq_true rfl) (by omega) ⟨by omega, by omega⟩ (fun z1 σ1 h1 => ?_)
  obtain ⟨n1, v1, A1, rfl, n9, r1, c1, o1, k1⟩ := h1
  have hR1 : MR σ1 A := hR.out (fun k q1 q2 => k1 k q1 (by omega) (by omega))
  refine gx_istore hx dL_law_1300 (Nat.le_of_ble_eq_true rfl) ?_
  refine gx_aload_n hx dL_law_1302 rfl ?_
  refine gx_callI hx (c_X9_relax _ _ hR1) lkL_211 mwX9_relax dL_law_1303 (by decide) rfl rfl rfl rfl (Nat.le_of_ble_eq_true rfl) (by omega) ⟨by omega, by omega⟩ (fun z2 σ2 h2 => ?_)
  obtain ⟨c2, A2, r2, m2, m3, m4⟩ := h2
  obtain ⟨rfl, rfl, rfl⟩ := (uniq_relax A) _ _ _ _ _ _ r1 r2
  refine gx_istore hx dL_law_1306 (Nat.le_of_ble_eq_true rfl) ?_
  refine gx_aload_n hx dL_law_1308 rfl ?_
  refine gx_callI hx (c_X9_thrown _ _) lkL_139 mwX9_thrown dL_law_1309 (by decide) rfl rfl rfl rfl (Nat.le_of_ble_eq_true rfl) (by omega) ⟨by omega, by omega⟩ (fun z3 σ3 h3 => ?_)
  obtain ⟨rfl, rfl⟩ := h3
  rw [m3]
  refine gx_iload hx dL_law_1312 rfl ?_
  refine gx_icmpS (tgt := 1319) hx dL_law_1314 (by decide) ?_
  refine gx_iload hx dL_law_1319 rfl ?_
  have hend : GJ X (a + 3) (b + 18) 1336 [some (.inr 1040), some (.inr 69), some (.inr 70), some (.inr 81), some (.inr 82), some (.inl (i : Int)), some (.inl (n1 : Int)), some (.inl v1), none] [] σ2 := by
    refine gx_goto (tgt := 2067) hx dL_law_1336 (by decide) ?_
    refine GJ.drop 6 (GJ.drop 7 ?_)
    exact GJ.widen (by omega) (by omega) (kk _ _ (c1.out (fun k hk => m4 k (Or.inl hk))) m2)
  refine gx_if_ne (tgt := 1336) hx dL_law_1321 (by decide) ⟨by omega, by omega⟩ (fun hq => ?_) (fun hq => ?_)
  · exact GJ.widen (by omega) (by omega) hend
  · have hz : σ2 81 0 = (ii v1).toInt := by
      rw [m4 81 (Or.inr (by decide))]
      exact o1 (by omega)
    refine gx_aload_n hx dL_law_1324 rfl ?_
    refine gx_iconst hx dL_law_1325 ?_
    refine gx_lcmpS (tgt := 1336) hx hz dL_law_1326 dL_law_1327 dL_law_1329 dL_law_1330 dL_law_1331 (by decide) rfl ?_
    exact GJ.widen (by omega) (by omega) hend
set_option maxRecDepth 20000 in
set_option maxHeartbeats 1000000 in
theorem law_24 {X : Cx} {h0 mc0 ms0 N i a b : Nat} {xs : Nat → Int32} {σ : Sg} {A : AS} (hx : CX X cL_law RL h0 mc0 ms0) (hh0 : 40 ≤ h0) (hX : LWX X N xs) (hnc : NCS X.2.2.2.2.2.1) (hl : X.2.2.1.stackTraces = false) (hN : N ≤ 1536) (hi : i + 3 ≤ N) (hC : CR σ A) (hR : MR σ A) (ha : a + 3 ≤ mc0) (hb : b + 18 ≤ ms0) (kk : ∀ σ' A', CR σ' A' → MR σ' A' → GJ X (a + 3) (b + 18) 2067 [some (.inr 1040), some (.inr 69), some (.inr 70), some (.inr 81), some (.inr 82), some (.inl (i : Int)), none, none, none] [] σ') : GJ X a b 1339 [some (.inr 1040), some (.inr 69), some (.inr 70), some (.inr 81), some (.inr 82), some (.inl (i : Int)), none, none, none] [] σ := by
  refine gx_aload_n hx dL_law_1339 rfl ?_
  refine gx_aload_n hx dL_law_1340 rfl ?_
  refine gx_callL hx hnc (c_L_shrink _ _ hl hC) lkL_212 mwL_shrink dL_law_1341 rfl rfl (Nat.le_of_ble_eq_true rfl) (by omega) ⟨by omega, by omega⟩ (fun z1 σ1 h1 => ?_)
  obtain ⟨n1, v1, A1, rfl, n9, r1, c1, o1, k1⟩ := h1
  have hR1 : MR σ1 A := hR.out (fun k q1 q2 => k1 k q1 (by omega) (by omega))
  refine gx_istore hx dL_law_1344 (Nat.le_of_ble_eq_true rfl) ?_
  refine gx_aload_n hx dL_law_1346 rfl ?_
  refine gx_callI hx (c_X9_shrink _ _ hR1) lkL_214 mwX9_shrink dL_law_1347 (by decide) rfl rfl rfl rfl (Nat.le_of_ble_eq_true rfl) (by omega) ⟨by omega, by omega⟩ (fun z2 σ2 h2 => ?_)
  obtain ⟨c2, A2, r2, m2, m3, m4⟩ := h2
  obtain ⟨rfl, rfl, rfl⟩ := (uniq_shrink A) _ _ _ _ _ _ r1 r2
  refine gx_istore hx dL_law_1350 (Nat.le_of_ble_eq_true rfl) ?_
  refine gx_aload_n hx dL_law_1352 rfl ?_
  refine gx_callI hx (c_X9_thrown _ _) lkL_139 mwX9_thrown dL_law_1353 (by decide) rfl rfl rfl rfl (Nat.le_of_ble_eq_true rfl) (by omega) ⟨by omega, by omega⟩ (fun z3 σ3 h3 => ?_)
  obtain ⟨rfl, rfl⟩ := h3
  rw [m3]
  refine gx_iload hx dL_law_1356 rfl ?_
  refine gx_icmpS (tgt := 1363) hx dL_law_1358 (by decide) ?_
  refine gx_iload hx dL_law_1363 rfl ?_
  have hend : GJ X (a + 3) (b + 18) 1380 [some (.inr 1040), some (.inr 69), some (.inr 70), some (.inr 81), some (.inr 82), some (.inl (i : Int)), some (.inl (n1 : Int)), some (.inl v1), none] [] σ2 := by
    refine gx_goto (tgt := 2067) hx dL_law_1380 (by decide) ?_
    refine GJ.drop 6 (GJ.drop 7 ?_)
    exact GJ.widen (by omega) (by omega) (kk _ _ (c1.out (fun k hk => m4 k (Or.inl hk))) m2)
  refine gx_if_ne (tgt := 1380) hx dL_law_1365 (by decide) ⟨by omega, by omega⟩ (fun hq => ?_) (fun hq => ?_)
  · exact GJ.widen (by omega) (by omega) hend
  · have hz : σ2 81 0 = (ii v1).toInt := by
      rw [m4 81 (Or.inr (by decide))]
      exact o1 (by omega)
    refine gx_aload_n hx dL_law_1368 rfl ?_
    refine gx_iconst hx dL_law_1369 ?_
    refine gx_lcmpS (tgt := 1380) hx hz dL_law_1370 dL_law_1371 dL_law_1373 dL_law_1374 dL_law_1375 (by decide) rfl ?_
    exact GJ.widen (by omega) (by omega) hend
set_option maxRecDepth 20000 in
set_option maxHeartbeats 1000000 in
theorem law_25 {X : Cx} {h0 mc0 ms0 N i a b : Nat} {xs : Nat → Int32} {σ : Sg} {A : AS} (hx : CX X cL_law RL h0 mc0 ms0) (hh0 : 40 ≤ h0) (hX : LWX X N xs) (hnc : NCS X.2.2.2.2.2.1) (hl : X.2.2.1.stackTraces = false) (hN : N ≤ 1536) (hi : i + 3 ≤ N) (hC : CR σ A) (hR : MR σ A) (ha : a + 3 ≤ mc0) (hb : b + 18 ≤ ms0) (kk : ∀ σ' A', CR σ' A' → MR σ' A' → GJ X (a + 3) (b + 18) 2067 [some (.inr 1040), some (.inr 69), some (.inr 70), some (.inr 81), some (.inr 82), some (.inl (i : Int)), none, none, none] [] σ') : GJ X a b 1383 [some (.inr 1040), some (.inr 69), some (.inr 70), some (.inr 81), some (.inr 82), some (.inl (i : Int)), none, none, none] [] σ := by
  refine gx_aload_n hx dL_law_1383 rfl ?_
  refine gx_aload_n hx dL_law_1384 rfl ?_
  refine gx_callL hx hnc (c_L_leastSize _ _ hl hC) lkL_215 mwL_leastSize dL_law_1385 rfl rfl (Nat.le_of_ble_eq_true rfl) (by omega) ⟨by omega, by omega⟩ (fun z1 σ1 h1 => ?_)
  obtain ⟨n1, v1, A1, rfl, n9, r1, c1, o1, k1⟩ := h1
  have hR1 : MR σ1 A := hR.out (fun k q1 q2 => k1 k q1 (by omega) (by omega))
  refine gx_istore hx dL_law_1388 (Nat.le_of_ble_eq_true rfl) ?_
  refine gx_aload_n hx dL_law_1390 rfl ?_
  refine gx_callI hx (c_X9_leastSize _ _ hR1) lkL_217 mwX9_leastSize dL_law_1391 (by decide) rfl rfl rfl rfl (Nat.le_of_ble_eq_true rfl) (by omega) ⟨by omega, by omega⟩ (fun z2 σ2 h2 => ?_)
  obtain ⟨c2, A2, r2, m2, m3, m4⟩ := h2
  obtain ⟨rfl, rfl, rfl⟩ := (uniq_fn _) _ _ _ _ _ _ r1 r2
  refine gx_istore hx dL_law_1394 (Nat.le_of_ble_eq_true rfl) ?_
  refine gx_aload_n hx dL_law_1396 rfl ?_
  refine gx_callI hx (c_X9_thrown _ _) lkL_139 mwX9_thrown dL_law_1397 (by decide) rfl rfl rfl rfl (Nat.le_of_ble_eq_true rfl) (by omega) ⟨by omega, by omega⟩ (fun z3 σ3 h3 => ?_)
  obtain ⟨rfl, rfl⟩ := h3
  rw [m3]
  refine gx_iload hx dL_law_1400 rfl ?_
  refine gx_icmpS (tgt := 1407) hx dL_law_1402 (by decide) ?_
  refine gx_iload hx dL_law_1407 rfl ?_
  have hend : GJ X (a + 3) (b + 18) 1424 [some (.inr 1040), some (.inr 69), some (.inr 70), some (.inr 81), some (.inr 82), some (.inl (i : Int)), some (.inl (n1 : Int)), some (.inl v1), none] [] σ2 := by
    refine gx_goto (tgt := 2067) hx dL_law_1424 (by decide) ?_
    refine GJ.drop 6 (GJ.drop 7 ?_)
    exact GJ.widen (by omega) (by omega) (kk _ _ (c1.out (fun k hk => m4 k (Or.inl hk))) m2)
  refine gx_if_ne (tgt := 1424) hx dL_law_1409 (by decide) ⟨by omega, by omega⟩ (fun hq => ?_) (fun hq => ?_)
  · exact GJ.widen (by omega) (by omega) hend
  · have hz : σ2 81 0 = (ii v1).toInt := by
      rw [m4 81 (Or.inr (by decide))]
      exact o1 (by omega)
    refine gx_aload_n hx dL_law_1412 rfl ?_
    refine gx_iconst hx dL_law_1413 ?_
    refine gx_lcmpS (tgt := 1424) hx hz dL_law_1414 dL_law_1415 dL_law_1417 dL_law_1418 dL_law_1419 (by decide) rfl ?_
    exact GJ.widen (by omega) (by omega) hend
set_option maxRecDepth 20000 in
set_option maxHeartbeats 1000000 in
theorem law_26 {X : Cx} {h0 mc0 ms0 N i a b : Nat} {xs : Nat → Int32} {σ : Sg} {A : AS} (hx : CX X cL_law RL h0 mc0 ms0) (hh0 : 40 ≤ h0) (hX : LWX X N xs) (hnc : NCS X.2.2.2.2.2.1) (hl : X.2.2.1.stackTraces = false) (hN : N ≤ 1536) (hi : i + 3 ≤ N) (hC : CR σ A) (hR : MR σ A) (ha : a + 3 ≤ mc0) (hb : b + 18 ≤ ms0) (kk : ∀ σ' A', CR σ' A' → MR σ' A' → GJ X (a + 3) (b + 18) 2067 [some (.inr 1040), some (.inr 69), some (.inr 70), some (.inr 81), some (.inr 82), some (.inl (i : Int)), none, none, none] [] σ') : GJ X a b 1427 [some (.inr 1040), some (.inr 69), some (.inr 70), some (.inr 81), some (.inr 82), some (.inl (i : Int)), none, none, none] [] σ := by
  refine gx_aload_n hx dL_law_1427 rfl ?_
  refine gx_aload_n hx dL_law_1428 rfl ?_
  refine gx_callL hx hnc (c_L_optimize _ _ hl hC) lkL_218 mwL_optimize dL_law_1429 rfl rfl (Nat.le_of_ble_eq_true rfl) (by omega) ⟨by omega, by omega⟩ (fun z1 σ1 h1 => ?_)
  obtain ⟨n1, v1, A1, rfl, n9, r1, c1, o1, k1⟩ := h1
  have hR1 : MR σ1 A := hR.out (fun k q1 q2 => k1 k q1 (by omega) (by omega))
  refine gx_istore hx dL_law_1432 (Nat.le_of_ble_eq_true rfl) ?_
  refine gx_aload_n hx dL_law_1434 rfl ?_
  refine gx_callI hx (c_X9_optimize _ _ hR1) lkL_220 mwX9_optimize dL_law_1435 (by decide) rfl rfl rfl rfl (Nat.le_of_ble_eq_true rfl) (by omega) ⟨by omega, by omega⟩ (fun z2 σ2 h2 => ?_)
  obtain ⟨c2, A2, r2, m2, m3, m4⟩ := h2
  obtain ⟨rfl, rfl, rfl⟩ := (uniq_fn _) _ _ _ _ _ _ r1 r2
  refine gx_istore hx dL_law_1438 (Nat.le_of_ble_eq_true rfl) ?_
  refine gx_aload_n hx dL_law_1440 rfl ?_
  refine gx_callI hx (c_X9_thrown _ _) lkL_139 mwX9_thrown dL_law_1441 (by decide) rfl rfl rfl rfl (Nat.le_of_ble_eq_true rfl) (by omega) ⟨by omega, by omega⟩ (fun z3 σ3 h3 => ?_)
  obtain ⟨rfl, rfl⟩ := h3
  rw [m3]
  refine gx_iload hx dL_law_1444 rfl ?_
  refine gx_icmpS (tgt := 1451) hx dL_law_1446 (by decide) ?_
  refine gx_iload hx dL_law_1451 rfl ?_
  have hend : GJ X (a + 3) (b + 18) 1468 [some (.inr 1040), some (.inr 69), some (.inr 70), some (.inr 81), some (.inr 82), some (.inl (i : Int)), some (.inl (n1 : Int)), some (.inl v1), none] [] σ2 := by
    refine gx_goto (tgt := 2067) hx dL_law_1468 (by decide) ?_
    refine GJ.drop 6 (GJ.drop 7 ?_)
    exact GJ.widen (by omega) (by omega) (kk _ _ (c1.out (fun k hk => m4 k (Or.inl hk))) m2)
  refine gx_if_ne (tgt := 1468) hx dL_law_1453 (by decide) ⟨by omega, by omega⟩ (fun hq => ?_) (fun hq => ?_)
  · exact GJ.widen (by omega) (by omega) hend
  · have hz : σ2 81 0 = (ii v1).toInt := by
      rw [m4 81 (Or.inr (by decide))]
      exact o1 (by omega)
    refine gx_aload_n hx dL_law_1456 rfl ?_
    refine gx_iconst hx dL_law_1457 ?_
    refine gx_lcmpS (tgt := 1468) hx hz dL_law_1458 dL_law_1459 dL_law_1461 dL_law_1462 dL_law_1463 (by decide) rfl ?_
    exact GJ.widen (by omega) (by omega) hend
set_option maxRecDepth 20000 in
set_option maxHeartbeats 1000000 in
theorem law_27 {X : Cx} {h0 mc0 ms0 N i a b : Nat} {xs : Nat → Int32} {σ : Sg} {A : AS} (hx : CX X cL_law RL h0 mc0 ms0) (hh0 : 40 ≤ h0) (hX : LWX X N xs) (hnc : NCS X.2.2.2.2.2.1) (hl : X.2.2.1.stackTraces = false) (hN : N ≤ 1536) (hi : i + 3 ≤ N) (hC : CR σ A) (hR : MR σ A) (ha : a + 3 ≤ mc0) (hb : b + 18 ≤ ms0) (kk : ∀ σ' A', CR σ' A' → MR σ' A' → GJ X (a + 3) (b + 18) 2067 [some (.inr 1040), some (.inr 69), some (.inr 70), some (.inr 81), some (.inr 82), some (.inl (i : Int)), none, none, none] [] σ') : GJ X a b 1471 [some (.inr 1040), some (.inr 69), some (.inr 70), some (.inr 81), some (.inr 82), some (.inl (i : Int)), none, none, none] [] σ := by
  refine gx_aload_n hx dL_law_1471 rfl ?_
  refine gx_aload_n hx dL_law_1472 rfl ?_
  refine gx_callL hx hnc (c_L_consistentChoices _ _ hl hC) lkL_221 mwL_consistentChoices dL_law_1473 rfl rfl (Nat.le_of_ble_eq_true rfl) (by omega) ⟨by omega, by omega⟩ (fun z1 σ1 h1 => ?_)
  obtain ⟨n1, v1, A1, rfl, n9, r1, c1, o1, k1⟩ := h1
  have hR1 : MR σ1 A := hR.out (fun k q1 q2 => k1 k q1 (by omega) (by omega))
  refine gx_istore hx dL_law_1476 (Nat.le_of_ble_eq_true rfl) ?_
  refine gx_aload_n hx dL_law_1478 rfl ?_
  refine gx_callI hx (c_X9_consistentChoices _ _ hR1) lkL_223 mwX9_consistentChoices dL_law_1479 (by decide) rfl rfl rfl rfl (Nat.le_of_ble_eq_true rfl) (by omega) ⟨by omega, by omega⟩ (fun z2 σ2 h2 => ?_)
  obtain ⟨c2, A2, r2, m2, m3, m4⟩ := h2
  obtain ⟨rfl, rfl, rfl⟩ := (uniq_fn _) _ _ _ _ _ _ r1 r2
  refine gx_istore hx dL_law_1482 (Nat.le_of_ble_eq_true rfl) ?_
  refine gx_aload_n hx dL_law_1484 rfl ?_
  refine gx_callI hx (c_X9_thrown _ _) lkL_139 mwX9_thrown dL_law_1485 (by decide) rfl rfl rfl rfl (Nat.le_of_ble_eq_true rfl) (by omega) ⟨by omega, by omega⟩ (fun z3 σ3 h3 => ?_)
  obtain ⟨rfl, rfl⟩ := h3
  rw [m3]
  refine gx_iload hx dL_law_1488 rfl ?_
  refine gx_icmpS (tgt := 1495) hx dL_law_1490 (by decide) ?_
  refine gx_iload hx dL_law_1495 rfl ?_
  have hend : GJ X (a + 3) (b + 18) 1512 [some (.inr 1040), some (.inr 69), some (.inr 70), some (.inr 81), some (.inr 82), some (.inl (i : Int)), some (.inl (n1 : Int)), some (.inl v1), none] [] σ2 := by
    refine gx_goto (tgt := 2067) hx dL_law_1512 (by decide) ?_
    refine GJ.drop 6 (GJ.drop 7 ?_)
    exact GJ.widen (by omega) (by omega) (kk _ _ (c1.out (fun k hk => m4 k (Or.inl hk))) m2)
  refine gx_if_ne (tgt := 1512) hx dL_law_1497 (by decide) ⟨by omega, by omega⟩ (fun hq => ?_) (fun hq => ?_)
  · exact GJ.widen (by omega) (by omega) hend
  · have hz : σ2 81 0 = (ii v1).toInt := by
      rw [m4 81 (Or.inr (by decide))]
      exact o1 (by omega)
    refine gx_aload_n hx dL_law_1500 rfl ?_
    refine gx_iconst hx dL_law_1501 ?_
    refine gx_lcmpS (tgt := 1512) hx hz dL_law_1502 dL_law_1503 dL_law_1505 dL_law_1506 dL_law_1507 (by decide) rfl ?_
    exact GJ.widen (by omega) (by omega) hend
set_option maxRecDepth 20000 in
set_option maxHeartbeats 1000000 in
theorem law_28 {X : Cx} {h0 mc0 ms0 N i a b : Nat} {xs : Nat → Int32} {σ : Sg} {A : AS} (hx : CX X cL_law RL h0 mc0 ms0) (hh0 : 40 ≤ h0) (hX : LWX X N xs) (hnc : NCS X.2.2.2.2.2.1) (hl : X.2.2.1.stackTraces = false) (hN : N ≤ 1536) (hi : i + 3 ≤ N) (hC : CR σ A) (hR : MR σ A) (ha : a + 3 ≤ mc0) (hb : b + 18 ≤ ms0) (kk : ∀ σ' A', CR σ' A' → MR σ' A' → GJ X (a + 3) (b + 18) 2067 [some (.inr 1040), some (.inr 69), some (.inr 70), some (.inr 81), some (.inr 82), some (.inl (i : Int)), none, none, none] [] σ') : GJ X a b 1515 [some (.inr 1040), some (.inr 69), some (.inr 70), some (.inr 81), some (.inr 82), some (.inl (i : Int)), none, none, none] [] σ := by
  refine gx_aload_n hx dL_law_1515 rfl ?_
  refine gx_aload hx dL_law_1516 rfl ?_
  refine gx_callL hx hnc (c_L_averageForm _ _ hl hC) lkL_224 mwL_averageForm dL_law_1518 rfl rfl (Nat.le_of_ble_eq_true rfl) (by omega) ⟨by omega, by omega⟩ (fun z1 σ1 h1 => ?_)
  obtain ⟨o1, c1, k1⟩ := h1
  have hR1 : MR σ1 A := hR.out (fun k q1 q2 => k1 k q1 (by omega) (by omega))
  refine gx_istore hx dL_law_1521 (Nat.le_of_ble_eq_true rfl) ?_
  refine gx_aload_n hx dL_law_1523 rfl ?_
  refine gx_callD hx (c_X9_averageForm _ _ hR1) lkL_227 mwX9_averageForm dL_law_1524 (by decide) rfl rfl rfl rfl (Nat.le_of_ble_eq_true rfl) (by omega) ⟨by omega, by omega⟩ dL_law_1527 (Nat.le_of_ble_eq_true rfl) rfl rfl (fun r2 σ2 h2 => ?_)
  have hz9 : ∃ n1 : Nat, z1 = (n1 : Int) ∧ n1 ≤ 1 ∧ MZ σ1 σ2 A n1 ∧ (n1 = 0 → σ2 82 0 = (r2.toNat : Int) ∧ Op.cmpValue (FP.dcmp r2 r2) .l = 0) := by
    have hok : okP A.1 := hC.1.1
    have htl : nT A.1 ≤ A.1.length := cnt_le _ _
    have hl40 := hok.1
    rcases o1 with ⟨rfl, e1⟩ | ⟨rfl, e1, e2⟩
    · rcases h2 with ⟨_, m⟩ | ⟨e3, _⟩
      · exact ⟨1, rfl, by omega, m, fun h => by omega⟩
      · exact absurd e1 e3
    · rcases h2 with ⟨e3, _⟩ | ⟨e3, rfl, m⟩
      · exact absurd e3 e1
      · exact ⟨0, rfl, by omega, m, fun _ => ⟨by rw [m.2.2 82 (Or.inr (by decide))]; exact e2, (av_ok (sumF_le hok) e1 (by omega)).2⟩⟩
  obtain ⟨n1, rfl, n9, ⟨m2, m3, m4⟩, w1⟩ := hz9
  refine gd_aload_n hx dL_law_1529 rfl ?_
  refine gd_callI hx (c_X9_thrown _ _) lkL_139 mwX9_thrown dL_law_1530 (by decide) rfl rfl rfl rfl (Nat.le_of_ble_eq_true rfl) (by omega) ⟨by omega, by omega⟩ (fun z3 σ3 h3 => ?_)
  obtain ⟨rfl, rfl⟩ := h3
  rw [m3]
  refine gd_iload hx dL_law_1533 rfl ?_
  refine gd_icmpS (tgt := 1540) hx dL_law_1535 (by decide) ?_
  refine gd_iload hx dL_law_1540 rfl ?_
  have hend : GJ X (a + 3) (b + 18) 1577 [some (.inr 1040), some (.inr 69), some (.inr 70), some (.inr 81), some (.inr 82), some (.inl (i : Int)), some (.inl (n1 : Int)), none, none] [] σ2 := by
    refine gx_goto (tgt := 2067) hx dL_law_1577 (by decide) ?_
    refine GJ.drop 6 ?_
    exact GJ.widen (by omega) (by omega) (kk _ _ (c1.out (fun k hk => m4 k (Or.inl hk))) m2)
  refine gd_if_ne (tgt := 1577) hx dL_law_1542 (by decide) ⟨by omega, by omega⟩ (fun hq => ?_) (fun hq => ?_)
  · exact GJ.widen (by omega) (by omega) hend
  · obtain ⟨w2, w3⟩ := w1 (by omega)
    refine gd_dcmpS (tgt := 1577) hx w2 w3 dL_law_1545 dL_law_1547 dL_law_1548 dL_law_1549 dL_law_1551 dL_law_1552 (by decide) rfl ?_
    exact GJ.widen (by omega) (by omega) hend
set_option maxRecDepth 20000 in
set_option maxHeartbeats 1000000 in
theorem law_29 {X : Cx} {h0 mc0 ms0 N i a b : Nat} {xs : Nat → Int32} {σ : Sg} {A : AS} (hx : CX X cL_law RL h0 mc0 ms0) (hh0 : 40 ≤ h0) (hX : LWX X N xs) (hnc : NCS X.2.2.2.2.2.1) (hl : X.2.2.1.stackTraces = false) (hN : N ≤ 1536) (hi : i + 3 ≤ N) (hC : CR σ A) (hR : MR σ A) (ha : a + 3 ≤ mc0) (hb : b + 18 ≤ ms0) (kk : ∀ σ' A', CR σ' A' → MR σ' A' → GJ X (a + 3) (b + 18) 2067 [some (.inr 1040), some (.inr 69), some (.inr 70), some (.inr 81), some (.inr 82), some (.inl (i : Int)), none, none, none] [] σ') : GJ X a b 1580 [some (.inr 1040), some (.inr 69), some (.inr 70), some (.inr 81), some (.inr 82), some (.inl (i : Int)), none, none, none] [] σ := by
  refine gx_aload_n hx dL_law_1580 rfl ?_
  refine gx_callI hx (c_X8_poolCount _ _ hC) lkL_228 mwX8_poolCount dL_law_1581 (by decide) rfl rfl rfl rfl (Nat.le_of_ble_eq_true rfl) (by omega) ⟨by omega, by omega⟩ (fun z1 σ1 h1 => ?_)
  obtain ⟨A1, r1, c1, e1⟩ := h1
  have hR1 : MR σ1 A := hR.out (fun k k1 _ => e1 k k1)
  refine gx_aload_n hx dL_law_1584 rfl ?_
  refine gx_callI hx (c_X9_poolCount _ _ hR1) lkL_231 mwX9_poolCount dL_law_1585 (by decide) rfl rfl rfl rfl (Nat.le_of_ble_eq_true rfl) (by omega) ⟨by omega, by omega⟩ (fun z2 σ2 h2 => ?_)
  obtain ⟨c2, A2, r2, m2, m3, m4⟩ := h2
  obtain ⟨rfl, rfl, rfl⟩ := uniq_fn _ _ _ _ _ _ _ r1 r2
  refine gx_icmpS (tgt := 2067) hx dL_law_1588 (by decide) ?_
  exact GJ.widen (by omega) (by omega) (kk _ _ (c1.out (fun k hk => m4 k (Or.inl hk))) m2)
