/-! The names: String's length and charAt of a constant -/
section STRS
def nmT : List (List Nat) := [[99, 111, 100, 101], [100, 97, 116, 97], [108, 97, 98, 101, 108], [97, 108, 105, 103, 110], [106, 117, 109, 112], [98, 114, 97, 110, 99, 104], [108, 111, 97, 100], [112, 111, 111, 108], []]
/-- the letter j of the name of the kind k; its length -/
def nmC (k j : Nat) : Nat := (nmT.getD k []).getD j 0
def nmL (k : Nat) : Nat := (nmT.getD k []).length
theorem nm_len : ∀ k, k < 9 → nameLen.getD k 0 = nmL k := by decide
theorem nm_le : ∀ k, k < 9 → nmL k ≤ 6 := by decide
theorem nm_ge : ∀ k, k < 8 → 4 ≤ nmL k := by decide
theorem nm_byt : ∀ k, k < 9 → ∀ j, j < nmL k → (nameByt.getD k []).getD j 0 = ii (nmC k j) ∧ 97 ≤ nmC k j ∧ nmC k j ≤ 122 := by decide +kernel
theorem and255 : ∀ n : Nat, n < 256 → ii (n : Int) &&& ii 255 = ii (n : Int) := by decide +kernel
theorem i2c255 : ∀ n : Nat, n < 256 → ((ii (n : Int)).toUInt32 % 65536).toInt32 = ii (n : Int) := by decide +kernel
theorem nar_c : ∀ n : Nat, n < 256 → narrow .char (.int (ii (n : Int))) = .int (ii (n : Int)) := by decide +kernel
theorem shr0 : ∀ n : Nat, n < 10 → ii (n : Int) >>> (ii 0 &&& 31) = ii (n : Int) := by decide +kernel
theorem wS9 : Cond.fieldLink RJ0 9 "java/lang/String" "value" "[B" ∈ BIG := big_of (List.mem_of_getElem? (i := 1682) (by decide +kernel)) (by decide +kernel)
theorem wS15 : Cond.fieldLink RJ0 15 "java/lang/String" "coder" "B" ∈ BIG := big_of (List.mem_of_getElem? (i := 1683) (by decide +kernel)) (by decide +kernel)
theorem wS38 : Cond.fieldLink RJ0 38 "java/lang/String" "COMPACT_STRINGS" "Z" ∈ BIG := big_of (List.mem_of_getElem? (i := 670) (by decide +kernel)) (by decide +kernel)
theorem wS1053 : Cond.fieldLink RJ0 1053 "jdk/internal/util/Preconditions" "SIOOBE_FORMATTER" "Ljava/util/function/BiFunction;" ∈ BIG := big_of (List.mem_of_getElem? (i := 686) (by decide +kernel)) (by decide +kernel)
theorem adr_s {g : Gm} {i : Nat} (h : i < 100) : adr g (1000 + i) = g.2.2.2.2.1 i := by
  unfold adr
  rw [if_neg (by omega), if_pos (by omega), show 1000 + i - 1000 = i by omega]
theorem adr_v {g : Gm} {i : Nat} : adr g (1100 + i) = g.2.2.2.2.2 i := by
  unfold adr
  rw [if_neg (by omega), if_neg (by omega), show 1100 + i - 1100 = i by omega]
variable {X : Cx} {cc : ByteArray} {own : String} {h0 mc0 ms0 : Nat} {a b pc : Nat} {L : List (Option V)} {st st0 : List V} {σ : Sg}
theorem gx_ishr {x y z : Int} (hx : CX X cc own h0 mc0 ms0) (d : decode cc pc = .ok (.ishr, 1)) (hz : ii x >>> (ii y &&& 31) = ii z) (kk : GJ X a b (pc + 1) L (.inl z :: st) σ) : GJ X a b pc L (.inl y :: .inl x :: st) σ := by
  obtain ⟨g, p, l, e, R, s, m, args, below, meth, c, Q, nL⟩ := X
  obtain ⟨h1, h2, -⟩ := hx
  intro H locs ls hLn hP hS hls
  refine lv_ishr (x := ii x) (y := ii y) h1 h2 d ?_
  rw [hz]
  exact kk H locs ls hLn hP hS hls
theorem gx_i2c {x z : Int} (hx : CX X cc own h0 mc0 ms0) (d : decode cc pc = .ok (.i2c, 1)) (hz : ((ii x).toUInt32 % 65536).toInt32 = ii z) (kk : GJ X a b (pc + 1) L (.inl z :: st) σ) : GJ X a b pc L (.inl x :: st) σ := by
  obtain ⟨g, p, l, e, R, s, m, args, below, meth, c, Q, nL⟩ := X
  obtain ⟨h1, h2, -⟩ := hx
  intro H locs ls hLn hP hS hls
  exact lv_i2c (x := ii x) (v := ii z) h1 h2 d hz (kk H locs ls hLn hP hS hls)
theorem gx_compact {idx : Nat} (hx : CX X cc own h0 mc0 ms0) (hl : Cond.fieldLink own idx "java/lang/String" "COMPACT_STRINGS" "Z" ∈ BIG) (d : decode cc pc = .ok (.getstatic idx, 3)) (kk : GJ X a b (pc + 3) L (.inl 1 :: st) σ) : GJ X a b pc L st σ := by
  obtain ⟨g, p, l, e, R, s, m, args, below, meth, c, Q, nL⟩ := X
  obtain ⟨h1, h2, -, h4, h5, h6, -⟩ := hx
  intro H locs ls hLn hP hS hls
  exact va_gets (v := .int 1) h1 h2 h6.2.2.2.2.2.2.2.1 hS h4 (h5 _ hl) (fun _ h => h) d (kk H locs ls hLn hP hS hls)
theorem gx_coder {idx i : Nat} (hx : CX X cc own h0 mc0 ms0) (hi : i < 9) (hl : Cond.fieldLink own idx "java/lang/String" "coder" "B" ∈ BIG) (d : decode cc pc = .ok (.getfield idx, 3)) (kk : GJ X a b (pc + 3) L (.inl 0 :: st) σ) : GJ X a b pc L (.inr (1000 + i) :: st) σ := by
  obtain ⟨g, p, l, e, R, s, m, args, below, meth, c, Q, nL⟩ := X
  obtain ⟨h1, h2, -, h4, h5, h6, -⟩ := hx
  intro H locs ls hLn hP hS hls
  have hE := (h6.2.2.2.2.2.2.1.1 i hi).2.1
  rw [← adr_s (g := g) (i := i) (by omega)] at hE
  exact vk_getf (v := .int 0) h1 h2 hE hS h4 (h5 _ hl) (fun _ h => h) d (kk H locs ls hLn hP hS hls)
theorem gx_value {idx i : Nat} (hx : CX X cc own h0 mc0 ms0) (hi : i < 9) (hl : Cond.fieldLink own idx "java/lang/String" "value" "[B" ∈ BIG) (d : decode cc pc = .ok (.getfield idx, 3)) (kk : GJ X a b (pc + 3) L (.inr (1100 + i) :: st) σ) : GJ X a b pc L (.inr (1000 + i) :: st) σ := by
  obtain ⟨g, p, l, e, R, s, m, args, below, meth, c, Q, nL⟩ := X
  obtain ⟨h1, h2, -, h4, h5, h6, -⟩ := hx
  intro H locs ls hLn hP hS hls
  have hE := (h6.2.2.2.2.2.2.1.1 i hi).2.2.1
  rw [← adr_s (g := g) (i := i) (by omega), ← adr_v (g := g) (i := i)] at hE
  exact vk_getf h1 h2 hE hS h4 (h5 _ hl) (fun _ h => h) d (kk H locs ls hLn hP hS hls)
theorem gx_blen {i : Nat} (hx : CX X cc own h0 mc0 ms0) (hi : i < 9) (d : decode cc pc = .ok (.arraylength, 1)) (kk : GJ X a b (pc + 1) L (.inl (nmL i : Int) :: st) σ) : GJ X a b pc L (.inr (1100 + i) :: st) σ := by
  obtain ⟨g, p, l, e, R, s, m, args, below, meth, c, Q, nL⟩ := X
  obtain ⟨h1, h2, -, h4, h5, h6, -⟩ := hx
  intro H locs ls hLn hP hS hls
  have hE := (h6.2.2.2.2.2.2.1.1 i hi).2.2.2
  rw [← adr_v (g := g) (i := i), nm_len i hi] at hE
  exact va_tlen h1 h2 hE hS (v := ii (nmL i : Int)) Int32.ofInt_eq_ofNat.symm d (kk H locs ls hLn hP hS hls)
theorem gx_bald {i j : Nat} {z : Int} (hx : CX X cc own h0 mc0 ms0) (hi : i < 9) (hz : z = (j : Int)) (hj : j < nmL i) (d : decode cc pc = .ok (.baload, 1)) (kk : GJ X a b (pc + 1) L (.inl (nmC i j : Int) :: st) σ) : GJ X a b pc L (.inl z :: .inr (1100 + i) :: st) σ := by
  subst hz
  obtain ⟨g, p, l, e, R, s, m, args, below, meth, c, Q, nL⟩ := X
  obtain ⟨h1, h2, -, h4, h5, h6, -⟩ := hx
  intro H locs ls hLn hP hS hls
  have hE := (h6.2.2.2.2.2.2.1.1 i hi).2.2.2
  have h7 := nm_le i hi
  rw [← adr_v (g := g) (i := i), nm_len i hi] at hE
  have rj : rg (j : Int) := ⟨by omega, by omega⟩
  refine va_tb (i := ii (j : Int)) (v := .int (ii (nmC i j : Int))) h1 h2 hE hS (vp_in_ii rj (by omega) (by omega)) ?_ d (kk H locs ls hLn hP hS hls)
  rw [ii_clamp rj, show ((j : Int)).toNat = j by omega, (nm_byt i hi j hj).1]
/-- a method of a constant String -/
theorem gx_callT {i : Nat} {y : MethodName} {cy : ByteArray} {maxL hy mc ms n idx : Nat} {ret : Option FieldType} {As : List V} {post : Int → Sg → Prop} (hx : CX X cc own h0 mc0 ms0) (hi : i < 9) (K : KI X.1 X.2.2.1 y cy maxL ret hy mc ms (.inr (1000 + i) :: As) σ post) (hl : Cond.methodLink own idx y ∈ BIG) (hm : MWV y cy maxL ret RJ0 n) (d : decode cc pc = .ok (.invokevirtual idx, 3)) (hn : As.length = n) (hst : As.reverse ++ .inr (1000 + i) :: st = st0) (hcat : st.length ≤ 8) (hh : hy < h0) (hr : a + mc ≤ mc0 ∧ b + ms ≤ ms0)
    (kk : ∀ z σ', post z σ' → GJ X (a + mc) (b + ms) (pc + 3) L (.inl z :: st) σ') : GJ X a b pc L st0 σ := by
  obtain ⟨g, p, l, e, R, s, m, args, below, meth, c, Q, nL⟩ := X
  obtain ⟨h1, h2, h3, h4, h5, h6, h7, h8⟩ := hx
  subst h8
  intro H locs ls hLn hP hS hls
  have hst9 : st0.map (vv g) = (As.map (vv g)).reverse ++ .ref (adr g (1000 + i)) :: st.map (vv g) := by rw [← hst, List.map_append, List.map_cons, List.map_reverse]; rfl
  have hg := goodV hl hm
  have hrc := vk_recv h6.2.2.2.2.2.2.1 hi hS
  rw [← adr_s (g := g) (i := i) (by omega)] at hrc
  refine va_calli (va_runV (As := As.map (vv g)) (rest := st.map (vv g)) (b := adr g (1000 + i)) ⟨h1, h2, h3, h4, h5⟩ K (cwV n h5 hg rfl rfl rfl hm.2.2.2.2.1 (rm_fit hh hm.2.2.2.2.2)) ⟨pre_blind _ _ _, hrc, fun U hU hW => ⟨rfl, h6.warm hW (by rw [hU]; exact hS), by rw [hU]; exact hP⟩⟩ rfl (by rw [List.length_map]; exact hn) hls.1 hst9 (lv_room (by rw [cat_sum]; exact hcat)) d hr) hS (fun q _ h => h) (fun q h => h) (fun r σ' t H1 locs1 ht hvm hw hB hz1 hk1 hS1 => ?_)
  obtain ⟨z, rfl, hpost⟩ := hw
  rw [POST, ht] at hB
  exact kk z σ' hpost H1 locs1 ls hLn hB hS1 hls
end STRS
set_option maxRecDepth 20000 in
theorem c_J0_coder_7d493 (g : Gm) (l : Launch) {σ : Sg} {i : Nat} (hi : i < 9) : KI g l yJ0_coder_7d493 cJ0_coder_7d493 1 (some .byte) 0 0 0 [.inr (1000 + i)] σ (fun z σ' => z = 0 ∧ σ = σ') := by
  refine startI (own := RJ0) (by decide +kernel) rfl (Nat.le_of_ble_eq_true rfl) ?_
  intro X hx _ _ hret
  refine gx_compact hx wS38 dJ0_coder_7d493_0 ?_
  refine gx_if_eq (tgt := 13) hx dJ0_coder_7d493_3 (by decide) ⟨by omega, by omega⟩ (fun h => by exfalso; omega) (fun h => ?_)
  refine gx_aload_n hx dJ0_coder_7d493_6 rfl ?_
  refine gx_coder hx hi wS15 dJ0_coder_7d493_7 ?_
  refine gx_goto (tgt := 14) hx dJ0_coder_7d493_10 (by decide) ?_
  refine hret _ _ _ _ _ _ _ (by decide) (by decide) dJ0_coder_7d493_14 rfl rfl ⟨rfl, rfl⟩
set_option maxRecDepth 20000 in
theorem c_J0_isLatin1_aae02 (g : Gm) (l : Launch) {σ : Sg} {i : Nat} (hi : i < 9) : KI g l yJ0_isLatin1_aae02 cJ0_isLatin1_aae02 1 (some .boolean) 0 0 0 [.inr (1000 + i)] σ (fun z σ' => z = 1 ∧ σ = σ') := by
  refine startI (own := RJ0) (by decide +kernel) rfl (Nat.le_of_ble_eq_true rfl) ?_
  intro X hx _ _ hret
  refine gx_compact hx wS38 dJ0_isLatin1_aae02_0 ?_
  refine gx_if_eq (tgt := 17) hx dJ0_isLatin1_aae02_3 (by decide) ⟨by omega, by omega⟩ (fun h => by exfalso; omega) (fun h => ?_)
  refine gx_aload_n hx dJ0_isLatin1_aae02_6 rfl ?_
  refine gx_coder hx hi wS15 dJ0_isLatin1_aae02_7 ?_
  refine gx_if_ne (tgt := 17) hx dJ0_isLatin1_aae02_10 (by decide) ⟨by omega, by omega⟩ (fun h => absurd rfl h) (fun h => ?_)
  refine gx_iconst hx dJ0_isLatin1_aae02_13 ?_
  refine gx_goto (tgt := 18) hx dJ0_isLatin1_aae02_14 (by decide) ?_
  refine hret _ _ _ _ _ _ _ (by decide) (by decide) dJ0_isLatin1_aae02_18 rfl rfl ⟨rfl, rfl⟩
set_option maxRecDepth 20000 in
/-- String.length of a name -/
theorem c_J0_length_8abf5 (g : Gm) (l : Launch) {σ : Sg} {i : Nat} (hi : i < 9) : KI g l yJ0_length_8abf5 cJ0_length_8abf5 1 (some .int) 1 0 0 [.inr (1000 + i)] σ (fun z σ' => z = (nmL i : Int) ∧ σ = σ') := by
  refine startI (own := RJ0) (by decide +kernel) rfl (Nat.le_of_ble_eq_true rfl) ?_
  intro X hx _ _ hret
  have h6 := nm_le i hi
  refine gx_aload_n hx dJ0_length_8abf5_0 rfl ?_
  refine gx_value hx hi wS9 dJ0_length_8abf5_1 ?_
  refine gx_blen hx hi dJ0_length_8abf5_4 ?_
  refine gx_aload_n hx dJ0_length_8abf5_5 rfl ?_
  refine gx_callT hx hi (c_J0_coder_7d493 _ _ hi) lkJ0_335 mwJ0_coder_7d493 dJ0_length_8abf5_6 rfl rfl (Nat.le_of_ble_eq_true rfl) (by decide) ⟨by decide, by decide⟩ (fun z σ' hz => ?_)
  obtain ⟨rfl, rfl⟩ := hz
  refine gx_ishr hx dJ0_length_8abf5_9 (shr0 (nmL i) (by omega)) ?_
  refine hret _ _ _ _ _ _ _ (by decide) (by decide) dJ0_length_8abf5_10 rfl rfl ⟨rfl, rfl⟩
set_option maxRecDepth 20000 in
/-- Preconditions.checkIndex of an index that is in range; its formatter is not looked at -/
theorem c_J3_checkIndex (g : Gm) (l : Launch) {σ : Sg} {z n : Int} {w : Value} (hw : w.category = 1) (hz : 0 ≤ z) (hzn : z < n) (rn : rg n) : Met l yJ3_checkIndex_8e157 (Cond.code yJ3_checkIndex_8e157 cJ3_checkIndex_8e157 3 (some .int) :: BIG) (rmH 0 0 0) (va_Pc [.int (ii z), .int (ii n), w] (PRE g σ)) (va_Qi (fun r σ' => r = ii z ∧ σ' = σ) (POST g) (gA g)) 0 0 (gA g) := by
  refine Met.ofW (cc := cJ3_checkIndex_8e157) (maxL := 3) (ret := some .int) (by decide +kernel) rfl ?_
  intro p e s m args below meth c s₁ B hml hv
  obtain ⟨rfl, hok, hP⟩ := hv
  have hx := B.exec
  have hb := B.bytes
  have hr := B.returns
  have rz : rg z := ⟨by have := rn.1; omega, by have := rn.2; omega⟩
  have hsl : (lg_sl [.int (ii z), .int (ii n), w]).length = 3 := by
    unfold lg_sl
    rw [List.flatMap_cons, List.flatMap_cons, List.flatMap_cons, hw]
    rfl
  have hl := lv_entry ([.int (ii z), .int (ii n), w]) (n := 3) (by rw [hsl]; exact Nat.le_refl 3)
  rw [lg_entry_eq]
  generalize (lg_sl ([.int (ii z), .int (ii n), w]) ++ List.replicate (3 - (lg_sl ([.int (ii z), .int (ii n), w])).length) Slot.unset).toArray = ls at hl ⊢
  have hl0 : ls[0]? = some (.val (.int (ii z))) := hl.2.2 (0, .int (ii z)) (by simp [lv_args])
  have hl1 : ls[1]? = some (.val (.int (ii n))) := hl.2.2 (1, .int (ii n)) (by simp [lv_args, Value.category])
  refine lv_iload_n hx hb dJ3_checkIndex_8e157_0 rfl hl0 ?_
  refine lv_if_lt (tgt := 9) hx hb dJ3_checkIndex_8e157_1 (by decide) (fun h => ?_) (fun h => ?_)
  · have := (ii_lt rz ⟨by decide, by decide⟩).mp (show ii z < ii 0 from h)
    omega
  refine lv_iload_n hx hb dJ3_checkIndex_8e157_4 rfl hl0 ?_
  refine lv_iload_n hx hb dJ3_checkIndex_8e157_5 rfl hl1 ?_
  refine lv_icmp_lt (tgt := 16) hx hb dJ3_checkIndex_8e157_6 (by decide) (fun h2 => ?_) (fun h2 => absurd ((ii_lt rz rn).mpr hzn) h2)
  refine lv_iload_n hx hb dJ3_checkIndex_8e157_16 rfl hl0 ?_
  exact W.iret hx hb hr (fun t ht hW => ⟨⟨ii z, σ, rfl, ⟨rfl, rfl⟩, by rw [POST, ht]; exact hP⟩, (va_S.rf (A := gA g)).F ht⟩) (fun q hq => by cases hq) dJ3_checkIndex_8e157_17 B.notSynchronized
set_option maxRecDepth 20000 in
/-- String.checkIndex of an index that is in range -/
theorem c_J0_checkIndex_df160 (g : Gm) (l : Launch) {σ : Sg} {z n : Int} (hz : 0 ≤ z) (hzn : z < n) (rn : rg n) : KV g l yJ0_checkIndex_df160 cJ0_checkIndex_df160 2 1 0 0 [.inl z, .inl n] σ (fun σ' => σ = σ') := by
  refine startV (own := RJ0) (by decide +kernel) rfl (Nat.le_of_ble_eq_true rfl) ?_
  intro X hx _ _ hret
  refine gx_iload_n hx dJ0_checkIndex_df160_0 rfl ?_
  refine gx_iload_n hx dJ0_checkIndex_df160_1 rfl ?_
  have key : ∀ (L : List (Option V)), GJ X 0 0 9 L [] σ → GJ X 0 0 2 L [.inl n, .inl z] σ := by
    intro L kk
    obtain ⟨g, p, l, e, R, s, m, args, below, meth, c, Q, nL⟩ := X
    obtain ⟨h1, h2, h3, h4, h5, h6, h7, h8⟩ := hx
    subst h8
    intro H locs ls hLn hP hS hls
    have go : ∀ w : Value, w.category = 1 → W p l e (rmH 1 0 0) s m args below meth c H locs 0 0 Q (F0 m 5 ls [w, .int (ii n), .int (ii z)]) := by
      intro w hw
      refine va_calli (va_runS (As := [.int (ii z), .int (ii n), w]) (rest := []) ⟨h1, h2, h3, h4, h5⟩ (c_J3_checkIndex g l (σ := σ) hw hz hzn rn) ⟨callB_of 3 h5 (goodC mcJ3_checkIndex_8e157) rfl rfl rfl (h5 _ iniRJ3) (h5 _ lkJ0_1059) (by decide +kernel) (rm_fit (by decide) (by decide)), h5 _ msJ3_checkIndex_8e157⟩ ⟨pre_blind _ _ _, fun U hU hW => ⟨rfl, h6.warm hW (by rw [hU]; exact hS), by rw [hU]; exact hP⟩⟩ rfl rfl hls.1 rfl (lv_room (Nat.le_of_ble_eq_true rfl)) dJ0_checkIndex_df160_5 ⟨by decide, by decide⟩) hS (fun q _ h => h) (fun q h => h) (fun r σ' t H1 locs1 ht hvm hw9 hB hz1 hk1 hS1 => ?_)
      obtain ⟨rfl, rfl⟩ := hw9
      rw [POST, ht] at hB
      refine lv_pop h1 h2 dJ0_checkIndex_df160_8 rfl ?_
      exact kk H1 locs1 ls hLn hB hS1 hls
    rcases h6.2.2.2.2.2.2.2.2.2.2.2.1 with hZ | ⟨t, hZ⟩
    · exact va_gets (v := .null) h1 h2 hZ hS h4 (h5 _ wS1053) (fun _ h => h) dJ0_checkIndex_df160_2 (go .null rfl)
    · exact va_gets (v := .ref t) h1 h2 hZ hS h4 (h5 _ wS1053) (fun _ h => h) dJ0_checkIndex_df160_2 (go (.ref t) rfl)
  refine key _ ?_
  exact hret _ _ _ _ _ (by decide) (by decide) dJ0_checkIndex_df160_9 rfl
set_option maxRecDepth 20000 in
theorem c_J1_charAt_3b067 (g : Gm) (l : Launch) {σ : Sg} {i j : Nat} (hi : i < 9) (hj : j < nmL i) : KI g l yJ1_charAt_3b067 cJ1_charAt_3b067 2 (some .char) 2 0 0 [.inr (1100 + i), .inl (j : Int)] σ (fun z σ' => z = (nmC i j : Int) ∧ σ = σ') := by
  refine startI (own := RJ1) (by decide +kernel) rfl (Nat.le_of_ble_eq_true rfl) ?_
  intro X hx _ _ hret
  have h6 := nm_le i hi
  obtain ⟨-, n1, n2⟩ := nm_byt i hi j hj
  refine gx_iload_n hx dJ1_charAt_3b067_0 rfl ?_
  refine gx_aload_n hx dJ1_charAt_3b067_1 rfl ?_
  refine gx_blen hx hi dJ1_charAt_3b067_2 ?_
  refine gx_callSV hx (c_J0_checkIndex_df160 _ _ (by omega) (by omega) ⟨by omega, by omega⟩) lkJ1_9 mwJ0_checkIndex_df160 dJ1_charAt_3b067_3 rfl rfl (Nat.le_of_ble_eq_true rfl) (by decide) ⟨by decide, by decide⟩ (fun σ' hz => ?_)
  obtain rfl := hz
  refine gx_aload_n hx dJ1_charAt_3b067_6 rfl ?_
  refine gx_iload_n hx dJ1_charAt_3b067_7 rfl ?_
  refine gx_bald hx hi rfl hj dJ1_charAt_3b067_8 ?_
  refine gx_sipush hx dJ1_charAt_3b067_9 (by decide) ?_
  refine gx_iand hx dJ1_charAt_3b067_12 (and255 (nmC i j) (by omega)) ?_
  refine gx_i2c hx dJ1_charAt_3b067_13 (i2c255 (nmC i j) (by omega)) ?_
  exact hret _ _ _ _ _ _ _ (by decide) (by decide) dJ1_charAt_3b067_14 rfl (nar_c (nmC i j) (by omega)) ⟨rfl, rfl⟩
set_option maxRecDepth 20000 in
/-- String.charAt of a name -/
theorem c_J0_charAt_5068e (g : Gm) (l : Launch) {σ : Sg} {i j : Nat} (hi : i < 9) (hj : j < nmL i) : KI g l yJ0_charAt_5068e cJ0_charAt_5068e 2 (some .char) 3 0 0 [.inr (1000 + i), .inl (j : Int)] σ (fun z σ' => z = (nmC i j : Int) ∧ σ = σ') := by
  refine startI (own := RJ0) (by decide +kernel) rfl (Nat.le_of_ble_eq_true rfl) ?_
  intro X hx _ _ hret
  obtain ⟨-, n1, n2⟩ := nm_byt i hi j hj
  refine gx_aload_n hx dJ0_charAt_5068e_0 rfl ?_
  refine gx_callT hx hi (c_J0_isLatin1_aae02 _ _ hi) lkJ0_492 mwJ0_isLatin1_aae02 dJ0_charAt_5068e_1 rfl rfl (Nat.le_of_ble_eq_true rfl) (by decide) ⟨by decide, by decide⟩ (fun z σ' hz => ?_)
  obtain ⟨rfl, rfl⟩ := hz
  refine gx_if_eq (tgt := 16) hx dJ0_charAt_5068e_4 (by decide) ⟨by omega, by omega⟩ (fun h => by exfalso; omega) (fun h => ?_)
  refine gx_aload_n hx dJ0_charAt_5068e_7 rfl ?_
  refine gx_value hx hi wS9 dJ0_charAt_5068e_8 ?_
  refine gx_iload_n hx dJ0_charAt_5068e_11 rfl ?_
  refine gx_callS hx (c_J1_charAt_3b067 _ _ hi hj) lkJ0_495 mwJ1_charAt_3b067 dJ0_charAt_5068e_12 rfl rfl (Nat.le_of_ble_eq_true rfl) (by decide) ⟨by decide, by decide⟩ (fun z σ' hz => ?_)
  obtain ⟨rfl, rfl⟩ := hz
  exact hret _ _ _ _ _ _ _ (by decide) (by decide) dJ0_charAt_5068e_15 rfl (nar_c (nmC i j) (by omega)) ⟨rfl, rfl⟩
