/-! The law: rows of its loop -/
section LAWROWS
theorem MR.out {σ τ : Sg} {A : AS} (h : MR σ A) (hk : ∀ k, 70 ≤ k → k ≤ 80 → τ k = σ k) : MR τ A := by
  obtain ⟨P, hs, sv, T, er⟩ := A
  obtain ⟨g1, g2, g3, g4, g5, g6, g7, g8⟩ := h
  have e70 := hk 70 (by omega) (by omega)
  exact ⟨g1.same (hk 71 (by omega) (by omega)), g2.same (by rw [e70]) (hk 72 (by omega) (by omega)), g3.same (by rw [e70]) (hk 73 (by omega) (by omega)), g4.same (by rw [e70]) (hk 74 (by omega) (by omega)), by rw [e70]; exact g5, g6, g7, g8.same (hk 77 (by omega) (by omega))⟩
theorem and63 (x : Int32) : 0 ≤ (x &&& 63).toInt ∧ (x &&& 63).toInt ≤ 63 := by
  have h1 : (x &&& 63).toBitVec.toNat ≤ 63 := by
    have h2 : (x &&& 63).toBitVec = x.toBitVec &&& 63#32 := rfl
    rw [h2, BitVec.toNat_and]
    exact Nat.and_le_right
  have h3 : (x &&& 63).toInt = ((x &&& 63).toBitVec.toNat : Int) := by
    show (x &&& 63).toBitVec.toInt = _
    rw [BitVec.toInt_eq_toNat_of_lt (by omega)]
  rw [h3]
  omega
theorem i2c_any (x : Int) : ∃ c : Nat, c < 65536 ∧ ((ii x).toUInt32 % 65536).toInt32 = ii (c : Int) := by
  refine ⟨((ii x).toUInt32 % 65536).toNat, ?_, ?_⟩
  · rw [UInt32.toNat_mod]
    exact Nat.mod_lt _ (by decide)
  · apply Int32.toBitVec.inj
    show ((ii x).toUInt32 % 65536).toBitVec = BitVec.ofInt 32 _
    rw [BitVec.ofInt_natCast]
    apply BitVec.eq_of_toNat_eq
    rw [BitVec.toNat_ofNat, Nat.mod_eq_of_lt]
    · rfl
    · exact UInt32.toNat_lt _
/-- the law's script lies at the place 1040 -/
def LWX : Cx → Nat → (Nat → Int32) → Prop
  | (g, _, _, _, _, s, _, _, _, _, _, _, _), n, xs => va_X (adr g 1040) n xs s s.heap ∧ adr g 1040 < s.heap.size ∧ ¬ gA g (adr g 1040)
section R
variable {X : Cx} {cc : ByteArray} {own : String} {h0 mc0 ms0 : Nat} {a b pc : Nat} {L : List (Option V)} {st st0 : List V} {σ : Sg}
variable {y : MethodName} {cy : ByteArray} {maxL hy mc ms n idx : Nat} {ret : Option FieldType} {As : List V}
theorem gx_sld {N : Nat} {xs : Nat → Int32} {z : Int} (hx : CX X cc own h0 mc0 ms0) (hX : LWX X N xs) (d : decode cc pc = .ok (.iaload, 1)) (hz0 : 0 ≤ z) (hz1 : z < N) (hn : N < 5000) (kk : GJ X a b (pc + 1) L (.inl (xs z.toNat).toInt :: st) σ) : GJ X a b pc L (.inl z :: .inr 1040 :: st) σ := by
  obtain ⟨g, p, l, e, R, s, m, args, below, meth, c, Q, nL⟩ := X
  obtain ⟨h1, h2, -⟩ := hx
  obtain ⟨x1, x2, x3⟩ := hX
  intro H locs ls hLn hP hS hls
  have rz : rg z := ⟨by omega, by omega⟩
  refine va_sld (i := ii z) h1 h2 x1 x2 x3 hS (vp_in_ii rz hz0 hz1) d ?_
  rw [ii_clamp rz]
  have k9 := kk H locs ls hLn hP hS hls
  rw [List.map_cons, show vv g (.inl (xs z.toNat).toInt) = .int (ii (xs z.toNat).toInt) from rfl, ii_of] at k9
  exact k9
theorem gx_slen {N : Nat} {xs : Nat → Int32} (hx : CX X cc own h0 mc0 ms0) (hX : LWX X N xs) (d : decode cc pc = .ok (.arraylength, 1)) (kk : GJ X a b (pc + 1) L (.inl (N : Int) :: st) σ) : GJ X a b pc L (.inr 1040 :: st) σ := by
  obtain ⟨g, p, l, e, R, s, m, args, below, meth, c, Q, nL⟩ := X
  obtain ⟨h1, h2, -⟩ := hx
  obtain ⟨x1, x2, x3⟩ := hX
  intro H locs ls hLn hP hS hls
  refine va_slen h1 h2 x1 x2 x3 hS d ?_
  have k9 := kk H locs ls hLn hP hS hls
  rw [List.map_cons, show vv g (.inl (N : Int)) = .int (ii (N : Int)) from rfl, show ii (N : Int) = Int32.ofNat N from Int32.ofInt_eq_ofNat] at k9
  exact k9
/-- two equal numbers are compared -/
theorem gx_icmpS {x : Int} {off : Int} {tgt : Nat} (hx : CX X cc own h0 mc0 ms0) (d : decode cc pc = .ok (.if_icmp .eq off, 3)) (ht : (pc : Int) + off = (tgt : Int)) (kt : GJ X a b tgt L st σ) : GJ X a b pc L (.inl x :: .inl x :: st) σ := by
  obtain ⟨g, p, l, e, R, s, m, args, below, meth, c, Q, nL⟩ := X
  obtain ⟨h1, h2, -⟩ := hx
  intro H locs ls hLn hP hS hls
  exact lv_icmp_eq (x := ii x) (y := ii x) h1 h2 d ht (fun _ => kt H locs ls hLn hP hS hls) (fun h => absurd rfl h)
/-- the out cell is compared with an int that is the same -/
theorem gx_lcmpS {z : Int} {off : Int} {tgt : Nat} (hx : CX X cc own h0 mc0 ms0) (hz : σ 81 0 = (ii z).toInt) (d1 : decode cc pc = .ok (.laload, 1)) (d2 : decode cc (pc + 1) = .ok (.iload 7, 2)) (d3 : decode cc (pc + 1 + 2) = .ok (.i2l, 1)) (d4 : decode cc (pc + 1 + 2 + 1) = .ok (.lcmp, 1)) (d5 : decode cc (pc + 1 + 2 + 1 + 1) = .ok (.ifCond .eq off, 3)) (ht : ((pc + 1 + 2 + 1 + 1 : Nat) : Int) + off = (tgt : Int)) (hl : L[7]? = some (some (.inl z))) (kt : GJ X a b tgt L st σ) : GJ X a b pc L (.inl 0 :: .inr 81 :: st) σ := by
  obtain ⟨g, p, l, e, R, s, m, args, below, meth, c, Q, nL⟩ := X
  obtain ⟨h1, h2, h3, h4, h5, h6, h7, h8⟩ := hx
  intro H locs ls hLn hP hS hls
  refine va_lald (i := 0) h1 h2 h6.1 hP 81 3 (by rw [wl_at (by decide), enc_l (k := 81) (n := 1) rfl]) rfl (vp_in_0 (by decide)) d1 ?_
  refine lv_iload h1 h2 d2 (lvl_get (g := g) (v := .inl z) hls hl) ?_
  refine lv_i2l h1 h2 d3 (Int64.ofInt_int32ToInt (ii z)).symm ?_
  refine W.lcmp h1 h2 d4 ?_
  refine lv_if_eq h1 h2 d5 ht (fun _ => kt H locs ls hLn hP hS hls) (fun h => absurd ((lg_cmp_eq _ _).mpr ?_) h)
  show Int64.ofInt (σ 81 ((0 : Nat) : Int)) = _
  rw [show ((0 : Nat) : Int) = 0 from rfl, hz]
theorem gx_lcmpF {z : Int} {o1 o2 o3 : Int} {t1 t2 t3 : Nat} (hx : CX X cc own h0 mc0 ms0) (h01 : z = 0 ∨ z = 1) (hz : σ 81 0 = (ii z).toInt) (d1 : decode cc pc = .ok (.laload, 1)) (d2 : decode cc (pc + 1) = .ok (.iload 7, 2)) (d3 : decode cc (pc + 1 + 2) = .ok (.ifCond .eq o1, 3)) (e1 : ((pc + 1 + 2 : Nat) : Int) + o1 = (t1 : Int)) (d4 : decode cc (pc + 1 + 2 + 3) = .ok (.lconst 1, 1)) (d5 : decode cc (pc + 1 + 2 + 3 + 1) = .ok (.goto o2, 3)) (e2 : ((pc + 1 + 2 + 3 + 1 : Nat) : Int) + o2 = (t2 : Int)) (d6 : decode cc t1 = .ok (.lconst 0, 1)) (e3 : t1 + 1 = t2) (d7 : decode cc t2 = .ok (.lcmp, 1)) (d8 : decode cc (t2 + 1) = .ok (.ifCond .eq o3, 3)) (e4 : ((t2 + 1 : Nat) : Int) + o3 = (t3 : Int)) (hl : L[7]? = some (some (.inl z))) (kt : GJ X a b t3 L st σ) : GJ X a b pc L (.inl 0 :: .inr 81 :: st) σ := by
  obtain ⟨g, p, l, e, R, s, m, args, below, meth, c, Q, nL⟩ := X
  obtain ⟨h1, h2, h3, h4, h5, h6, h7, h8⟩ := hx
  intro H locs ls hLn hP hS hls
  refine va_lald (i := 0) h1 h2 h6.1 hP 81 3 (by rw [wl_at (by decide), enc_l (k := 81) (n := 1) rfl]) rfl (vp_in_0 (by decide)) d1 ?_
  refine lv_iload h1 h2 d2 (lvl_get (g := g) (v := .inl z) hls hl) ?_
  have e9 : Int64.ofInt (σ 81 (((0 : Int32).toNatClampNeg : Nat) : Int)) = Int64.ofInt (ii z).toInt := by
    rw [show (((0 : Int32).toNatClampNeg : Nat) : Int) = 0 from rfl, hz]
  rcases h01 with rfl | rfl
  · refine lv_if_eq h1 h2 d3 e1 (fun _ => ?_) (fun h => absurd (show ii 0 = 0 by decide) h)
    refine lv_lconst (v := 0) h1 h2 d6 (by decide) ?_
    subst e3
    refine W.lcmp h1 h2 d7 ?_
    refine lv_if_eq h1 h2 d8 e4 (fun _ => kt H locs ls hLn hP hS hls) (fun h => absurd ((lg_cmp_eq _ _).mpr ?_) h)
    exact e9.trans (by decide)
  · refine lv_if_eq h1 h2 d3 e1 (fun h => absurd h (show ¬ ii 1 = 0 by decide)) (fun _ => ?_)
    refine lv_lconst (v := 1) h1 h2 d4 (by decide) ?_
    refine lv_goto h1 h2 d5 e2 ?_
    refine W.lcmp h1 h2 d7 ?_
    refine lv_if_eq h1 h2 d8 e4 (fun _ => kt H locs ls hLn hP hS hls) (fun h => absurd ((lg_cmp_eq _ _).mpr ?_) h)
    exact e9.trans (by decide)
/-- as GJ, with a double in the locals 7 and 8 -/
def GD : Cx → UInt64 → Nat → Nat → Nat → List (Option V) → List V → Sg → Prop
  | (g, p, l, e, R, s, m, args, below, meth, c, Q, nL), r, cl, sl, pc, L, st, σ => ∀ (H : Heap) (locs : List Loc) (ls : Array Slot), L.length = nL → va_P g.1 vwCl (wl g σ) H → va_S (gA g) s.heap H locs → lv_has ls nL ((7, .double r) :: lvl g 0 L) → W p l e R s m args below meth c H locs cl sl Q (F0 m pc ls (st.map (vv g)))
theorem lv_tl {ls : Array Slot} {nL : Nat} {q : Nat × Value} {lv : List (Nat × Value)} (h : lv_has ls nL (q :: lv)) : lv_has ls nL lv := ⟨h.1, h.2.1, fun x hx => h.2.2 x (List.mem_cons_of_mem _ hx)⟩
theorem gx_callD {C : String} {T : u_T} {N ci k : Nat} {fl : List (Option Nat)} {post : UInt64 → Sg → Prop} (hx : CX X cc own h0 mc0 ms0) (K : KD X.1 X.2.2.1 y cy maxL hy mc ms (.inr k :: As) σ post) (hl : Cond.methodLink own idx y ∈ BIG) (hm : MWV y cy maxL (some .double) C n) (d : decode cc pc = .ok (.invokevirtual idx, 3)) (hk : k < 83) (hs : shp k = .inr (ci, fl)) (hc : vwCl[ci]? = some (C, T, N)) (hn : As.length = n) (hst : As.reverse ++ .inr k :: st = st0) (hcat : st.length ≤ 8) (hh : hy < h0) (hr : a + mc ≤ mc0 ∧ b + ms ≤ ms0) (d2 : decode cc (pc + 3) = .ok (.dstore 7, 2)) (h8 : 8 < L.length) (hL7 : L[7]? = some none) (hL8 : L[8]? = some none)
    (kk : ∀ r σ', post r σ' → GD X r (a + mc) (b + ms) (pc + 3 + 2) L st σ') : GJ X a b pc L st0 σ := by
  obtain ⟨g, p, l, e, R, s, m, args, below, meth, c, Q, nL⟩ := X
  obtain ⟨h1, h2, h3, h4, h5, h6, h7, h8'⟩ := hx
  subst h8'
  intro H locs ls hLn hP hS hls
  have hst9 : st0.map (vv g) = (As.map (vv g)).reverse ++ .ref (adr g k) :: st.map (vv g) := by rw [← hst, List.map_append, List.map_cons, List.map_reverse]; rfl
  have hg := goodV hl hm
  refine va_calld (va_runV (As := As.map (vv g)) (rest := st.map (vv g)) (b := adr g k) ⟨h1, h2, h3, h4, h5⟩ K (cwV n h5 hg rfl rfl rfl hm.2.2.2.2.1 (rm_fit hh hm.2.2.2.2.2)) ⟨pre_blind _ _ _, va_recv h6.1 hP (q := (C, T, N)) (q0 := k) hc (by rw [wl_at hk, enc_o hs]), fun U hU hW => ⟨rfl, h6.warm hW (by rw [hU]; exact hS), by rw [hU]; exact hP⟩⟩ rfl (by rw [List.length_map]; exact hn) hls.1 hst9 (lv_room (by rw [cat_sum]; exact hcat)) d hr) hS (fun q _ h => h) (fun q h => h) (fun r σ' t H1 locs1 ht hvm hw hB hz1 hk1 hS1 => ?_)
  rw [POST, ht] at hB
  refine lv_dstore h1 h2 d2 hls (by rw [← hLn]; omega) rfl (fun ls' hl' => kk r σ' hw H1 locs1 ls' hLn hB hS1 ⟨hl'.1, hl'.2.1, fun q hq => hl'.2.2 q ?_⟩)
  rcases List.mem_cons.mp hq with rfl | hq
  · exact List.mem_cons_self
  · refine List.mem_cons_of_mem _ (List.mem_filter.mpr ⟨hq, ?_⟩)
    obtain ⟨i, w⟩ := q
    obtain ⟨v, -, hv2, hv3⟩ := (lvl_mem L 0 i w).mp hq
    rw [Nat.sub_zero] at hv2
    have hc9 : w.category = 1 := by rw [hv3]; exact vv_cat v
    have n7 : i ≠ 7 := fun e9 => by rw [e9, hL7] at hv2; cases hv2
    have n8 : i ≠ 8 := fun e9 => by rw [e9, hL8] at hv2; cases hv2
    simp [n7, n8, hc9]
theorem gd_aload_n {r : UInt64} {k : Fin 4} {x : Nat} (hx : CX X cc own h0 mc0 ms0) (d : decode cc pc = .ok (.aload_n k, 1)) (hl : L[(k : Nat)]? = some (some (.inr x))) (kk : GD X r a b (pc + 1) L (.inr x :: st) σ) : GD X r a b pc L st σ := by
  obtain ⟨g, p, l, e, R, s, m, args, below, meth, c, Q, nL⟩ := X
  obtain ⟨h1, h2, -⟩ := hx
  intro H locs ls hLn hP hS hls
  exact lv_aload_n h1 h2 d rfl (lvl_get (g := g) (v := .inr x) (lv_tl hls) hl) (kk H locs ls hLn hP hS hls)
theorem gd_iload {r : UInt64} {i : Nat} {x : Int} (hx : CX X cc own h0 mc0 ms0) (d : decode cc pc = .ok (.iload i, 2)) (hl : L[i]? = some (some (.inl x))) (kk : GD X r a b (pc + 2) L (.inl x :: st) σ) : GD X r a b pc L st σ := by
  obtain ⟨g, p, l, e, R, s, m, args, below, meth, c, Q, nL⟩ := X
  obtain ⟨h1, h2, -⟩ := hx
  intro H locs ls hLn hP hS hls
  exact lv_iload h1 h2 d (lvl_get (g := g) (v := .inl x) (lv_tl hls) hl) (kk H locs ls hLn hP hS hls)
theorem gd_icmpS {r : UInt64} {x : Int} {off : Int} {tgt : Nat} (hx : CX X cc own h0 mc0 ms0) (d : decode cc pc = .ok (.if_icmp .eq off, 3)) (ht : (pc : Int) + off = (tgt : Int)) (kt : GD X r a b tgt L st σ) : GD X r a b pc L (.inl x :: .inl x :: st) σ := by
  obtain ⟨g, p, l, e, R, s, m, args, below, meth, c, Q, nL⟩ := X
  obtain ⟨h1, h2, -⟩ := hx
  intro H locs ls hLn hP hS hls
  exact lv_icmp_eq (x := ii x) (y := ii x) h1 h2 d ht (fun _ => kt H locs ls hLn hP hS hls) (fun h => absurd rfl h)
theorem gd_if_ne {r : UInt64} {x : Int} {off : Int} {tgt : Nat} (hx : CX X cc own h0 mc0 ms0) (d : decode cc pc = .ok (.ifCond .ne off, 3)) (ht : (pc : Int) + off = (tgt : Int)) (rx : rg x) (kt : ¬ x = 0 → GJ X a b tgt L st σ) (kf : x = 0 → GD X r a b (pc + 3) L st σ) : GD X r a b pc L (.inl x :: st) σ := by
  obtain ⟨g, p, l, e, R, s, m, args, below, meth, c, Q, nL⟩ := X
  obtain ⟨h1, h2, -⟩ := hx
  have ry : rg 0 := ⟨by decide, by decide⟩
  intro H locs ls hLn hP hS hls
  exact lv_if_ne (x := ii x) h1 h2 d ht (fun h => kt (fun h9 => h ((ii_eq rx ry).mpr h9)) H locs ls hLn hP hS (lv_tl hls)) (fun h => kf ((ii_eq rx ry).mp h) H locs ls hLn hP hS hls)
theorem gd_callI {r : UInt64} {C : String} {T : u_T} {N ci k : Nat} {fl : List (Option Nat)} {post : Int → Sg → Prop} (hx : CX X cc own h0 mc0 ms0) (K : KI X.1 X.2.2.1 y cy maxL ret hy mc ms (.inr k :: As) σ post) (hl : Cond.methodLink own idx y ∈ BIG) (hm : MWV y cy maxL ret C n) (d : decode cc pc = .ok (.invokevirtual idx, 3)) (hk : k < 83) (hs : shp k = .inr (ci, fl)) (hc : vwCl[ci]? = some (C, T, N)) (hn : As.length = n) (hst : As.reverse ++ .inr k :: st = st0) (hcat : st.length ≤ 8) (hh : hy < h0) (hr : a + mc ≤ mc0 ∧ b + ms ≤ ms0)
    (kk : ∀ z σ', post z σ' → GD X r (a + mc) (b + ms) (pc + 3) L (.inl z :: st) σ') : GD X r a b pc L st0 σ := by
  obtain ⟨g, p, l, e, R, s, m, args, below, meth, c, Q, nL⟩ := X
  obtain ⟨h1, h2, h3, h4, h5, h6, h7, h8⟩ := hx
  subst h8
  intro H locs ls hLn hP hS hls
  have hst9 : st0.map (vv g) = (As.map (vv g)).reverse ++ .ref (adr g k) :: st.map (vv g) := by rw [← hst, List.map_append, List.map_cons, List.map_reverse]; rfl
  have hg := goodV hl hm
  refine va_calli (va_runV (As := As.map (vv g)) (rest := st.map (vv g)) (b := adr g k) ⟨h1, h2, h3, h4, h5⟩ K (cwV n h5 hg rfl rfl rfl hm.2.2.2.2.1 (rm_fit hh hm.2.2.2.2.2)) ⟨pre_blind _ _ _, va_recv h6.1 hP (q := (C, T, N)) (q0 := k) hc (by rw [wl_at hk, enc_o hs]), fun U hU hW => ⟨rfl, h6.warm hW (by rw [hU]; exact hS), by rw [hU]; exact hP⟩⟩ rfl (by rw [List.length_map]; exact hn) hls.1 hst9 (lv_room (by rw [cat_sum]; exact hcat)) d hr) hS (fun q _ h => h) (fun q h => h) (fun z9 σ' t H1 locs1 ht hvm hw hB hz1 hk1 hS1 => ?_)
  obtain ⟨z, rfl, hpost⟩ := hw
  rw [POST, ht] at hB
  exact kk z σ' hpost H1 locs1 ls hLn hB hS1 hls
/-- the two doubles are the same -/
theorem gd_dcmpS {r : UInt64} {off : Int} {tgt : Nat} (hx : CX X cc own h0 mc0 ms0) (hr : σ 82 0 = (r.toNat : Int)) (hcmp : Op.cmpValue (FP.dcmp r r) .l = 0) (d0 : decode cc pc = .ok (.aload 4, 2)) (d1 : decode cc (pc + 2) = .ok (.iconst 0, 1)) (d2 : decode cc (pc + 2 + 1) = .ok (.daload, 1)) (d3 : decode cc (pc + 2 + 1 + 1) = .ok (.dload 7, 2)) (d4 : decode cc (pc + 2 + 1 + 1 + 2) = .ok (.dcmp .l, 1)) (d5 : decode cc (pc + 2 + 1 + 1 + 2 + 1) = .ok (.ifCond .eq off, 3)) (ht : ((pc + 2 + 1 + 1 + 2 + 1 : Nat) : Int) + off = (tgt : Int)) (hl : L[4]? = some (some (.inr 82))) (kt : GJ X a b tgt L st σ) : GD X r a b pc L st σ := by
  obtain ⟨g, p, l, e, R, s, m, args, below, meth, c, Q, nL⟩ := X
  obtain ⟨h1, h2, h3, h4, h5, h6, h7, h8⟩ := hx
  intro H locs ls hLn hP hS hls
  refine lv_aload h1 h2 d0 (lvl_get (g := g) (v := .inr 82) (lv_tl hls) hl) ?_
  refine lv_iconst (v := 0) h1 h2 d1 (by decide) ?_
  refine va_dald (i := 0) h1 h2 h6.1 hP 82 4 (by rw [wl_at (by decide), enc_d (k := 82) (n := 1) rfl]) rfl (vp_in_0 (by decide)) d2 ?_
  refine lv_dload h1 h2 d3 (lv_at hls 0 rfl) ?_
  refine lv_dcmp h1 h2 d4 ?_
  have e9 : UInt64.ofNat (σ 82 (((0 : Int32).toNatClampNeg : Nat) : Int)).toNat = r := by
    rw [show (((0 : Int32).toNatClampNeg : Nat) : Int) = 0 from rfl, hr]
    simp
  rw [e9, hcmp]
  exact lv_if_eq h1 h2 d5 ht (fun _ => kt H locs ls hLn hP hS (lv_tl hls)) (fun h => absurd rfl h)
end R
end LAWROWS
