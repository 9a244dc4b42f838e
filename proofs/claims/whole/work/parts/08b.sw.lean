/-! Switches, Math.max and min, arraycopy -/
section SW
variable {X : Cx} {cc : ByteArray} {own : String} {h0 mc0 ms0 : Nat} {a b pc : Nat} {L : List (Option V)} {st : List V} {σ : Sg}
theorem gx_tableIn {dflt lo hi : Int} {offs : Array Int} {len : Nat} {x off : Int} {tgt : Nat} (hx : CX X cc own h0 mc0 ms0) (d : decode cc pc = .ok (.tableswitch dflt lo hi offs, len)) (rx : rg x) (h1 : lo ≤ x) (h2 : x ≤ hi) (ho : offs[(x - lo).toNat]? = some off) (ht : (pc : Int) + off = (tgt : Int)) (kk : GJ X a b tgt L st σ) : GJ X a b pc L (.inl x :: st) σ := by
  obtain ⟨g, p, l, e, R, s, m, args, below, meth, c, Q, nL⟩ := X
  obtain ⟨g1, g2, -⟩ := hx
  intro H locs ls hLn hP hS hls
  exact lv_tableIn (x := ii x) (off := off) g1 g2 d (by rw [ii_toInt rx]; omega) (by rw [ii_toInt rx]; omega) (by rw [ii_toInt rx]; exact ho) ht (kk H locs ls hLn hP hS hls)
theorem gx_tableOut {dflt lo hi : Int} {offs : Array Int} {len : Nat} {x : Int} {tgt : Nat} (hx : CX X cc own h0 mc0 ms0) (d : decode cc pc = .ok (.tableswitch dflt lo hi offs, len)) (rx : rg x) (h1 : x < lo ∨ hi < x) (ht : (pc : Int) + dflt = (tgt : Int)) (kk : GJ X a b tgt L st σ) : GJ X a b pc L (.inl x :: st) σ := by
  obtain ⟨g, p, l, e, R, s, m, args, below, meth, c, Q, nL⟩ := X
  obtain ⟨g1, g2, -⟩ := hx
  intro H locs ls hLn hP hS hls
  exact lv_tableOut (x := ii x) g1 g2 d (by rw [ii_toInt rx]; exact h1) ht (kk H locs ls hLn hP hS hls)
theorem gx_lookup {dflt : Int} {ps : Array (Int × Int)} {len : Nat} {x off : Int} {tgt : Nat} (hx : CX X cc own h0 mc0 ms0) (d : decode cc pc = .ok (.lookupswitch dflt ps, len)) (rx : rg x) (hp : (ps.toList.zip (ps.toList.drop 1)).all (fun (a, next) => a.1 < next.1) = true) (ho : Op.lookupswitch.offset ps.toList dflt x = off) (ht : (pc : Int) + off = (tgt : Int)) (kk : GJ X a b tgt L st σ) : GJ X a b pc L (.inl x :: st) σ := by
  obtain ⟨g, p, l, e, R, s, m, args, below, meth, c, Q, nL⟩ := X
  obtain ⟨g1, g2, -⟩ := hx
  intro H locs ls hLn hP hS hls
  exact lv_lookup (x := ii x) (off := off) g1 g2 d hp (by rw [ii_toInt rx]; exact ho) ht (kk H locs ls hLn hP hS hls)
/-- the words of a static method of the JDK's that the kit knows -/
theorem gx_max {idx : Nat} {x y : Int} (hx : CX X cc own h0 mc0 ms0) (hl : Cond.methodLink own idx Lib.Math.max.name ∈ BIG) (w1 : Cond.static Lib.Math.max.name ∈ BIG) (w2 : Cond.initialized "java/lang/Math" ∈ BIG) (w3 : Cond.code Lib.Math.max.name Lib.Math.max.code 2 (some .int) ∈ BIG) (d : decode cc pc = .ok (.invokestatic idx, 3)) (rx : rg x) (ry : rg y) (hc : st.length ≤ 8) (ha : a ≤ mc0) (hb : b ≤ ms0) (kk : GJ X a b (pc + 3) L (.inl (if x < y then y else x) :: st) σ) : GJ X a b pc L (.inl y :: .inl x :: st) σ := by
  obtain ⟨g, p, l, e, R, s, m, args, below, meth, c, Q, nL⟩ := X
  obtain ⟨h1, h2, h3, h4, h5, h6, h7, h8⟩ := hx
  subst h8
  intro H locs ls hLn hP hS hls
  refine va_mmax (x := ii x) (y := ii y) h1 h2 (h3.trans hls.1.symm) h4 (h5 _ hl) (h5 _ w1) (h5 _ w2) (h5 _ w3) (by show 1 ≤ 8 + h0; omega) (by rw [cat_sum]; show _ ≤ 300 + 60 * h0; omega) ha hb d ?_
  have e9 : (if ii x < ii y then ii y else ii x) = ii (if x < y then y else x) := by
    by_cases h : x < y
    · rw [if_pos h, if_pos ((ii_lt rx ry).mpr h)]
    · rw [if_neg h, if_neg (fun h9 => h ((ii_lt rx ry).mp h9))]
  rw [e9]
  exact kk H locs ls hLn hP hS hls
theorem gx_min {idx : Nat} {x y : Int} (hx : CX X cc own h0 mc0 ms0) (hl : Cond.methodLink own idx Lib.Math.min.name ∈ BIG) (w1 : Cond.static Lib.Math.min.name ∈ BIG) (w2 : Cond.initialized "java/lang/Math" ∈ BIG) (w3 : Cond.code Lib.Math.min.name Lib.Math.min.code 2 (some .int) ∈ BIG) (d : decode cc pc = .ok (.invokestatic idx, 3)) (rx : rg x) (ry : rg y) (hc : st.length ≤ 8) (ha : a ≤ mc0) (hb : b ≤ ms0) (kk : GJ X a b (pc + 3) L (.inl (if y < x then y else x) :: st) σ) : GJ X a b pc L (.inl y :: .inl x :: st) σ := by
  obtain ⟨g, p, l, e, R, s, m, args, below, meth, c, Q, nL⟩ := X
  obtain ⟨h1, h2, h3, h4, h5, h6, h7, h8⟩ := hx
  subst h8
  intro H locs ls hLn hP hS hls
  refine va_mmin (x := ii x) (y := ii y) h1 h2 (h3.trans hls.1.symm) h4 (h5 _ hl) (h5 _ w1) (h5 _ w2) (h5 _ w3) (by show 1 ≤ 8 + h0; omega) (by rw [cat_sum]; show _ ≤ 300 + 60 * h0; omega) ha hb d ?_
  have e9 : ∀ z : Int32, z = ii (if y < x then y else x) → GJ (g, p, l, e, rmH h0 mc0 ms0, s, m, args, below, meth, c, Q, nL) a b (pc + 3) L (.inl (if y < x then y else x) :: st) σ → W p l e (rmH h0 mc0 ms0) s m args below meth c H locs a b Q (F0 m (pc + 3) ls (.int z :: st.map (vv g))) := fun z hz k => by rw [hz]; exact k H locs ls hLn hP hS hls
  refine e9 _ ?_ kk
  by_cases h : y < x
  · rw [if_pos h]
    first | rw [if_pos ((ii_lt ry rx).mpr h)] | rw [if_neg (fun h9 => absurd ((ii_le rx ry).mp h9) (by omega))]
  · rw [if_neg h]
    first
    | rw [if_neg (fun h9 => h ((ii_lt ry rx).mp h9))]
    | rw [if_pos ((ii_le rx ry).mpr (by omega))]
/-- System.arraycopy of whole ints from the start of one array to the start of another -/
theorem gx_copy {idx k1 k2 n1 n2 n : Nat} (hx : CX X cc own h0 mc0 ms0) (hl : Cond.methodLink own idx arraycopyName ∈ BIG) (w1 : Cond.native arraycopyName ∈ BIG) (w2 : Cond.static arraycopyName ∈ BIG) (w3 : Cond.initialized "java/lang/System" ∈ BIG) (d : decode cc pc = .ok (.invokestatic idx, 3)) (hk1 : k1 < 83) (hs1 : shp k1 = .inl (0, n1)) (hk2 : k2 < 83) (hs2 : shp k2 = .inl (0, n2)) (hn1 : n ≤ n1) (hn2 : n ≤ n2) (hb1 : n < 5000) (hc : st.length ≤ 8)
    (kk : GJ X a b (pc + 3) L st (fun k q => if k = k2 ∧ 0 ≤ q ∧ q < (n : Int) then σ k1 q else σ k q)) : GJ X a b pc L (.inl (n : Int) :: .inl 0 :: .inr k2 :: .inl 0 :: .inr k1 :: st) σ := by
  obtain ⟨g, p, l, e, R, s, m, args, below, meth, c, Q, nL⟩ := X
  obtain ⟨h1, h2, h3, h4, h5, h6, h7, h8⟩ := hx
  subst h8
  intro H locs ls hLn hP hS hls
  have rn : rg (n : Int) := ⟨by omega, by omega⟩
  have z0 : ¬ (ii 0 < 0) := by decide
  have zc : (ii 0).toNatClampNeg = 0 := by decide
  have nc : (ii (n : Int)).toNatClampNeg = n := by rw [ii_clamp rn]; omega
  have nn : ¬ (ii (n : Int) < 0) := by
    intro h9
    rw [show (0 : Int32) = ii 0 from rfl, ii_lt rn ⟨by decide, by decide⟩] at h9
    omega
  have hroom : ((st.map (vv g)).map fun v => v.category).sum + (nativeFrameWords "java/lang/System" "arraycopy" 5 + 11) ≤ (rmH h0 mc0 ms0).locals := by
    have h9 : nativeFrameWords "java/lang/System" "arraycopy" 5 + 11 ≤ 200 := by decide +kernel
    rw [cat_sum]
    show _ ≤ 300 + 60 * h0
    omega
  have hfr : 1 ≤ (rmH h0 mc0 ms0).frames := by show 1 ≤ 8 + h0; omega
  refine va_copyi (n := ii (n : Int)) (sp := ii 0) (dp := ii 0) (D := g.1) (cl := vwCl) (ws := wl g σ) (a := adr g k2) (a0 := adr g k1) (ty := .int) h1 h2 (h3.trans hls.1.symm) h4 (h5 _ hl) (h5 _ w1) (h5 _ w2) (h5 _ w3) h6.1 hP (h6.D σ) hS k1 k2 0 0 (by rw [wl_at hk1, enc_a hs1 (by decide)]) (by rw [wl_at hk2, enc_a hs2 (by decide)]) rfl rfl rfl z0 z0 nn (by rw [zc, nc]; omega) (by rw [zc, nc]; omega) (fun i _ => rfl) hfr hroom d (fun H1 locs1 hP1 _ hS1 => ?_)
  rw [wl_set (τ := fun k q => if k = k2 ∧ 0 ≤ q ∧ q < (n : Int) then σ k1 q else σ k q) hk2 ?_ ?_] at hP1
  · exact kk H1 locs1 ls hLn hP1 hS1 hls
  · rw [enc_a hs2 (by decide), zc, nc]
    congr 4
    funext j
    unfold va_cpy
    by_cases hj : j < n
    · rw [if_pos ⟨rfl, by omega, by omega⟩, if_pos ⟨Nat.zero_le _, by omega⟩, Nat.sub_zero, Nat.zero_add]
    · rw [if_neg (by omega), if_neg (by omega)]
  · intro j hj
    funext q
    rw [if_neg (fun h9 => hj h9.1)]
end SW
