/-! Doubles: contracts, rows -/
section DBL2
def KXD (g : Gm) (l : Launch) (y : MethodName) (cc : ByteArray) (maxL : Nat) (h mc ms : Nat) (As : List V) (σ : Sg) (post : UInt64 → Sg → Prop) (px : String → Sg → Prop) : Prop :=
  vx_Met l y (Cond.code y cc maxL (some .double) :: BIG) (rmH h mc ms) (va_Pc (As.map (vv g)) (PRE g σ)) (va_Qd post (POST g) (gA g)) (XX g px) mc ms (gA g)
def KD (g : Gm) (l : Launch) (y : MethodName) (cc : ByteArray) (maxL : Nat) (h mc ms : Nat) (As : List V) (σ : Sg) (post : UInt64 → Sg → Prop) : Prop :=
  Met l y (Cond.code y cc maxL (some .double) :: BIG) (rmH h mc ms) (va_Pc (As.map (vv g)) (PRE g σ)) (va_Qd post (POST g) (gA g)) mc ms (gA g)
/-- the end: an int by an int, as doubles -/
def RETA (X : Cx) (cc : ByteArray) (mc ms : Nat) (post : UInt64 → Sg → Prop) : Prop := ∀ (pc : Nat) (L : List (Option V)) (s n : Nat) (σ : Sg) (k : Fin 4) (a b : Nat), a ≤ mc → b ≤ ms → decode cc pc = .ok (.i2d, 1) → decode cc (pc + 1) = .ok (.iload_n k, 1) → decode cc (pc + 1 + 1) = .ok (.i2d, 1) → decode cc (pc + 1 + 1 + 1) = .ok (.ddiv, 1) → decode cc (pc + 1 + 1 + 1 + 1) = .ok (.dreturn, 1) → L[(k : Nat)]? = some (some (.inl (n : Int))) → vf_n64 (avD s n) → post (avD s n) σ → GJ X a b pc L [.inl (s : Int)] σ
def RET0 (X : Cx) (cc : ByteArray) (mc ms : Nat) (post : UInt64 → Sg → Prop) : Prop := ∀ (pc : Nat) (L : List (Option V)) (σ : Sg) (a b : Nat), a ≤ mc → b ≤ ms → decode cc pc = .ok (.dconst 0, 1) → decode cc (pc + 1) = .ok (.dreturn, 1) → post FP.dconst0 σ → GJ X a b pc L [] σ
theorem startXD {g : Gm} {l : Launch} {y : MethodName} {cc : ByteArray} {maxL h mc ms : Nat} {As : List V} {σ : Sg} {own : String} {post : UInt64 → Sg → Prop} {px : String → Sg → Prop} (hl0 : l.stackTraces = false) (hy : plainName y.cls = true) (ho : y.cls = own) (hA : As.length ≤ maxL)
    (body : ∀ X : Cx, CX X cc own h mc ms → X.1 = g → X.2.2.1 = l → RETA X cc mc ms post → QX X mc ms px → GJ X 0 0 0 (As.map some ++ List.replicate (maxL - As.length) none) [] σ) : KXD g l y cc maxL h mc ms As σ post px := by
  refine vx_ofW (cc := cc) (maxL := maxL) (ret := some .double) hy rfl ?_
  intro p e s m args below meth c s₁ B hml hxt hv
  obtain ⟨rfl, hok, hP⟩ := hv
  have hts := atoms_spec (ws := Cond.code y cc maxL (some .double) :: BIG) B.pre
  have hown : s.vm.findClass own = some m.cls := by rw [← ho]; exact findClass_of_methodNamed B.named
  have hl := lv_entry (As.map (vv g)) (n := maxL) (by rw [sl_len]; exact hA)
  rw [lg_entry_eq]
  have hr := B.returns
  have hlocks := B.notSynchronized
  have key := body (g, p, l, e, rmH h mc ms, s, m, (As.map (vv g)).toArray, below, meth, c, vx_MQ below (va_Qd post (POST g) (gA g)) (XX g px) (As.map (vv g)).toArray s mc ms (gA g), maxL) ⟨B.exec, B.bytes, hml, hown, fun w hw => hts w (List.mem_cons_of_mem _ hw), hok, hlocks, rfl⟩ rfl rfl
    (fun pc L s n σ k a b ha hb d1 d2 d3 d4 d5 hL hne hpost H locs ls _ hP hS hls => by
      refine W.widen ha hb (vx_ret ?_)
      refine lv_i2d B.exec B.bytes d1 ?_
      refine lv_iload_n B.exec B.bytes d2 rfl (lvl_get (g := g) (v := .inl (n : Int)) hls hL) ?_
      refine lv_i2d B.exec B.bytes d3 ?_
      refine lv_ddiv B.exec B.bytes d4 hne ?_
      exact W.dret (v := avD s n) B.exec B.bytes hr (fun t ht hW => ⟨⟨avD s n, σ, rfl, hpost, by rw [POST, ht]; exact hP⟩, hS.F ht⟩) hS.2.2 d5 hlocks)
    ⟨hl0, hxt, _, rfl⟩
  exact key s.heap [] _ (by simp; omega) hP va_S.rf (lvl_start As _ hl)
theorem startD {g : Gm} {l : Launch} {y : MethodName} {cc : ByteArray} {maxL h mc ms : Nat} {As : List V} {σ : Sg} {own : String} {post : UInt64 → Sg → Prop} (hy : plainName y.cls = true) (ho : y.cls = own) (hA : As.length ≤ maxL)
    (body : ∀ X : Cx, CX X cc own h mc ms → X.1 = g → X.2.2.1 = l → RETA X cc mc ms post → RET0 X cc mc ms post → GJ X 0 0 0 (As.map some ++ List.replicate (maxL - As.length) none) [] σ) : KD g l y cc maxL h mc ms As σ post := by
  refine Met.ofW (cc := cc) (maxL := maxL) (ret := some .double) hy rfl ?_
  intro p e s m args below meth c s₁ B hml hv
  obtain ⟨rfl, hok, hP⟩ := hv
  have hts := atoms_spec (ws := Cond.code y cc maxL (some .double) :: BIG) B.pre
  have hown : s.vm.findClass own = some m.cls := by rw [← ho]; exact findClass_of_methodNamed B.named
  have hl := lv_entry (As.map (vv g)) (n := maxL) (by rw [sl_len]; exact hA)
  rw [lg_entry_eq]
  have hr := B.returns
  have hlocks := B.notSynchronized
  have key := body (g, p, l, e, rmH h mc ms, s, m, (As.map (vv g)).toArray, below, meth, c, MQ below (va_Qd post (POST g) (gA g)) (As.map (vv g)).toArray s mc ms (gA g), maxL) ⟨B.exec, B.bytes, hml, hown, fun w hw => hts w (List.mem_cons_of_mem _ hw), hok, hlocks, rfl⟩ rfl rfl
    (fun pc L s n σ k a b ha hb d1 d2 d3 d4 d5 hL hne hpost H locs ls _ hP hS hls => by
      refine W.widen ha hb ?_
      refine lv_i2d B.exec B.bytes d1 ?_
      refine lv_iload_n B.exec B.bytes d2 rfl (lvl_get (g := g) (v := .inl (n : Int)) hls hL) ?_
      refine lv_i2d B.exec B.bytes d3 ?_
      refine lv_ddiv B.exec B.bytes d4 hne ?_
      exact W.dret (v := avD s n) B.exec B.bytes hr (fun t ht hW => ⟨⟨avD s n, σ, rfl, hpost, by rw [POST, ht]; exact hP⟩, hS.F ht⟩) hS.2.2 d5 hlocks)
    (fun pc L σ a b ha hb d1 d2 hpost H locs ls _ hP hS hls => by
      refine W.widen ha hb ?_
      refine lv_dconst0 B.exec B.bytes d1 ?_
      exact W.dret (v := FP.dconst0) B.exec B.bytes hr (fun t ht hW => ⟨⟨FP.dconst0, σ, rfl, hpost, by rw [POST, ht]; exact hP⟩, hS.F ht⟩) hS.2.2 d2 hlocks)
  exact key s.heap [] _ (by simp; omega) hP va_S.rf (lvl_start As _ hl)
section DROWS
variable {X : Cx} {cc : ByteArray} {own : String} {h0 mc0 ms0 : Nat} {a b pc : Nat} {L : List (Option V)} {st st0 : List V} {σ : Sg}
variable {y : MethodName} {cy : ByteArray} {maxL hy mc ms n idx : Nat} {As : List V}
theorem enc_upd_d {g : Gm} {r : UInt64} : enc g (upd2 σ 82 0 (r.toNat : Int)) 82 = .inl (g.2.2.1 4, 1, .inr (.inr (.inr (.inl (vf_upd (fun j => UInt64.ofNat (σ 82 (j : Int)).toNat) 0 r))))) := by
  rw [enc_d (k := 82) (n := 1) rfl]
  congr 7
  funext j
  unfold vf_upd upd2
  by_cases hj : j = 0
  · subst hj
    rw [if_pos ⟨rfl, rfl⟩]
    simp
  · rw [if_neg (by omega), if_neg hj]
/-- the average is asked for, and stored -/
theorem gx_callCD {C : String} {T : u_T} {N ci k : Nat} {fl : List (Option Nat)} {hh : List (Nat × Nat × Nat × Nat)} {post : UInt64 → Sg → Prop} {px : String → Sg → Prop} (hx : CX X cc RL h0 mc0 ms0) (hq : CTB X hh) (K : KXD X.1 X.2.2.1 y cy maxL hy mc ms (.inr k :: As) σ post px) (hl : Cond.methodLink RL idx y ∈ BIG) (hm : MWV y cy maxL (some .double) C n) (d : decode cc pc = .ok (.invokevirtual idx, 3)) (hk : k < 83) (hs : shp k = .inr (ci, fl)) (hc : vwCl[ci]? = some (C, T, N)) (hn : As.length = n) (hst : As.reverse ++ .inr k :: .inl 0 :: .inr 82 :: st = st0) (hcat : st.length ≤ 6) (hh9 : hy < h0) (hr : a + mc ≤ mc0 ∧ b + ms ≤ ms0) (d2 : decode cc (pc + 3) = .ok (.dastore, 1))
    (kx : ∀ E σ', px E σ' → ∃ (j : Nat) (t : Nat × Nat × Nat × Nat) (i len : Nat), hh[j]? = some t ∧ hOK hh pc j E = true ∧ E ∈ excN ∧ isAst cc t.2.2.1 i len ∧ i < L.length ∧ GJ X (a + mc) (b + ms) (t.2.2.1 + len) (List.replicate L.length none) [] σ')
    (kk : ∀ r σ', post r σ' → GJ X (a + mc) (b + ms) (pc + 3 + 1) L st (upd2 σ' 82 0 (r.toNat : Int))) : GJ X a b pc L st0 σ := by
  obtain ⟨g, p, l, e, R, s, m, args, below, meth, c, Q, nL⟩ := X
  obtain ⟨h1, h2, h3, h4, h5, h6, h7, h8⟩ := hx
  obtain ⟨q1, q2⟩ := hq
  subst h8
  intro H locs ls hLn hP hS hls
  have hst9 : st0.map (vv g) = (As.map (vv g)).reverse ++ .ref (adr g k) :: ((.inl 0 :: .inr 82 :: st : List V).map (vv g)) := by rw [← hst, List.map_append, List.map_cons, List.map_reverse]; rfl
  have hg := goodV hl hm
  refine vx_calld (vx_runV (As := As.map (vv g)) (rest := (.inl 0 :: .inr 82 :: st : List V).map (vv g)) (b := adr g k) ⟨h1, h2, h3, h4, h5⟩ K (cwV n h5 hg rfl rfl rfl hm.2.2.2.2.1 (rm_fit hh9 hm.2.2.2.2.2)) ⟨pre_blind _ _ _, va_recv h6.1 hP (q := (C, T, N)) (q0 := k) hc (by rw [wl_at hk, enc_o hs]), fun U hU hW => ⟨rfl, h6.warm hW (by rw [hU]; exact hS), by rw [hU]; exact hP⟩⟩ rfl (by rw [List.length_map]; exact hn) hls.1 hst9 (lv_room (by rw [cat_sum]; simp only [List.length_cons]; omega)) d hr) hS (fun q _ h => h) (fun q h => h) (fun q _ h => h) (fun E ce q9 u t H1 locs1 ht hvm hw hB hz1 hk1 hS1 hce hcv hcl => ?_) (fun r σ' t H1 locs1 ht hvm hw hB hz1 hk1 hS1 => ?_)
  · obtain ⟨E9, σ'⟩ := u
    obtain ⟨rfl, hB⟩ := hB
    rw [POST, ht] at hB
    obtain ⟨j, t9, i9, n9, k1, k2, k3, k4, k5, k6⟩ := kx _ σ' hw
    refine hx_catch h4 h5 h6 q1 q2 k1 k2 k3 hce hcv hcl ?_
    exact hx_store h1 h2 k4 (hLn ▸ k5) hls (fun ls' hl' => k6 H1 locs1 ls' (by rw [List.length_replicate]; exact hLn) hB hS1 (by rw [lvl_none]; exact hl'))
  · rw [POST, ht] at hB
    refine va_dast h1 h2 h6.1 hB (h6.D σ') hS1 82 4 (by rw [wl_at (by decide), enc_d (k := 82) (n := 1) rfl]) rfl (vp_in_0 (by decide)) d2 (fun H2 locs2 hP2 _ hS2 => ?_)
    have he : (wl g σ').set 82 (adr g 82, .inl (g.2.2.1 4, 1, .inr (.inr (.inr (.inl (vf_upd (fun j => UInt64.ofNat (σ' 82 (j : Int)).toNat) (0 : Int32).toNatClampNeg r)))))) = wl g (upd2 σ' 82 0 (r.toNat : Int)) := wl_set (by decide) enc_upd_d upd2_other
    exact kk r σ' hw H2 locs2 ls hLn (Eq.mp (congrArg (fun w => va_P g.1 vwCl w H2) he) hP2) hS2 hls
end DROWS
end DBL2
