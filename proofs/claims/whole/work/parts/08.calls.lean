/-! Beginnings, ends and calls over the integer machine -/
section CALLS
theorem GJ.widen {X : Cx} {a b a' b' pc : Nat} {L : List (Option V)} {st : List V} {σ : Sg} (h1 : a ≤ a') (h2 : b ≤ b') (k : GJ X a' b' pc L st σ) : GJ X a b pc L st σ := by
  obtain ⟨g, p, l, e, R, s, m, args, below, meth, c, Q, nL⟩ := X
  intro H locs ls hLn hP hS hls
  exact W.widen h1 h2 (k H locs ls hLn hP hS hls)
theorem lvl_start {g : Gm} {ls : Array Slot} {n : Nat} (As : List V) (j : Nat) (h : lv_has ls n (lv_args 0 (As.map (vv g)))) : lv_has ls n (lvl g 0 (As.map some ++ List.replicate j none)) := by
  have key : ∀ (B : List V) (i : Nat) (q : Nat × Value), q ∈ lvl g i (B.map some ++ List.replicate j none) → q ∈ lv_args i (B.map (vv g)) := by
    intro B
    induction B with
    | nil =>
      intro i q hq
      obtain ⟨x, w⟩ := q
      obtain ⟨v, h1, h2, h3⟩ := (lvl_mem _ i x w).mp hq
      simp only [List.map_nil, List.nil_append, List.getElem?_replicate] at h2
      split at h2 <;> simp at h2
    | cons v B ih =>
      intro i q hq
      simp only [List.map_cons, List.cons_append, lvl, lv_args] at hq ⊢
      rcases List.mem_cons.mp hq with h | h
      · rw [h]; exact List.mem_cons_self
      · refine List.mem_cons_of_mem _ ?_
        rw [if_neg (by rw [vv_cat]; decide)]
        exact ih (i + 1) q h
  exact ⟨h.1, h.2.1, fun q hq => h.2.2 q (key As 0 q hq)⟩
theorem sl_len {g : Gm} : ∀ (As : List V), (lg_sl (As.map (vv g))).length = As.length
  | [] => rfl
  | v :: As => by
    have ih := sl_len (g := g) As
    unfold lg_sl at ih ⊢
    rw [List.map_cons, List.flatMap_cons, List.length_append, ih, vv_cat]
    simp
    omega
section STARTS
variable {g : Gm} {l : Launch} {y : MethodName} {cc : ByteArray} {maxL h mc ms : Nat} {As : List V} {σ : Sg} {own : String}
theorem startI {ret : Option FieldType} {post : Int → Sg → Prop} (hy : plainName y.cls = true) (ho : y.cls = own) (hA : As.length ≤ maxL)
    (body : ∀ X : Cx, CX X cc own h mc ms → X.1 = g → X.2.2.1 = l → RETI X cc ret mc ms post → GJ X 0 0 0 (As.map some ++ List.replicate (maxL - As.length) none) [] σ) : KI g l y cc maxL ret h mc ms As σ post := by
  refine Met.ofW (cc := cc) (maxL := maxL) (ret := ret) hy rfl ?_
  intro p e s m args below meth c s₁ B hml hv
  obtain ⟨rfl, hok, hP⟩ := hv
  have hts := atoms_spec (ws := Cond.code y cc maxL ret :: BIG) B.pre
  have hown : s.vm.findClass own = some m.cls := by rw [← ho]; exact findClass_of_methodNamed B.named
  have hl := lv_entry (As.map (vv g)) (n := maxL) (by rw [sl_len]; exact hA)
  rw [lg_entry_eq]
  have hr := B.returns
  have hlocks := B.notSynchronized
  have key := body (g, p, l, e, rmH h mc ms, s, m, (As.map (vv g)).toArray, below, meth, c, MQ below (va_Qi (fun r σ' => ∃ z, r = ii z ∧ post z σ') (POST g) (gA g)) (As.map (vv g)).toArray s mc ms (gA g), maxL) ⟨B.exec, B.bytes, hml, hown, fun w hw => hts w (List.mem_cons_of_mem _ hw), hok, hlocks, rfl⟩ rfl rfl
    (fun pc L z σ ty a b ha hb hd hret hn hpost H locs ls _ hP hS _ => W.widen ha hb (W.zret (ty := ty) B.exec B.bytes (by rw [hr]; exact hret) hn (fun t ht hW => ⟨⟨ii z, σ, rfl, ⟨z, rfl, hpost⟩, by rw [POST, ht]; exact hP⟩, hS.F ht⟩) hS.2.2 hd hlocks))
  exact key s.heap [] _ (by simp; omega) hP va_S.rf (lvl_start As _ hl)
theorem startV {post : Sg → Prop} (hy : plainName y.cls = true) (ho : y.cls = own) (hA : As.length ≤ maxL)
    (body : ∀ X : Cx, CX X cc own h mc ms → X.1 = g → X.2.2.1 = l → RETV X cc mc ms post → GJ X 0 0 0 (As.map some ++ List.replicate (maxL - As.length) none) [] σ) : KV g l y cc maxL h mc ms As σ post := by
  refine Met.ofW (cc := cc) (maxL := maxL) (ret := none) hy rfl ?_
  intro p e s m args below meth c s₁ B hml hv
  obtain ⟨rfl, hok, hP⟩ := hv
  have hts := atoms_spec (ws := Cond.code y cc maxL none :: BIG) B.pre
  have hown : s.vm.findClass own = some m.cls := by rw [← ho]; exact findClass_of_methodNamed B.named
  have hl := lv_entry (As.map (vv g)) (n := maxL) (by rw [sl_len]; exact hA)
  rw [lg_entry_eq]
  have hr := B.returns
  have hlocks := B.notSynchronized
  have key := body (g, p, l, e, rmH h mc ms, s, m, (As.map (vv g)).toArray, below, meth, c, MQ below (va_Qv (fun σ' => post σ') (POST g) (gA g)) (As.map (vv g)).toArray s mc ms (gA g), maxL) ⟨B.exec, B.bytes, hml, hown, fun w hw => hts w (List.mem_cons_of_mem _ hw), hok, hlocks, rfl⟩ rfl rfl
    (fun pc L σ a b ha hb hd hpost H locs ls _ hP hS _ => W.widen ha hb (W.vret B.exec B.bytes hr (fun t ht hW => ⟨⟨σ, rfl, hpost, by rw [POST, ht]; exact hP⟩, hS.F ht⟩) hS.2.2 hd hlocks))
  exact key s.heap [] _ (by simp; omega) hP va_S.rf (lvl_start As _ hl)
theorem startR {C : String} {post : Nat → Sg → Prop} (hy : plainName y.cls = true) (ho : y.cls = own) (hA : As.length ≤ maxL)
    (body : ∀ X : Cx, CX X cc own h mc ms → X.1 = g → X.2.2.1 = l → RETR X cc mc ms post → GJ X 0 0 0 (As.map some ++ List.replicate (maxL - As.length) none) [] σ) : KR g l y cc maxL (some (.object C)) h mc ms As σ post := by
  refine Met.ofW (cc := cc) (maxL := maxL) (ret := some (.object C)) hy rfl ?_
  intro p e s m args below meth c s₁ B hml hv
  obtain ⟨rfl, hok, hP⟩ := hv
  have hts := atoms_spec (ws := Cond.code y cc maxL (some (.object C)) :: BIG) B.pre
  have hown : s.vm.findClass own = some m.cls := by rw [← ho]; exact findClass_of_methodNamed B.named
  have hl := lv_entry (As.map (vv g)) (n := maxL) (by rw [sl_len]; exact hA)
  rw [lg_entry_eq]
  have hr := B.returns
  have hlocks := B.notSynchronized
  have key := body (g, p, l, e, rmH h mc ms, s, m, (As.map (vv g)).toArray, below, meth, c, MQ below (va_Qr (fun u : Nat × Sg => post u.1 u.2) (fun u a t => a = adr g u.1 ∧ POST g u.2 t) (gA g)) (As.map (vv g)).toArray s mc ms (gA g), maxL) ⟨B.exec, B.bytes, hml, hown, fun w hw => hts w (List.mem_cons_of_mem _ hw), hok, hlocks, rfl⟩ rfl rfl
    (fun pc L k σ a b ha hb hd hpost H locs ls _ hP hS _ => W.widen ha hb (W.aret (v := .ref (adr g k)) B.exec B.bytes hr (Or.inl ⟨C, rfl⟩) (Or.inr ⟨_, rfl⟩) (fun t ht hW => ⟨⟨(k, σ), adr g k, rfl, hpost, rfl, by rw [POST, ht]; exact hP⟩, hS.F ht⟩) hS.2.2 hd hlocks))
  exact key s.heap [] _ (by simp; omega) hP va_S.rf (lvl_start As _ hl)
theorem startXI {ret : Option FieldType} {post : Int → Sg → Prop} {px : String → Sg → Prop} (hl0 : l.stackTraces = false) (hy : plainName y.cls = true) (ho : y.cls = own) (hA : As.length ≤ maxL)
    (body : ∀ X : Cx, CX X cc own h mc ms → X.1 = g → X.2.2.1 = l → RETI X cc ret mc ms post → QX X mc ms px → GJ X 0 0 0 (As.map some ++ List.replicate (maxL - As.length) none) [] σ) : KXI g l y cc maxL ret h mc ms As σ post px := by
  refine vx_ofW (cc := cc) (maxL := maxL) (ret := ret) hy rfl ?_
  intro p e s m args below meth c s₁ B hml hxt hv
  obtain ⟨rfl, hok, hP⟩ := hv
  have hts := atoms_spec (ws := Cond.code y cc maxL ret :: BIG) B.pre
  have hown : s.vm.findClass own = some m.cls := by rw [← ho]; exact findClass_of_methodNamed B.named
  have hl := lv_entry (As.map (vv g)) (n := maxL) (by rw [sl_len]; exact hA)
  rw [lg_entry_eq]
  have hr := B.returns
  have hlocks := B.notSynchronized
  have key := body (g, p, l, e, rmH h mc ms, s, m, (As.map (vv g)).toArray, below, meth, c, vx_MQ below (va_Qi (fun r σ' => ∃ z, r = ii z ∧ post z σ') (POST g) (gA g)) (XX g px) (As.map (vv g)).toArray s mc ms (gA g), maxL) ⟨B.exec, B.bytes, hml, hown, fun w hw => hts w (List.mem_cons_of_mem _ hw), hok, hlocks, rfl⟩ rfl rfl
    (fun pc L z σ ty a b ha hb hd hret hn hpost H locs ls _ hP hS _ => W.widen ha hb (vx_ret (W.zret (ty := ty) B.exec B.bytes (by rw [hr]; exact hret) hn (fun t ht hW => ⟨⟨ii z, σ, rfl, ⟨z, rfl, hpost⟩, by rw [POST, ht]; exact hP⟩, hS.F ht⟩) hS.2.2 hd hlocks)))
    ⟨hl0, hxt, _, rfl⟩
  exact key s.heap [] _ (by simp; omega) hP va_S.rf (lvl_start As _ hl)
theorem startXV {post : Sg → Prop} {px : String → Sg → Prop} (hl0 : l.stackTraces = false) (hy : plainName y.cls = true) (ho : y.cls = own) (hA : As.length ≤ maxL)
    (body : ∀ X : Cx, CX X cc own h mc ms → X.1 = g → X.2.2.1 = l → RETV X cc mc ms post → QX X mc ms px → GJ X 0 0 0 (As.map some ++ List.replicate (maxL - As.length) none) [] σ) : KXV g l y cc maxL h mc ms As σ post px := by
  refine vx_ofW (cc := cc) (maxL := maxL) (ret := none) hy rfl ?_
  intro p e s m args below meth c s₁ B hml hxt hv
  obtain ⟨rfl, hok, hP⟩ := hv
  have hts := atoms_spec (ws := Cond.code y cc maxL none :: BIG) B.pre
  have hown : s.vm.findClass own = some m.cls := by rw [← ho]; exact findClass_of_methodNamed B.named
  have hl := lv_entry (As.map (vv g)) (n := maxL) (by rw [sl_len]; exact hA)
  rw [lg_entry_eq]
  have hr := B.returns
  have hlocks := B.notSynchronized
  have key := body (g, p, l, e, rmH h mc ms, s, m, (As.map (vv g)).toArray, below, meth, c, vx_MQ below (va_Qv (fun σ' => post σ') (POST g) (gA g)) (XX g px) (As.map (vv g)).toArray s mc ms (gA g), maxL) ⟨B.exec, B.bytes, hml, hown, fun w hw => hts w (List.mem_cons_of_mem _ hw), hok, hlocks, rfl⟩ rfl rfl
    (fun pc L σ a b ha hb hd hpost H locs ls _ hP hS _ => W.widen ha hb (vx_ret (W.vret B.exec B.bytes hr (fun t ht hW => ⟨⟨σ, rfl, hpost, by rw [POST, ht]; exact hP⟩, hS.F ht⟩) hS.2.2 hd hlocks)))
    ⟨hl0, hxt, _, rfl⟩
  exact key s.heap [] _ (by simp; omega) hP va_S.rf (lvl_start As _ hl)
end STARTS
theorem good_big {w : Cond} (h : w ∈ BIG) : w ∈ BIG ∧ ((w.onTables && w.keeps) = true ∨ ∃ ty, w = .arrayClass ty) := ⟨h, big_good h⟩
theorem goodV {own : String} {idx : Nat} {y : MethodName} {cy : ByteArray} {maxL : Nat} {ret : Option FieldType} {C : String} {n : Nat} (hl : Cond.methodLink own idx y ∈ BIG) (hm : MWV y cy maxL ret C n) : GoodIn BIG (wsV own idx C y (Cond.code y cy maxL ret :: BIG)) := by
  obtain ⟨m1, m2, m3, m4, -⟩ := hm
  intro w hw
  simp only [wsV, List.mem_append, List.mem_cons, List.not_mem_nil, or_false] at hw
  rcases hw with (rfl | rfl | rfl | rfl) | rfl | h
  · exact good_big hl
  · exact good_big m2
  · exact good_big m3
  · exact good_big m4
  · exact good_big m1
  · exact good_big h
theorem goodC {y : MethodName} {cy : ByteArray} {maxL : Nat} {ret : Option FieldType} (m1 : Cond.code y cy maxL ret ∈ BIG) : GoodIn BIG (Cond.code y cy maxL ret :: BIG) := by
  intro w hw
  rcases List.mem_cons.mp hw with rfl | h
  · exact good_big m1
  · exact good_big h
theorem cat_sum {g : Gm} : ∀ (st : List V), ((st.map (vv g)).map fun v => v.category).sum = st.length
  | [] => rfl
  | v :: st => by rw [List.map_cons, List.map_cons, List.sum_cons, cat_sum st, vv_cat, List.length_cons, Nat.add_comm]
theorem rm_fit {h hy mc ms maxL mc0 ms0 : Nat} (hh : hy < h) (hM : maxL ≤ 40) : (rmH hy mc ms).frames + 1 ≤ (rmH h mc0 ms0).frames ∧ 8 + (maxL + 11) + (rmH hy mc ms).locals ≤ (rmH h mc0 ms0).locals := by
  show 8 + hy + 1 ≤ 8 + h ∧ 8 + (maxL + 11) + (300 + 60 * hy) ≤ 300 + 60 * h
  omega
section CROWS
variable {X : Cx} {cc : ByteArray} {own : String} {h0 mc0 ms0 : Nat} {a b pc : Nat} {L : List (Option V)} {st st0 : List V} {σ : Sg}
variable {y : MethodName} {cy : ByteArray} {maxL hy mc ms n idx : Nat} {ret : Option FieldType} {As : List V}
theorem gx_callI {C : String} {T : u_T} {N ci k : Nat} {fl : List (Option Nat)} {post : Int → Sg → Prop} (hx : CX X cc own h0 mc0 ms0) (K : KI X.1 X.2.2.1 y cy maxL ret hy mc ms (.inr k :: As) σ post) (hl : Cond.methodLink own idx y ∈ BIG) (hm : MWV y cy maxL ret C n) (d : decode cc pc = .ok (.invokevirtual idx, 3)) (hk : k < 83) (hs : shp k = .inr (ci, fl)) (hc : vwCl[ci]? = some (C, T, N)) (hn : As.length = n) (hst : As.reverse ++ .inr k :: st = st0) (hcat : st.length ≤ 8) (hh : hy < h0) (hr : a + mc ≤ mc0 ∧ b + ms ≤ ms0)
    (kk : ∀ z σ', post z σ' → GJ X (a + mc) (b + ms) (pc + 3) L (.inl z :: st) σ') : GJ X a b pc L st0 σ := by
  obtain ⟨g, p, l, e, R, s, m, args, below, meth, c, Q, nL⟩ := X
  obtain ⟨h1, h2, h3, h4, h5, h6, h7, h8⟩ := hx
  subst h8
  intro H locs ls hLn hP hS hls
  have hst9 : st0.map (vv g) = (As.map (vv g)).reverse ++ .ref (adr g k) :: st.map (vv g) := by rw [← hst, List.map_append, List.map_cons, List.map_reverse]; rfl
  have hg := goodV hl hm
  refine va_calli (va_runV (As := As.map (vv g)) (rest := st.map (vv g)) (b := adr g k) ⟨h1, h2, h3, h4, h5⟩ K (cwV n h5 hg rfl rfl rfl hm.2.2.2.2.1 (rm_fit hh hm.2.2.2.2.2)) ⟨pre_blind _ _ _, va_recv h6.1 hP (q := (C, T, N)) (q0 := k) hc (by rw [wl_at hk, enc_o hs]), fun U hU hW => ⟨rfl, h6.warm hW (by rw [hU]; exact hS), by rw [hU]; exact hP⟩⟩ rfl (by rw [List.length_map]; exact hn) hls.1 hst9 (lv_room (by rw [cat_sum]; exact hcat)) d hr) hS (fun q _ h => h) (fun q h => h) (fun r σ' t H1 locs1 ht hvm hw hB hz1 hk1 hS1 => ?_)
  obtain ⟨z, rfl, hpost⟩ := hw
  rw [POST, ht] at hB
  exact kk z σ' hpost H1 locs1 ls hLn hB hS1 hls
theorem gx_callV {C : String} {T : u_T} {N ci k : Nat} {fl : List (Option Nat)} {post : Sg → Prop} (hx : CX X cc own h0 mc0 ms0) (K : KV X.1 X.2.2.1 y cy maxL hy mc ms (.inr k :: As) σ post) (hl : Cond.methodLink own idx y ∈ BIG) (hm : MWV y cy maxL none C n) (d : decode cc pc = .ok (.invokevirtual idx, 3)) (hk : k < 83) (hs : shp k = .inr (ci, fl)) (hc : vwCl[ci]? = some (C, T, N)) (hn : As.length = n) (hst : As.reverse ++ .inr k :: st = st0) (hcat : st.length ≤ 8) (hh : hy < h0) (hr : a + mc ≤ mc0 ∧ b + ms ≤ ms0)
    (kk : ∀ σ', post σ' → GJ X (a + mc) (b + ms) (pc + 3) L st σ') : GJ X a b pc L st0 σ := by
  obtain ⟨g, p, l, e, R, s, m, args, below, meth, c, Q, nL⟩ := X
  obtain ⟨h1, h2, h3, h4, h5, h6, h7, h8⟩ := hx
  subst h8
  intro H locs ls hLn hP hS hls
  have hst9 : st0.map (vv g) = (As.map (vv g)).reverse ++ .ref (adr g k) :: st.map (vv g) := by rw [← hst, List.map_append, List.map_cons, List.map_reverse]; rfl
  have hg := goodV hl hm
  refine va_callv (va_runV (As := As.map (vv g)) (rest := st.map (vv g)) (b := adr g k) ⟨h1, h2, h3, h4, h5⟩ K (cwV n h5 hg rfl rfl rfl hm.2.2.2.2.1 (rm_fit hh hm.2.2.2.2.2)) ⟨pre_blind _ _ _, va_recv h6.1 hP (q := (C, T, N)) (q0 := k) hc (by rw [wl_at hk, enc_o hs]), fun U hU hW => ⟨rfl, h6.warm hW (by rw [hU]; exact hS), by rw [hU]; exact hP⟩⟩ rfl (by rw [List.length_map]; exact hn) hls.1 hst9 (lv_room (by rw [cat_sum]; exact hcat)) d hr) hS (fun q _ h => h) (fun q h => h) (fun σ' t H1 locs1 ht hvm hw hB hz1 hk1 hS1 => ?_)
  rw [POST, ht] at hB
  exact kk σ' hw H1 locs1 ls hLn hB hS1 hls
theorem gx_callR {C : String} {T : u_T} {N ci k : Nat} {fl : List (Option Nat)} {post : Nat → Sg → Prop} (hx : CX X cc own h0 mc0 ms0) (K : KR X.1 X.2.2.1 y cy maxL ret hy mc ms (.inr k :: As) σ post) (hl : Cond.methodLink own idx y ∈ BIG) (hm : MWV y cy maxL ret C n) (d : decode cc pc = .ok (.invokevirtual idx, 3)) (hk : k < 83) (hs : shp k = .inr (ci, fl)) (hc : vwCl[ci]? = some (C, T, N)) (hn : As.length = n) (hst : As.reverse ++ .inr k :: st = st0) (hcat : st.length ≤ 8) (hh : hy < h0) (hr : a + mc ≤ mc0 ∧ b + ms ≤ ms0)
    (kk : ∀ z σ', post z σ' → GJ X (a + mc) (b + ms) (pc + 3) L (.inr z :: st) σ') : GJ X a b pc L st0 σ := by
  obtain ⟨g, p, l, e, R, s, m, args, below, meth, c, Q, nL⟩ := X
  obtain ⟨h1, h2, h3, h4, h5, h6, h7, h8⟩ := hx
  subst h8
  intro H locs ls hLn hP hS hls
  have hst9 : st0.map (vv g) = (As.map (vv g)).reverse ++ .ref (adr g k) :: st.map (vv g) := by rw [← hst, List.map_append, List.map_cons, List.map_reverse]; rfl
  have hg := goodV hl hm
  refine va_callr (va_runV (As := As.map (vv g)) (rest := st.map (vv g)) (b := adr g k) ⟨h1, h2, h3, h4, h5⟩ K (cwV n h5 hg rfl rfl rfl hm.2.2.2.2.1 (rm_fit hh hm.2.2.2.2.2)) ⟨pre_blind _ _ _, va_recv h6.1 hP (q := (C, T, N)) (q0 := k) hc (by rw [wl_at hk, enc_o hs]), fun U hU hW => ⟨rfl, h6.warm hW (by rw [hU]; exact hS), by rw [hU]; exact hP⟩⟩ rfl (by rw [List.length_map]; exact hn) hls.1 hst9 (lv_room (by rw [cat_sum]; exact hcat)) d hr) hS (fun q _ h => h) (fun q h => h) (fun u a9 t H1 locs1 ht hvm hw hB hz1 hk1 hS1 => ?_)
  obtain ⟨z, σ'⟩ := u
  obtain ⟨rfl, hB⟩ := hB
  rw [POST, ht] at hB
  exact kk z σ' hw H1 locs1 ls hLn hB hS1 hls
theorem gx_callS {post : Int → Sg → Prop} (hx : CX X cc own h0 mc0 ms0) (K : KI X.1 X.2.2.1 y cy maxL ret hy mc ms As σ post) (hl : Cond.methodLink own idx y ∈ BIG) (hm : MWS y cy maxL ret n) (d : decode cc pc = .ok (.invokestatic idx, 3)) (hn : As.length = n) (hst : As.reverse ++ st = st0) (hcat : st.length ≤ 8) (hh : hy < h0) (hr : a + mc ≤ mc0 ∧ b + ms ≤ ms0)
    (kk : ∀ z σ', post z σ' → GJ X (a + mc) (b + ms) (pc + 3) L (.inl z :: st) σ') : GJ X a b pc L st0 σ := by
  obtain ⟨g, p, l, e, R, s, m, args, below, meth, c, Q, nL⟩ := X
  obtain ⟨h1, h2, h3, h4, h5, h6, h7, h8⟩ := hx
  obtain ⟨m1, m2, m3, m4, m5⟩ := hm
  subst h8
  intro H locs ls hLn hP hS hls
  have hst9 : st0.map (vv g) = (As.map (vv g)).reverse ++ st.map (vv g) := by rw [← hst, List.map_append, List.map_reverse]
  refine va_calli (va_runS (As := As.map (vv g)) (rest := st.map (vv g)) ⟨h1, h2, h3, h4, h5⟩ K ⟨callB_of n h5 (goodC m1) rfl rfl rfl (h5 _ m3) (h5 _ hl) m4 (rm_fit hh m5), h5 _ m2⟩ ⟨pre_blind _ _ _, fun U hU hW => ⟨rfl, h6.warm hW (by rw [hU]; exact hS), by rw [hU]; exact hP⟩⟩ rfl (by rw [List.length_map]; exact hn) hls.1 hst9 (lv_room (by rw [cat_sum]; exact hcat)) d hr) hS (fun q _ h => h) (fun q h => h) (fun r σ' t H1 locs1 ht hvm hw hB hz1 hk1 hS1 => ?_)
  obtain ⟨z, rfl, hpost⟩ := hw
  rw [POST, ht] at hB
  exact kk z σ' hpost H1 locs1 ls hLn hB hS1 hls
theorem gx_callSV {post : Sg → Prop} (hx : CX X cc own h0 mc0 ms0) (K : KV X.1 X.2.2.1 y cy maxL hy mc ms As σ post) (hl : Cond.methodLink own idx y ∈ BIG) (hm : MWS y cy maxL none n) (d : decode cc pc = .ok (.invokestatic idx, 3)) (hn : As.length = n) (hst : As.reverse ++ st = st0) (hcat : st.length ≤ 8) (hh : hy < h0) (hr : a + mc ≤ mc0 ∧ b + ms ≤ ms0)
    (kk : ∀ σ', post σ' → GJ X (a + mc) (b + ms) (pc + 3) L st σ') : GJ X a b pc L st0 σ := by
  obtain ⟨g, p, l, e, R, s, m, args, below, meth, c, Q, nL⟩ := X
  obtain ⟨h1, h2, h3, h4, h5, h6, h7, h8⟩ := hx
  obtain ⟨m1, m2, m3, m4, m5⟩ := hm
  subst h8
  intro H locs ls hLn hP hS hls
  have hst9 : st0.map (vv g) = (As.map (vv g)).reverse ++ st.map (vv g) := by rw [← hst, List.map_append, List.map_reverse]
  refine va_callv (va_runS (As := As.map (vv g)) (rest := st.map (vv g)) ⟨h1, h2, h3, h4, h5⟩ K ⟨callB_of n h5 (goodC m1) rfl rfl rfl (h5 _ m3) (h5 _ hl) m4 (rm_fit hh m5), h5 _ m2⟩ ⟨pre_blind _ _ _, fun U hU hW => ⟨rfl, h6.warm hW (by rw [hU]; exact hS), by rw [hU]; exact hP⟩⟩ rfl (by rw [List.length_map]; exact hn) hls.1 hst9 (lv_room (by rw [cat_sum]; exact hcat)) d hr) hS (fun q _ h => h) (fun q h => h) (fun σ' t H1 locs1 ht hvm hw hB hz1 hk1 hS1 => ?_)
  rw [POST, ht] at hB
  exact kk σ' hw H1 locs1 ls hLn hB hS1 hls
theorem gx_callSR {post : Nat → Sg → Prop} (hx : CX X cc own h0 mc0 ms0) (K : KR X.1 X.2.2.1 y cy maxL ret hy mc ms As σ post) (hl : Cond.methodLink own idx y ∈ BIG) (hm : MWS y cy maxL ret n) (d : decode cc pc = .ok (.invokestatic idx, 3)) (hn : As.length = n) (hst : As.reverse ++ st = st0) (hcat : st.length ≤ 8) (hh : hy < h0) (hr : a + mc ≤ mc0 ∧ b + ms ≤ ms0)
    (kk : ∀ z σ', post z σ' → GJ X (a + mc) (b + ms) (pc + 3) L (.inr z :: st) σ') : GJ X a b pc L st0 σ := by
  obtain ⟨g, p, l, e, R, s, m, args, below, meth, c, Q, nL⟩ := X
  obtain ⟨h1, h2, h3, h4, h5, h6, h7, h8⟩ := hx
  obtain ⟨m1, m2, m3, m4, m5⟩ := hm
  subst h8
  intro H locs ls hLn hP hS hls
  have hst9 : st0.map (vv g) = (As.map (vv g)).reverse ++ st.map (vv g) := by rw [← hst, List.map_append, List.map_reverse]
  refine va_callr (va_runS (As := As.map (vv g)) (rest := st.map (vv g)) ⟨h1, h2, h3, h4, h5⟩ K ⟨callB_of n h5 (goodC m1) rfl rfl rfl (h5 _ m3) (h5 _ hl) m4 (rm_fit hh m5), h5 _ m2⟩ ⟨pre_blind _ _ _, fun U hU hW => ⟨rfl, h6.warm hW (by rw [hU]; exact hS), by rw [hU]; exact hP⟩⟩ rfl (by rw [List.length_map]; exact hn) hls.1 hst9 (lv_room (by rw [cat_sum]; exact hcat)) d hr) hS (fun q _ h => h) (fun q h => h) (fun u a9 t H1 locs1 ht hvm hw hB hz1 hk1 hS1 => ?_)
  obtain ⟨z, σ'⟩ := u
  obtain ⟨rfl, hB⟩ := hB
  rw [POST, ht] at hB
  exact kk z σ' hw H1 locs1 ls hLn hB hS1 hls
/-- a nest mate's static method -/
theorem gx_callN {host : String} {post : Int → Sg → Prop} (hx : CX X cc own h0 mc0 ms0) (K : KI X.1 X.2.2.1 y cy maxL ret hy mc ms As σ post) (hl : (own, idx, y, host) ∈ nestW) (hm : MWS y cy maxL ret n) (d : decode cc pc = .ok (.invokestatic idx, 3)) (hn : As.length = n) (hst : As.reverse ++ st = st0) (hcat : st.length ≤ 8) (hh : hy < h0) (hr : a + mc ≤ mc0 ∧ b + ms ≤ ms0)
    (kk : ∀ z σ', post z σ' → GJ X (a + mc) (b + ms) (pc + 3) L (.inl z :: st) σ') : GJ X a b pc L st0 σ := by
  obtain ⟨g, p, l, e, R, s, m, args, below, meth, c, Q, nL⟩ := X
  obtain ⟨h1, h2, h3, h4, h5, h6, h7, h8⟩ := hx
  obtain ⟨m1, m2, m3, m4, m5⟩ := hm
  subst h8
  intro H locs ls hLn hP hS hls
  have hst9 : st0.map (vv g) = (As.map (vv g)).reverse ++ st.map (vv g) := by rw [← hst, List.map_append, List.map_reverse]
  have hnw := h6.2.2.2.2.1 _ hl
  refine va_calli (va_runSN (As := As.map (vv g)) (rest := st.map (vv g)) ⟨h1, h2, h3, h4, h5⟩ K ⟨va_cnB n h5 (goodC m1) rfl rfl rfl hnw (h5 _ m3) m4 (rm_fit hh m5), h5 _ m2, trivial⟩ ⟨pre_blind _ _ _, fun U hU hW => ⟨rfl, h6.warm hW (by rw [hU]; exact hS), by rw [hU]; exact hP⟩⟩ rfl (by rw [List.length_map]; exact hn) hls.1 hst9 (lv_room (by rw [cat_sum]; exact hcat)) d hr) hS (fun q _ h => h) (fun q h => h) (fun r σ' t H1 locs1 ht hvm hw hB hz1 hk1 hS1 => ?_)
  obtain ⟨z, rfl, hpost⟩ := hw
  rw [POST, ht] at hB
  exact kk z σ' hpost H1 locs1 ls hLn hB hS1 hls
theorem gx_callNR {host : String} {post : Nat → Sg → Prop} (hx : CX X cc own h0 mc0 ms0) (K : KR X.1 X.2.2.1 y cy maxL ret hy mc ms As σ post) (hl : (own, idx, y, host) ∈ nestW) (hm : MWS y cy maxL ret n) (d : decode cc pc = .ok (.invokestatic idx, 3)) (hn : As.length = n) (hst : As.reverse ++ st = st0) (hcat : st.length ≤ 8) (hh : hy < h0) (hr : a + mc ≤ mc0 ∧ b + ms ≤ ms0)
    (kk : ∀ z σ', post z σ' → GJ X (a + mc) (b + ms) (pc + 3) L (.inr z :: st) σ') : GJ X a b pc L st0 σ := by
  obtain ⟨g, p, l, e, R, s, m, args, below, meth, c, Q, nL⟩ := X
  obtain ⟨h1, h2, h3, h4, h5, h6, h7, h8⟩ := hx
  obtain ⟨m1, m2, m3, m4, m5⟩ := hm
  subst h8
  intro H locs ls hLn hP hS hls
  have hst9 : st0.map (vv g) = (As.map (vv g)).reverse ++ st.map (vv g) := by rw [← hst, List.map_append, List.map_reverse]
  have hnw := h6.2.2.2.2.1 _ hl
  refine va_callr (va_runSN (As := As.map (vv g)) (rest := st.map (vv g)) ⟨h1, h2, h3, h4, h5⟩ K ⟨va_cnB n h5 (goodC m1) rfl rfl rfl hnw (h5 _ m3) m4 (rm_fit hh m5), h5 _ m2, trivial⟩ ⟨pre_blind _ _ _, fun U hU hW => ⟨rfl, h6.warm hW (by rw [hU]; exact hS), by rw [hU]; exact hP⟩⟩ rfl (by rw [List.length_map]; exact hn) hls.1 hst9 (lv_room (by rw [cat_sum]; exact hcat)) d hr) hS (fun q _ h => h) (fun q h => h) (fun u a9 t H1 locs1 ht hvm hw hB hz1 hk1 hS1 => ?_)
  obtain ⟨z, σ'⟩ := u
  obtain ⟨rfl, hB⟩ := hB
  rw [POST, ht] at hB
  exact kk z σ' hw H1 locs1 ls hLn hB hS1 hls
/-- calls that may throw: the exception goes on to the caller -/
theorem gx_callXI {C : String} {T : u_T} {N ci k : Nat} {fl : List (Option Nat)} {post : Int → Sg → Prop} {px px0 : String → Sg → Prop} (hx : CX X cc own h0 mc0 ms0) (hq : QX X mc0 ms0 px0) (K : KXI X.1 X.2.2.1 y cy maxL ret hy mc ms (.inr k :: As) σ post px) (hl : Cond.methodLink own idx y ∈ BIG) (hm : MWV y cy maxL ret C n) (d : decode cc pc = .ok (.invokevirtual idx, 3)) (hk : k < 83) (hs : shp k = .inr (ci, fl)) (hc : vwCl[ci]? = some (C, T, N)) (hn : As.length = n) (hst : As.reverse ++ .inr k :: st = st0) (hcat : st.length ≤ 8) (hh : hy < h0) (hr : a + mc ≤ mc0 ∧ b + ms ≤ ms0)
    (hpx : ∀ E σ', px E σ' → px0 E σ') (kk : ∀ z σ', post z σ' → GJ X (a + mc) (b + ms) (pc + 3) L (.inl z :: st) σ') : GJ X a b pc L st0 σ := by
  obtain ⟨g, p, l, e, R, s, m, args, below, meth, c, Q, nL⟩ := X
  obtain ⟨h1, h2, h3, h4, h5, h6, h7, h8⟩ := hx
  obtain ⟨q1, q2, Qc, q3⟩ := hq
  subst h8
  subst q3
  intro H locs ls hLn hP hS hls
  have hst9 : st0.map (vv g) = (As.map (vv g)).reverse ++ .ref (adr g k) :: st.map (vv g) := by rw [← hst, List.map_append, List.map_cons, List.map_reverse]; rfl
  have hg := goodV hl hm
  refine vx_calli (vx_runV (As := As.map (vv g)) (rest := st.map (vv g)) (b := adr g k) ⟨h1, h2, h3, h4, h5⟩ K (cwV n h5 hg rfl rfl rfl hm.2.2.2.2.1 (rm_fit hh hm.2.2.2.2.2)) ⟨pre_blind _ _ _, va_recv h6.1 hP (q := (C, T, N)) (q0 := k) hc (by rw [wl_at hk, enc_o hs]), fun U hU hW => ⟨rfl, h6.warm hW (by rw [hU]; exact hS), by rw [hU]; exact hP⟩⟩ rfl (by rw [List.length_map]; exact hn) hls.1 hst9 (lv_room (by rw [cat_sum]; exact hcat)) d hr) hS (fun q _ h => h) (fun q h => h) (fun q _ h => h) (fun E ce q9 u t H1 locs1 ht hvm hw hB hz1 hk1 hS1 hce hcv hcl => ?_) (fun r σ' t H1 locs1 ht hvm hw hB hz1 hk1 hS1 => ?_)
  · obtain ⟨rfl, hB⟩ := hB
    rw [POST, ht] at hB
    exact vx_out (fun x hx9 => (q2 x hx9).elim) h7 hce hcv hcl (fun t9 ht9 _ => ⟨u, hpx _ _ hw, ⟨rfl, by rw [POST, ht9]; exact hB⟩, hS1.F ht9⟩) hS1.2.2 hr.1 hr.2
  · obtain ⟨z, rfl, hpost⟩ := hw
    rw [POST, ht] at hB
    exact kk z σ' hpost H1 locs1 ls hLn hB hS1 hls
theorem gx_callXV {C : String} {T : u_T} {N ci k : Nat} {fl : List (Option Nat)} {post : Sg → Prop} {px px0 : String → Sg → Prop} (hx : CX X cc own h0 mc0 ms0) (hq : QX X mc0 ms0 px0) (K : KXV X.1 X.2.2.1 y cy maxL hy mc ms (.inr k :: As) σ post px) (hl : Cond.methodLink own idx y ∈ BIG) (hm : MWV y cy maxL none C n) (d : decode cc pc = .ok (.invokevirtual idx, 3)) (hk : k < 83) (hs : shp k = .inr (ci, fl)) (hc : vwCl[ci]? = some (C, T, N)) (hn : As.length = n) (hst : As.reverse ++ .inr k :: st = st0) (hcat : st.length ≤ 8) (hh : hy < h0) (hr : a + mc ≤ mc0 ∧ b + ms ≤ ms0)
    (hpx : ∀ E σ', px E σ' → px0 E σ') (kk : ∀ σ', post σ' → GJ X (a + mc) (b + ms) (pc + 3) L st σ') : GJ X a b pc L st0 σ := by
  obtain ⟨g, p, l, e, R, s, m, args, below, meth, c, Q, nL⟩ := X
  obtain ⟨h1, h2, h3, h4, h5, h6, h7, h8⟩ := hx
  obtain ⟨q1, q2, Qc, q3⟩ := hq
  subst h8
  subst q3
  intro H locs ls hLn hP hS hls
  have hst9 : st0.map (vv g) = (As.map (vv g)).reverse ++ .ref (adr g k) :: st.map (vv g) := by rw [← hst, List.map_append, List.map_cons, List.map_reverse]; rfl
  have hg := goodV hl hm
  refine vx_callv (vx_runV (As := As.map (vv g)) (rest := st.map (vv g)) (b := adr g k) ⟨h1, h2, h3, h4, h5⟩ K (cwV n h5 hg rfl rfl rfl hm.2.2.2.2.1 (rm_fit hh hm.2.2.2.2.2)) ⟨pre_blind _ _ _, va_recv h6.1 hP (q := (C, T, N)) (q0 := k) hc (by rw [wl_at hk, enc_o hs]), fun U hU hW => ⟨rfl, h6.warm hW (by rw [hU]; exact hS), by rw [hU]; exact hP⟩⟩ rfl (by rw [List.length_map]; exact hn) hls.1 hst9 (lv_room (by rw [cat_sum]; exact hcat)) d hr) hS (fun q _ h => h) (fun q h => h) (fun q _ h => h) (fun E ce q9 u t H1 locs1 ht hvm hw hB hz1 hk1 hS1 hce hcv hcl => ?_) (fun σ' t H1 locs1 ht hvm hw hB hz1 hk1 hS1 => ?_)
  · obtain ⟨rfl, hB⟩ := hB
    rw [POST, ht] at hB
    exact vx_out (fun x hx9 => (q2 x hx9).elim) h7 hce hcv hcl (fun t9 ht9 _ => ⟨u, hpx _ _ hw, ⟨rfl, by rw [POST, ht9]; exact hB⟩, hS1.F ht9⟩) hS1.2.2 hr.1 hr.2
  · rw [POST, ht] at hB
    exact kk σ' hw H1 locs1 ls hLn hB hS1 hls
end CROWS
/-- a loop: its states, an invariant, a measure that falls -/
theorem gx_loop {X : Cx} {a b pc : Nat} {α : Type} (inv : α → Prop) (μ : α → Nat) (Lf : α → List (Option V)) (stf : α → List V) (σf : α → Sg)
    (step : ∀ x, inv x → (∀ y, inv y → μ y < μ x → GJ X a b pc (Lf y) (stf y) (σf y)) → GJ X a b pc (Lf x) (stf x) (σf x)) (x : α) (hx : inv x) : GJ X a b pc (Lf x) (stf x) (σf x) := by
  have key : ∀ (n : Nat) (x : α), μ x < n → inv x → GJ X a b pc (Lf x) (stf x) (σf x) := by
    intro n
    induction n with
    | zero => intro x h; exact absurd h (Nat.not_lt_zero _)
    | succ n ih => intro x h hi; exact step x hi (fun y hy hlt => ih y (by omega) hy)
  exact key (μ x + 1) x (Nat.lt_succ_self _) hx
theorem GJ.top {X : Cx} {a b pc : Nat} {L : List (Option V)} {st : List V} {σ : Sg} {z : Int} (k : ∀ v : Int, v = z → GJ X a b pc L (.inl v :: st) σ) : GJ X a b pc L (.inl z :: st) σ := k z rfl
theorem GJ.cong {X : Cx} {a b pc : Nat} {L L' : List (Option V)} {st st' : List V} {σ σ' : Sg} (h1 : L' = L) (h2 : st' = st) (h3 : σ' = σ) (k : GJ X a b pc L' st' σ') : GJ X a b pc L st σ := by
  rw [← h1, ← h2, ← h3]; exact k
end CALLS
