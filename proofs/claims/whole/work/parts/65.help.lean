/-! The law's helpers: calls that are caught, longs and doubles -/
section HELP
theorem met_ofWH {l : Launch} {y : MethodName} {ws ws' : List Cond} {rm : Room} {Pc : Array Value → State → Prop} {Qc : Array Value → State → Outcome → State → Prop} {mc ms : Nat} {free : Addr → Prop} {cc : ByteArray} {maxL : Nat} {ret : Option FieldType} {hh : List (Nat × Nat × Nat × Nat)}
    (hy : plainName y.cls = true) (hw : ws = Cond.codeWith y cc maxL ret hh :: ws')
    (body : ∀ p e s m args below meth c s₁, BodyLoose p l y (headSpec ws rm) cc maxL ret e s m args below meth c s₁ → c.maxLocals = maxL → Pc args s →
      W p l e (headSpec ws rm).room s m args below meth c s.heap [] 0 0 (MQ below Qc args s mc ms free) (entryFrame m args maxL)) : Met l y ws rm Pc Qc mc ms free := by
  refine MetFree.of_bodyS (code := cc) (maxLocals := maxL) (ret := ret) hy ?_ ?_
  · intro args s m h hn
    obtain ⟨m9, meth, c, hn9, h1, h2, h3, h4, -, h5, h6, -⟩ := Cond.codeWith_spec (atoms_spec (ws := ws) h _ (by rw [hw]; exact List.mem_cons_self))
    cases hn.symm.trans hn9
    exact ⟨meth, c, h1, h2, h3, h4, h5, h6⟩
  · intro p e s m args below meth c s₁ B hml hP _
    have hh0 : s₁.heap = s.heap := by rw [B.state]; rfl
    obtain ⟨t, a1, o, b1, b2, b3⟩ := body p e s m args below meth c s₁ B hml hP s₁ hh0 (Stand.of_body B)
    exact ⟨t, o, a1, b1, b2, ⟨b3.1, b3.2⟩⟩
/-- no exception of one kind is one of another -/
def NCS (U : State) : Prop := ∀ E ∈ excN, ∀ F ∈ excN, E ≠ F → va_Nc E F U
theorem NCS.moved {u U : State} (hvm : u.vm.Alike U.vm) (h : NCS u) : NCS U := fun E hE F hF hn => (h E hE F hF hn).moved hvm
def PREL (g : Gm) (σ : Sg) (U : State) : Prop := PRE g σ U ∧ NCS U
theorem prel_blind (g : Gm) (σ : Sg) (As : List Value) : FrameBlind (va_Pc As (PREL g σ)) := fun a U f mk q => ⟨q.1, ⟨q.2.1.1.same (U := U.calling f mk a) rfl rfl, q.2.1.2⟩, q.2.2.moved (u := U) (U := U.calling f mk a) (Vm.Alike.refl U.vm)⟩
/-- a helper's contract: it catches, and returns an int -/
def KL (g : Gm) (l : Launch) (y : MethodName) (cc : ByteArray) (maxL : Nat) (hh : List (Nat × Nat × Nat × Nat)) (h mc ms : Nat) (As : List V) (σ : Sg) (post : Int → Sg → Prop) : Prop :=
  Met l y (Cond.codeWith y cc maxL (some .int) hh :: BIG) (rmH h mc ms) (va_Pc (As.map (vv g)) (PREL g σ)) (va_Qi (fun r σ' => ∃ z, r = ii z ∧ post z σ') (POST g) (gA g)) mc ms (gA g)
def CTB : Cx → List (Nat × Nat × Nat × Nat) → Prop
  | (_, _, _, _, _, s, _, _, _, _, c, _, _), hh => c.exceptionTable.toList = tableOf hh ∧ NCS s
theorem startL {g : Gm} {l : Launch} {y : MethodName} {cc : ByteArray} {maxL h mc ms : Nat} {As : List V} {σ : Sg} {own : String} {hh : List (Nat × Nat × Nat × Nat)} {post : Int → Sg → Prop} (hy : plainName y.cls = true) (ho : y.cls = own) (hA : As.length ≤ maxL)
    (body : ∀ X : Cx, CX X cc own h mc ms → X.1 = g → X.2.2.1 = l → RETI X cc (some .int) mc ms post → CTB X hh → GJ X 0 0 0 (As.map some ++ List.replicate (maxL - As.length) none) [] σ) : KL g l y cc maxL hh h mc ms As σ post := by
  refine met_ofWH (cc := cc) (maxL := maxL) (ret := some .int) (hh := hh) hy rfl ?_
  intro p e s m args below meth c s₁ B hml hv
  obtain ⟨rfl, ⟨hok, hP⟩, hnc⟩ := hv
  have hts := atoms_spec (ws := Cond.codeWith y cc maxL (some .int) hh :: BIG) B.pre
  have hown : s.vm.findClass own = some m.cls := by rw [← ho]; exact findClass_of_methodNamed B.named
  have hl := lv_entry (As.map (vv g)) (n := maxL) (by rw [sl_len]; exact hA)
  rw [lg_entry_eq]
  have hr := B.returns
  have hlocks := B.notSynchronized
  have htb : c.exceptionTable.toList = tableOf hh := vx_table (x := y) B (hts _ List.mem_cons_self)
  have key := body (g, p, l, e, rmH h mc ms, s, m, (As.map (vv g)).toArray, below, meth, c, MQ below (va_Qi (fun r σ' => ∃ z, r = ii z ∧ post z σ') (POST g) (gA g)) (As.map (vv g)).toArray s mc ms (gA g), maxL) ⟨B.exec, B.bytes, hml, hown, fun w hw => hts w (List.mem_cons_of_mem _ hw), hok, hlocks, rfl⟩ rfl rfl
    (fun pc L z σ ty a b ha hb hd hret hn hpost H locs ls _ hP hS _ => W.widen ha hb (W.zret (ty := ty) B.exec B.bytes (by rw [hr]; exact hret) hn (fun t ht hW => ⟨⟨ii z, σ, rfl, ⟨z, rfl, hpost⟩, by rw [POST, ht]; exact hP⟩, hS.F ht⟩) hS.2.2 hd hlocks))
    ⟨htb, hnc⟩
  exact key s.heap [] _ (by simp; omega) hP va_S.rf (lvl_start As _ hl)
/-- the law's catch types -/
def ctN (t : Nat) : String := if t = 13 then exIAE else if t = 15 then exISE else if t = 21 then exIOE else if t = 27 then nsN else if t = 83 then exUOE else exARE
def ctL : List Nat := [13, 15, 21, 27, 83, 95]
theorem ct_exc : ∀ t ∈ ctL, ctN t ∈ excN ∧ t ≠ 0 := by decide +kernel
theorem ct_link : ∀ t ∈ ctL, Cond.classLink RL t (ctN t) ∈ BIG :=
  List.forall_mem_cons.mpr ⟨big_of (List.mem_of_getElem? (i := 508) (by decide +kernel)) (by decide +kernel), List.forall_mem_cons.mpr ⟨big_of (List.mem_of_getElem? (i := 509) (by decide +kernel)) (by decide +kernel), List.forall_mem_cons.mpr ⟨big_of (List.mem_of_getElem? (i := 614) (by decide +kernel)) (by decide +kernel), List.forall_mem_cons.mpr ⟨big_of (List.mem_of_getElem? (i := 779) (by decide +kernel)) (by decide +kernel), List.forall_mem_cons.mpr ⟨big_of (List.mem_of_getElem? (i := 1039) (by decide +kernel)) (by decide +kernel), List.forall_mem_cons.mpr ⟨big_of (List.mem_of_getElem? (i := 1135) (by decide +kernel)) (by decide +kernel), fun _ h => absurd h List.not_mem_nil⟩⟩⟩⟩⟩⟩
/-- the handler j is the first that takes E, thrown at pc -/
def hOK (hh : List (Nat × Nat × Nat × Nat)) (pc j : Nat) (E : String) : Bool := (hh.take j).all (fun u => ctL.contains u.2.2.2 && !(ctN u.2.2.2 == E)) && (match hh[j]? with | some t => decide (t.1 ≤ pc) && decide (pc < t.2.1) && ctL.contains t.2.2.2 && (ctN t.2.2.2 == E) | none => false)
theorem lvl_none {g : Gm} : ∀ (n j : Nat), lvl g j (List.replicate n none) = []
  | 0, j => rfl
  | n + 1, j => by rw [List.replicate_succ, lvl, lvl_none n (j + 1)]
theorem split_at {α : Type} {l : List α} {j : Nat} {x : α} (h : l[j]? = some x) : l = l.take j ++ x :: l.drop (j + 1) := by
  obtain ⟨h1, h2⟩ := List.getElem?_eq_some_iff.mp h
  rw [← h2, ← List.drop_eq_getElem_cons h1, List.take_append_drop]
def isAst (cc : ByteArray) (pc i len : Nat) : Prop := (∃ q : Fin 4, (q : Nat) = i ∧ len = 1 ∧ decode cc pc = .ok (.astore_n q, 1)) ∨ (len = 2 ∧ decode cc pc = .ok (.astore i, 2))
section HC
variable {p : Program} {l : Launch} {e : Env} {R : Room} {s : State} {m : MethodId} {args : Array Value} {below : List Frame} {meth : Method} {c : Code} {H : Heap} {locs : List Loc} {cells slots : Nat} {Q : State → Prop}
/-- the handler stores its exception -/
theorem hx_store {cc : ByteArray} {pc i len nL q : Nat} {ls : Array Slot} {lv : List (Nat × Value)} {rest : List Value} (h1 : p.tables.exec = Jvm.exec) (h2 : c.code = cc) (hs : isAst cc pc i len) (hn : i < nL) (hls : lv_has ls nL lv) (kk : ∀ ls', lv_has ls' nL [] → W p l e R s m args below meth c H locs cells slots Q (F0 m (pc + len) ls' rest)) : W p l e R s m args below meth c H locs cells slots Q (F0 m pc ls (.ref q :: rest)) := by
  rcases hs with ⟨q9, rfl, rfl, d⟩ | ⟨rfl, d⟩
  · exact lv_astore_n h1 h2 d rfl hls hn rfl (fun ls' hl' => kk ls' ⟨hl'.1, hl'.2.1, fun _ h => absurd h List.not_mem_nil⟩)
  · exact lv_astore h1 h2 d hls hn rfl (fun ls' hl' => kk ls' ⟨hl'.1, hl'.2.1, fun _ h => absurd h List.not_mem_nil⟩)
/-- an exception comes to its handler -/
theorem hx_catch {g : Gm} {hh : List (Nat × Nat × Nat × Nat)} {pc j q : Nat} {t : Nat × Nat × Nat × Nat} {E : String} {ce : Cell} {ls : Array Slot} {rest : List Value} (hown : s.vm.findClass RL = some m.cls) (hb : ∀ w ∈ BIG, w.before args s = true) (hok : SOK g s) (htb : c.exceptionTable.toList = tableOf hh) (hnc : NCS s) (hj : hh[j]? = some t) (hO : hOK hh pc j E = true) (hE : E ∈ excN) (hcell : H[q]? = some ce) (hv : ce.vm = .none) (hcl : s.vm.findClass E = some ce.cls)
    (kk : W p l e R s m args below meth c H locs cells slots Q (F0 m t.2.2.1 ls [.ref q])) : vx_W p l e R s m args below meth c H locs cells slots Q (F0 m pc ls rest) q := by
  unfold hOK at hO
  rw [hj, Bool.and_eq_true] at hO
  obtain ⟨o1, o2⟩ := hO
  dsimp only at o2
  rw [Bool.and_eq_true, Bool.and_eq_true, Bool.and_eq_true, decide_eq_true_eq, decide_eq_true_eq] at o2
  obtain ⟨⟨⟨o3, o4⟩, o5⟩, o6⟩ := o2
  have o7 : t.2.2.2 ∈ ctL := List.contains_iff_mem.mp o5
  have o8 : ctN t.2.2.2 = E := eq_of_beq o6
  have hx : (tableOf hh)[j]? = some (⟨t.1, t.2.1, t.2.2.1, t.2.2.2⟩ : ExceptionTableEntry) := by
    unfold tableOf
    rw [List.getElem?_map, hj]
    rfl
  refine vx_catch (own := RL) (name := E) (E := E) hown ((tableOf hh).take j) ⟨t.1, t.2.1, t.2.2.1, t.2.2.2⟩ ((tableOf hh).drop (j + 1)) (by rw [htb]; exact split_at hx) (fun z hz => Or.inr ?_) (by simp [covers, o3, o4]) (ct_exc _ o7).2 (by have h9 := hb _ (ct_link _ o7); rw [o8] at h9; exact h9) (va_Nw.use rfl (hok.2.2.2.2.2.2.2.2.2.2.1 E hE)) hcell hv hcl kk
  have hz2 : z ∈ tableOf (hh.take j) := by
    unfold tableOf at hz ⊢
    rw [List.map_take]
    exact hz
  unfold tableOf at hz2
  obtain ⟨u, hu, rfl⟩ := List.mem_map.mp hz2
  have o9 := List.all_eq_true.mp o1 u hu
  rw [Bool.and_eq_true] at o9
  obtain ⟨p1, p2⟩ := o9
  have p3 : u.2.2.2 ∈ ctL := List.contains_iff_mem.mp p1
  refine ⟨(ct_exc _ p3).2, ctN u.2.2.2, hb _ (ct_link _ p3), hnc E hE _ (ct_exc _ p3).1 (fun e9 => ?_)⟩
  rw [← e9] at p2
  simp at p2
end HC
section HROWS
variable {X : Cx} {cc : ByteArray} {own : String} {h0 mc0 ms0 : Nat} {a b pc : Nat} {L : List (Option V)} {st st0 : List V} {σ : Sg}
variable {y : MethodName} {cy : ByteArray} {maxL hy mc ms n idx : Nat} {ret : Option FieldType} {As : List V}
theorem gx_callC {C : String} {T : u_T} {N ci k : Nat} {fl : List (Option Nat)} {hh : List (Nat × Nat × Nat × Nat)} {post : Int → Sg → Prop} {px : String → Sg → Prop} (hx : CX X cc RL h0 mc0 ms0) (hq : CTB X hh) (K : KXI X.1 X.2.2.1 y cy maxL ret hy mc ms (.inr k :: As) σ post px) (hl : Cond.methodLink RL idx y ∈ BIG) (hm : MWV y cy maxL ret C n) (d : decode cc pc = .ok (.invokevirtual idx, 3)) (hk : k < 83) (hs : shp k = .inr (ci, fl)) (hc : vwCl[ci]? = some (C, T, N)) (hn : As.length = n) (hst : As.reverse ++ .inr k :: st = st0) (hcat : st.length ≤ 8) (hh9 : hy < h0) (hr : a + mc ≤ mc0 ∧ b + ms ≤ ms0)
    (kx : ∀ E σ', px E σ' → ∃ (j : Nat) (t : Nat × Nat × Nat × Nat) (i len : Nat), hh[j]? = some t ∧ hOK hh pc j E = true ∧ E ∈ excN ∧ isAst cc t.2.2.1 i len ∧ i < L.length ∧ GJ X (a + mc) (b + ms) (t.2.2.1 + len) (List.replicate L.length none) [] σ')
    (kk : ∀ z σ', post z σ' → GJ X (a + mc) (b + ms) (pc + 3) L (.inl z :: st) σ') : GJ X a b pc L st0 σ := by
  obtain ⟨g, p, l, e, R, s, m, args, below, meth, c, Q, nL⟩ := X
  obtain ⟨h1, h2, h3, h4, h5, h6, h7, h8⟩ := hx
  obtain ⟨q1, q2⟩ := hq
  subst h8
  intro H locs ls hLn hP hS hls
  have hst9 : st0.map (vv g) = (As.map (vv g)).reverse ++ .ref (adr g k) :: st.map (vv g) := by rw [← hst, List.map_append, List.map_cons, List.map_reverse]; rfl
  have hg := goodV hl hm
  refine vx_calli (vx_runV (As := As.map (vv g)) (rest := st.map (vv g)) (b := adr g k) ⟨h1, h2, h3, h4, h5⟩ K (cwV n h5 hg rfl rfl rfl hm.2.2.2.2.1 (rm_fit hh9 hm.2.2.2.2.2)) ⟨pre_blind _ _ _, va_recv h6.1 hP (q := (C, T, N)) (q0 := k) hc (by rw [wl_at hk, enc_o hs]), fun U hU hW => ⟨rfl, h6.warm hW (by rw [hU]; exact hS), by rw [hU]; exact hP⟩⟩ rfl (by rw [List.length_map]; exact hn) hls.1 hst9 (lv_room (by rw [cat_sum]; exact hcat)) d hr) hS (fun q _ h => h) (fun q h => h) (fun q _ h => h) (fun E ce q9 u t H1 locs1 ht hvm hw hB hz1 hk1 hS1 hce hcv hcl => ?_) (fun r σ' t H1 locs1 ht hvm hw hB hz1 hk1 hS1 => ?_)
  · obtain ⟨E9, σ'⟩ := u
    obtain ⟨rfl, hB⟩ := hB
    rw [POST, ht] at hB
    obtain ⟨j, t9, i9, n9, k1, k2, k3, k4, k5, k6⟩ := kx _ σ' hw
    refine hx_catch h4 h5 h6 q1 q2 k1 k2 k3 hce hcv hcl ?_
    exact hx_store h1 h2 k4 (hLn ▸ k5) hls (fun ls' hl' => k6 H1 locs1 ls' (by rw [List.length_replicate]; exact hLn) hB hS1 (by rw [lvl_none]; exact hl'))
  · obtain ⟨z, rfl, hpost⟩ := hw
    rw [POST, ht] at hB
    exact kk z σ' hpost H1 locs1 ls hLn hB hS1 hls
theorem enc_upd_l {g : Gm} {v : Int} : enc g (upd2 σ 81 0 v) 81 = .inl (g.2.2.1 3, 1, .inr (.inl (vp_updL (fun j => Int64.ofInt (σ 81 (j : Int))) 0 (Int64.ofInt v)))) := by
  rw [enc_l (k := 81) (n := 1) rfl]
  congr 5
  funext j
  unfold vp_updL upd2
  by_cases hj : j = 0
  · subst hj
    rw [if_pos ⟨rfl, rfl⟩]
    simp
  · rw [if_neg (by omega), if_neg hj]
theorem vp_in_0 {n : Nat} (h : 0 < n) : vp_in 0 n := by
  intro hh
  rcases hh with h2 | h2
  · exact absurd h2 (by decide)
  · have : (0 : Int32).toNatClampNeg = 0 := by decide
    omega
/-- a long is stored into the out cell -/
theorem gx_lst {v : Int} (hx : CX X cc own h0 mc0 ms0) (d2 : decode cc pc = .ok (.lastore, 1)) (kk : GJ X a b (pc + 1) L st (upd2 σ 81 0 v)) : ∀ (H : Heap) (locs : List Loc) (ls : Array Slot), L.length = X.2.2.2.2.2.2.2.2.2.2.2.2 → va_P X.1.1 vwCl (wl X.1 σ) H → va_S (gA X.1) X.2.2.2.2.2.1.heap H locs → lv_has ls X.2.2.2.2.2.2.2.2.2.2.2.2 (lvl X.1 0 L) → W X.2.1 X.2.2.1 X.2.2.2.1 X.2.2.2.2.1 X.2.2.2.2.2.1 X.2.2.2.2.2.2.1 X.2.2.2.2.2.2.2.1 X.2.2.2.2.2.2.2.2.1 X.2.2.2.2.2.2.2.2.2.1 X.2.2.2.2.2.2.2.2.2.2.1 H locs a b X.2.2.2.2.2.2.2.2.2.2.2.1 (F0 X.2.2.2.2.2.2.1 pc ls (.long (Int64.ofInt v) :: .int 0 :: .ref (adr X.1 81) :: st.map (vv X.1))) := by
  obtain ⟨g, p, l, e, R, s, m, args, below, meth, c, Q, nL⟩ := X
  obtain ⟨h1, h2, h3, h4, h5, h6, h7, h8⟩ := hx
  intro H locs ls hLn hP hS hls
  dsimp only at hLn hP hS hls ⊢
  refine va_last h1 h2 h6.1 hP (h6.D σ) hS 81 3 (by rw [wl_at (by decide), enc_l (k := 81) (n := 1) rfl]) rfl (vp_in_0 (by decide)) d2 (fun H1 locs1 hP1 _ hS1 => ?_)
  have he : (wl g σ).set 81 (adr g 81, .inl (g.2.2.1 3, 1, .inr (.inl (vp_updL (fun j => Int64.ofInt (σ 81 (j : Int))) (0 : Int32).toNatClampNeg (Int64.ofInt v))))) = wl g (upd2 σ 81 0 v) := wl_set (by decide) enc_upd_l upd2_other
  rw [he] at hP1
  exact kk H1 locs1 ls hLn hP1 hS1 hls
theorem gx_last {z : Int} (hx : CX X cc own h0 mc0 ms0) (d1 : decode cc pc = .ok (.i2l, 1)) (d2 : decode cc (pc + 1) = .ok (.lastore, 1)) (kk : GJ X a b (pc + 1 + 1) L st (upd2 σ 81 0 (ii z).toInt)) : GJ X a b pc L (.inl z :: .inl 0 :: .inr 81 :: st) σ := by
  have hx2 := hx
  obtain ⟨g, p, l, e, R, s, m, args, below, meth, c, Q, nL⟩ := X
  obtain ⟨h1, h2, h3, h4, h5, h6, h7, h8⟩ := hx
  intro H locs ls hLn hP hS hls
  refine lv_i2l h1 h2 d1 (Int64.ofInt_int32ToInt (ii z)).symm ?_
  exact gx_lst hx2 d2 kk H locs ls hLn hP hS hls
theorem gx_lc0 (hx : CX X cc own h0 mc0 ms0) (d1 : decode cc pc = .ok (.lconst 0, 1)) (d2 : decode cc (pc + 1) = .ok (.lastore, 1)) (kk : GJ X a b (pc + 1 + 1) L st (upd2 σ 81 0 0)) : GJ X a b pc L (.inl 0 :: .inr 81 :: st) σ := by
  have hx2 := hx
  obtain ⟨g, p, l, e, R, s, m, args, below, meth, c, Q, nL⟩ := X
  obtain ⟨h1, h2, h3, h4, h5, h6, h7, h8⟩ := hx
  intro H locs ls hLn hP hS hls
  refine lv_lconst (v := Int64.ofInt 0) h1 h2 d1 (by decide) ?_
  exact gx_lst hx2 d2 kk H locs ls hLn hP hS hls
theorem gx_lc1 {off : Int} {tgt : Nat} (hx : CX X cc own h0 mc0 ms0) (d1 : decode cc pc = .ok (.lconst 1, 1)) (d3 : decode cc (pc + 1) = .ok (.goto off, 3)) (ht : ((pc + 1 : Nat) : Int) + off = (tgt : Int)) (d2 : decode cc tgt = .ok (.lastore, 1)) (kk : GJ X a b (tgt + 1) L st (upd2 σ 81 0 1)) : GJ X a b pc L (.inl 0 :: .inr 81 :: st) σ := by
  have hx2 := hx
  obtain ⟨g, p, l, e, R, s, m, args, below, meth, c, Q, nL⟩ := X
  obtain ⟨h1, h2, h3, h4, h5, h6, h7, h8⟩ := hx
  intro H locs ls hLn hP hS hls
  refine lv_lconst (v := Int64.ofInt 1) h1 h2 d1 (by decide) ?_
  refine lv_goto h1 h2 d3 ht ?_
  exact gx_lst hx2 d2 kk H locs ls hLn hP hS hls
/-- a helper is called -/
def MWL (y : MethodName) (cy : ByteArray) (maxL : Nat) (hh : List (Nat × Nat × Nat × Nat)) (n : Nat) : Prop :=
  Cond.codeWith y cy maxL (some .int) hh ∈ BIG ∧ Cond.static y ∈ BIG ∧ Cond.initialized y.cls ∈ BIG ∧ (y.cls ≠ "java/lang/invoke/MethodHandle" ∧ y.cls ≠ "java/lang/invoke/VarHandle" ∧ (parseMethodDescriptor y.desc).map (fun d => d.parameters.length) = some n) ∧ maxL ≤ 40
theorem goodL {hh : List (Nat × Nat × Nat × Nat)} (hl : Cond.methodLink own idx y ∈ BIG) (hm : MWL y cy maxL hh n) : GoodIn BIG (va_wsS own idx y (Cond.codeWith y cy maxL (some .int) hh :: BIG)) := by
  obtain ⟨m1, m2, m3, -⟩ := hm
  intro w hw
  simp only [va_wsS, List.mem_append, List.mem_cons, List.not_mem_nil, or_false] at hw
  rcases hw with (rfl | rfl | rfl) | rfl | h
  · first | exact good_big hl | exact good_big m2 | exact good_big m3
  · first | exact good_big hl | exact good_big m2 | exact good_big m3
  · first | exact good_big hl | exact good_big m2 | exact good_big m3
  · exact good_big m1
  · exact good_big h
theorem gx_callL {hh : List (Nat × Nat × Nat × Nat)} {post : Int → Sg → Prop} (hx : CX X cc own h0 mc0 ms0) (hnc : NCS X.2.2.2.2.2.1) (K : KL X.1 X.2.2.1 y cy maxL hh hy mc ms As σ post) (hl : Cond.methodLink own idx y ∈ BIG) (hm : MWL y cy maxL hh n) (d : decode cc pc = .ok (.invokestatic idx, 3)) (hn : As.length = n) (hst : As.reverse ++ st = st0) (hcat : st.length ≤ 8) (hh9 : hy < h0) (hr : a + mc ≤ mc0 ∧ b + ms ≤ ms0)
    (kk : ∀ z σ', post z σ' → GJ X (a + mc) (b + ms) (pc + 3) L (.inl z :: st) σ') : GJ X a b pc L st0 σ := by
  obtain ⟨g, p, l, e, R, s, m, args, below, meth, c, Q, nL⟩ := X
  obtain ⟨h1, h2, h3, h4, h5, h6, h7, h8⟩ := hx
  subst h8
  intro H locs ls hLn hP hS hls
  have hst9 : st0.map (vv g) = (As.map (vv g)).reverse ++ st.map (vv g) := by rw [← hst, List.map_append, List.map_reverse]
  refine va_calli (vx_runSW (As := As.map (vv g)) (rest := st.map (vv g)) ⟨h1, h2, h3, h4, h5⟩ K (vx_cwSW n h5 (goodL hl hm) rfl rfl rfl hm.2.2.2.1 (rm_fit hh9 hm.2.2.2.2)) ⟨prel_blind _ _ _, fun U hU hW => ⟨rfl, ⟨h6.warm hW (by rw [hU]; exact hS), by rw [hU]; exact hP⟩, hnc.moved hW.alike⟩⟩ rfl (by rw [List.length_map]; exact hn) hls.1 hst9 (lv_room (by rw [cat_sum]; exact hcat)) d hr) hS (fun q _ h => h) (fun q h => h) (fun r σ' t H1 locs1 ht hvm hw hB hz1 hk1 hS1 => ?_)
  obtain ⟨z, rfl, hpost⟩ := hw
  rw [POST, ht] at hB
  exact kk z σ' hpost H1 locs1 ls hLn hB hS1 hls
end HROWS
end HELP
