/-! The constructors' machine: a world that grows -/
section CTOR
abbrev Cg : Type := va_G × (Nat → ClassId)
abbrev tyC (d : Cg) : List (ClassId × FieldType) := [(d.2 0, .int), (d.2 1, .char), (d.2 2, .boolean), (d.2 3, .long), (d.2 4, .double), (d.2 5, .object RX6)]
/-- what constructors need of the machine -/
def COK (d : Cg) (U : State) : Prop := va_K d.1 vwCl (tyC d) U ∧ (∀ q ∈ nestW, va_Nw (.methodLinkNest q.1 q.2.1 q.2.2.1 q.2.2.2) U) ∧ va_AO RX6 U
theorem COK.warm {d : Cg} {s U : State} (h : COK d s) (hW : s.WarmedH U.vm) : COK d U := ⟨va_K.moved hW.alike h.1, fun q hq => va_Nw.warmM hW (h.2.1 q hq), va_AO.moved hW.alike h.2.2⟩
theorem COK.same {d : Cg} {s U : State} (h : COK d s) (hv : U.vm = s.vm) : COK d U := by
  have ha : s.vm.Alike U.vm := by rw [hv]; exact Vm.Alike.refl s.vm
  exact ⟨va_K.moved ha h.1, fun q hq => va_Nw.same rfl hv.symm (h.2.1 q hq), va_AO.moved ha h.2.2⟩
abbrev Cy : Type := Cg × Program × Launch × Env × Room × State × MethodId × Array Value × List Frame × Method × Code × (State → Prop) × Nat × (Nat → Prop)
def CJ : Cy → Nat → Nat → Nat → List (Nat × Value) → List Value → va_W → Prop
  | (d, p, l, e, R, s, m, args, below, meth, c, Q, nL, A), cl, sl, pc, L, st, ws => ∀ (H : Heap) (locs : List Loc) (ls : Array Slot), va_P d.1 vwCl ws H → va_D A ws → va_S A s.heap H locs → lv_has ls nL L → W p l e R s m args below meth c H locs cl sl Q (F0 m pc ls st)
def CC : Cy → ByteArray → String → Nat → Nat → Nat → Prop
  | (d, p, _, _, R, s, m, args, _, meth, c, _, nL, A), cc, own, h, mc, ms => p.tables.exec = Jvm.exec ∧ c.code = cc ∧ c.maxLocals = nL ∧ s.vm.findClass own = some m.cls ∧ (∀ w ∈ BIG, w.before args s = true) ∧ COK d s ∧ meth.locks = false ∧ R = rmH h mc ms ∧ (∀ q : Nat, s.heap.size ≤ q → A q)
def CI : Cy → Prop
  | (_, _, _, _, _, _, _, _, _, meth, _, _, _, _) => meth.name = "<init>"
def PREC (d : Cg) (a ci : Nat) (fs : List Value) (sz : Nat) (U : State) : Prop := U.heap.size = sz ∧ COK d U ∧ va_P d.1 vwCl [(a, .inr (ci, fs))] U.heap
theorem prec_blind (d : Cg) (a ci : Nat) (fs : List Value) (sz : Nat) (As : List Value) : FrameBlind (va_Pc As (PREC d a ci fs sz)) := fun x U f mk q => ⟨q.1, q.2.1, q.2.2.1.same (U := U.calling f mk x) rfl, q.2.2.2⟩
/-- a constructor's contract: from the new object, to a world that begins with it -/
def KC (d : Cg) (l : Launch) (y : MethodName) (cc : ByteArray) (maxL h mc ms : Nat) (a : Nat) (As : List Value) (ci : Nat) (fs : List Value) (post : va_W → Prop) : Prop :=
  ∀ sz : Nat, Met l y (Cond.code y cc maxL none :: BIG) (rmH h mc ms) (va_Pc (.ref a :: As) (PREC d a ci fs sz)) (va_Qv post (fun w t => va_P d.1 vwCl w t.heap ∧ va_D (va_A [(a, .inr (ci, fs))] sz) w) (va_A [(a, .inr (ci, fs))] sz)) mc ms (va_A [(a, .inr (ci, fs))] sz)
def RETC (X : Cy) (cc : ByteArray) (mc ms : Nat) (post : va_W → Prop) : Prop := ∀ (pc : Nat) (L : List (Nat × Value)) (ws : va_W) (a b : Nat), a ≤ mc → b ≤ ms → decode cc pc = .ok (.return_, 1) → post ws → CJ X a b pc L [] ws
theorem va_D_one (a : Nat) (e : va_E) : va_D (fun _ => True) [(a, e)] := by
  refine ⟨fun i j p q hi hj _ => ?_, fun _ _ _ => trivial⟩
  have h1 := (List.getElem?_eq_some_iff.mp hi).1
  have h2 := (List.getElem?_eq_some_iff.mp hj).1
  simp only [List.length_cons, List.length_nil] at h1 h2
  omega
theorem startC {d : Cg} {l : Launch} {y : MethodName} {cc : ByteArray} {maxL h mc ms a ci : Nat} {As fs : List Value} {own : String} {post : va_W → Prop} (hy : plainName y.cls = true) (hi : y.name = "<init>") (ho : y.cls = own) (hA : (lg_sl (.ref a :: As)).length ≤ maxL)
    (body : ∀ X : Cy, CC X cc own h mc ms → CI X → X.1 = d → X.2.2.1 = l → X.2.2.2.2.2.2.2.2.2.2.2.2.1 = maxL → RETC X cc mc ms post → CJ X 0 0 0 (lv_args 0 (.ref a :: As)) [] [(a, .inr (ci, fs))]) : KC d l y cc maxL h mc ms a As ci fs post := by
  intro sz
  refine Met.ofW (cc := cc) (maxL := maxL) (ret := none) hy rfl ?_
  intro p e s m args below meth c s₁ B hml hv
  obtain ⟨rfl, hsz, hok, hP⟩ := hv
  subst hsz
  have hts := atoms_spec (ws := Cond.code y cc maxL none :: BIG) B.pre
  have hown : s.vm.findClass own = some m.cls := by rw [← ho]; exact findClass_of_methodNamed B.named
  have hl := lv_entry (.ref a :: As) (n := maxL) hA
  rw [lg_entry_eq]
  have hr := B.returns
  have hlocks := B.notSynchronized
  have hin : meth.name = "<init>" := (name_of_methodNamed B.named B.method).1.trans hi
  have hD := (va_D_one a (.inr (ci, fs))).self (sz := s.heap.size)
  have key := body (d, p, l, e, rmH h mc ms, s, m, (Value.ref a :: As).toArray, below, meth, c, MQ below (va_Qv post (fun w t => va_P d.1 vwCl w t.heap ∧ va_D (va_A [(a, .inr (ci, fs))] s.heap.size) w) (va_A [(a, .inr (ci, fs))] s.heap.size)) (Value.ref a :: As).toArray s mc ms (va_A [(a, .inr (ci, fs))] s.heap.size), maxL, va_A [(a, .inr (ci, fs))] s.heap.size)
    ⟨B.exec, B.bytes, hml, hown, fun w hw => hts w (List.mem_cons_of_mem _ hw), hok, hlocks, rfl, fun q hq => Or.inr hq⟩ hin rfl rfl rfl
    (fun pc L ws a b ha hb hd hpost H locs ls hP hD hS _ => W.widen ha hb (W.vret B.exec B.bytes hr (fun t ht hW => ⟨⟨ws, rfl, hpost, by rw [ht]; exact hP, hD⟩, hS.F ht⟩) hS.2.2 hd hlocks))
  exact key s.heap [] _ hP hD va_S.rf hl
theorem ra_uniq {U : State} {cA cB : ClassId} {ty : FieldType} (h1 : va_RA U cA ty) (h2 : va_RA U cB ty) : cA = cB := by
  cases ty with
  | object C =>
    obtain ⟨_, _, _, _, _, h1⟩ := h1
    obtain ⟨_, _, _, _, _, h2⟩ := h2
    exact Option.some.inj (h1.symm.trans h2)
  | _ => exact Option.some.inj (Eq.trans (Eq.symm h1) h2)
/-- a new object's words: the entry idx of own is the class numbered ci, fs its first values -/
def NW (own : String) (idx ci : Nat) (fs : List Value) : Prop := ∃ (C : String) (T : u_T) (ty0 : Nat → FieldType), vwCl[ci]? = some (C, T, fs.length) ∧ (∀ w ∈ u_ws C T fs.length, w ∈ BIG) ∧ (∀ k, k < fs.length → parseFieldDescriptor (T k).2.2.1 = some (ty0 k)) ∧ Cond.classLink own idx C ∈ BIG ∧ Cond.instantiable C fs.length ∈ BIG ∧ Cond.initialized C ∈ BIG ∧ ∀ j, j < fs.length → defaultValue (ty0 j) = vp_V fs j
/-- a final field's link -/
def FPQ (own : String) (idx ci i : Nat) (ty : FieldType) : Prop := ∃ (C : String) (T : u_T) (N : Nat) (ty0 : Nat → FieldType), vwCl[ci]? = some (C, T, N) ∧ (∀ w ∈ u_ws C T N, w ∈ BIG) ∧ i < N ∧ Cond.fieldLink own idx (T i).1 (T i).2.1 (T i).2.2.1 ∈ BIG ∧ (∀ k, k < N → parseFieldDescriptor (T k).2.2.1 = some (ty0 k)) ∧ (∀ a, a < N → ∀ b, b < N → a ≠ b → (T a).2.1 ≠ (T b).2.1) ∧ (T i).2.2.2 = true ∧ ty0 i = ty ∧ (T i).1 = own
/-- a constructor's words -/
def MWI (y : MethodName) (cy : ByteArray) (maxL n : Nat) : Prop := Cond.code y cy maxL none ∈ BIG ∧ Cond.instanceMethod y ∈ BIG ∧ Cond.initialized y.cls ∈ BIG ∧ y.name = "<init>" ∧ (y.cls ≠ "java/lang/invoke/MethodHandle" ∧ y.cls ≠ "java/lang/invoke/VarHandle" ∧ (parseMethodDescriptor y.desc).map (fun d => d.parameters.length) = some n) ∧ maxL ≤ 40
theorem va_nd_range : ∀ n k : Nat, va_nd (List.range' k n) = true
  | 0, k => rfl
  | n + 1, k => by
    rw [List.range'_succ, va_nd, va_nd_range n (k + 1), Bool.and_true, decide_eq_true_eq, List.mem_range'_1]
    omega
theorem map_rest {α : Type} (w : List α) (x : α) : (List.range' 0 w.length).map (fun i => (w ++ [x])[i]?) = w.map some := by
  apply List.ext_getElem?
  intro i
  rw [List.getElem?_map, List.getElem?_map]
  by_cases h : i < w.length
  · rw [List.getElem?_range' h, Option.map_some, Nat.zero_add, Nat.one_mul, List.getElem?_append_left (by omega), List.getElem?_eq_getElem h]
    rfl
  · rw [List.getElem?_eq_none (by rw [List.length_range']; omega), List.getElem?_eq_none (by omega)]
    rfl
section ROWSC
variable {X : Cy} {cc : ByteArray} {own : String} {h0 mc0 ms0 : Nat} {a b pc : Nat} {L : List (Nat × Value)} {st : List Value} {ws : va_W}
theorem CJ.eq {ws' : va_W} (h : ws' = ws) (kk : CJ X a b pc L st ws') : CJ X a b pc L st ws := h ▸ kk
theorem cj_objInit {idx x : Nat} (hx : CC X cc own h0 mc0 ms0) (hl : Cond.methodLink own idx Lib.objectInit ∈ BIG) (h2 : Cond.instanceMethod Lib.objectInit ∈ BIG) (h3 : Cond.code Lib.objectInit ⟨#[0xb1]⟩ 1 none ∈ BIG) (d : decode cc pc = .ok (.invokespecial idx, 3)) (hs : (st.map fun v => v.category).sum ≤ 8) (kk : CJ X a b (pc + 3) L st ws) : CJ X a b pc L (.ref x :: st) ws := by
  obtain ⟨dg, p, l, e, R, s, m, args, below, meth, c, Q, nL, A⟩ := X
  obtain ⟨h1, h4, h5, h6, h7, h8, h9, h10, h11⟩ := hx
  subst h10
  intro H locs ls hP hD hS hls
  refine W.objInit h1 h4 h6 (h7 _ hl) (h7 _ h2) (h7 _ h3) rfl (by rw [h5]; exact hls.1) rfl d (by show 1 ≤ 8 + h0; omega) ?_ (kk H locs ls hP hD hS hls)
  have := lv_room (m := m) (pc := pc) (ls := ls) (rest := Value.ref x :: st) hs
  show _ + _ + 12 ≤ 300 + 60 * h0
  omega
theorem cj_aload_n {k : Fin 4} {x j : Nat} (hx : CC X cc own h0 mc0 ms0) (d : decode cc pc = .ok (.aload_n k, 1)) (hl : L[j]? = some ((k : Nat), .ref x)) (kk : CJ X a b (pc + 1) L (.ref x :: st) ws) : CJ X a b pc L st ws := by
  obtain ⟨dg, p, l, e, R, s, m, args, below, meth, c, Q, nL, A⟩ := X
  obtain ⟨h1, h2, -⟩ := hx
  intro H locs ls hP hD hS hls
  exact lv_aload_n h1 h2 d rfl (lv_at hls j hl) (kk H locs ls hP hD hS hls)
theorem cj_iload_n {k : Fin 4} {j : Nat} {x : Int32} (hx : CC X cc own h0 mc0 ms0) (d : decode cc pc = .ok (.iload_n k, 1)) (hl : L[j]? = some ((k : Nat), .int x)) (kk : CJ X a b (pc + 1) L (.int x :: st) ws) : CJ X a b pc L st ws := by
  obtain ⟨dg, p, l, e, R, s, m, args, below, meth, c, Q, nL, A⟩ := X
  obtain ⟨h1, h2, -⟩ := hx
  intro H locs ls hP hD hS hls
  exact lv_iload_n h1 h2 d rfl (lv_at hls j hl) (kk H locs ls hP hD hS hls)
theorem cj_istore_n {k : Fin 4} {x : Int32} {L' : List (Nat × Value)} (hx : CC X cc own h0 mc0 ms0) (hn : (k : Nat) < X.2.2.2.2.2.2.2.2.2.2.2.2.1) (d : decode cc pc = .ok (.istore_n k, 1)) (hl : ((k : Nat), Value.int x) :: L.filter (fun q => !(q.1 == (k : Nat)) && !(q.1 + 1 == (k : Nat) && q.2.category == 2)) = L') (kk : CJ X a b (pc + 1) L' st ws) : CJ X a b pc L (.int x :: st) ws := by
  obtain ⟨dg, p, l, e, R, s, m, args, below, meth, c, Q, nL, A⟩ := X
  obtain ⟨h1, h2, -⟩ := hx
  intro H locs ls hP hD hS hls
  exact lv_istore_n h1 h2 d rfl hls hn hl (fun ls' hl' => kk H locs ls' hP hD hS hl')
theorem cj_astore_n {k : Fin 4} {x : Nat} {L' : List (Nat × Value)} (hx : CC X cc own h0 mc0 ms0) (hn : (k : Nat) < X.2.2.2.2.2.2.2.2.2.2.2.2.1) (d : decode cc pc = .ok (.astore_n k, 1)) (hl : ((k : Nat), Value.ref x) :: L.filter (fun q => !(q.1 == (k : Nat)) && !(q.1 + 1 == (k : Nat) && q.2.category == 2)) = L') (kk : CJ X a b (pc + 1) L' st ws) : CJ X a b pc L (.ref x :: st) ws := by
  obtain ⟨dg, p, l, e, R, s, m, args, below, meth, c, Q, nL, A⟩ := X
  obtain ⟨h1, h2, -⟩ := hx
  intro H locs ls hP hD hS hls
  exact lv_astore_n h1 h2 d rfl hls hn hl (fun ls' hl' => kk H locs ls' hP hD hS hl')
theorem cj_astore {i x : Nat} {L' : List (Nat × Value)} (hx : CC X cc own h0 mc0 ms0) (hn : i < X.2.2.2.2.2.2.2.2.2.2.2.2.1) (d : decode cc pc = .ok (.astore i, 2)) (hl : (i, Value.ref x) :: L.filter (fun q => !(q.1 == i) && !(q.1 + 1 == i && q.2.category == 2)) = L') (kk : CJ X a b (pc + 2) L' st ws) : CJ X a b pc L (.ref x :: st) ws := by
  obtain ⟨dg, p, l, e, R, s, m, args, below, meth, c, Q, nL, A⟩ := X
  obtain ⟨h1, h2, -⟩ := hx
  intro H locs ls hP hD hS hls
  exact lv_astore h1 h2 d hls hn hl (fun ls' hl' => kk H locs ls' hP hD hS hl')
theorem cj_iinc {i j : Nat} {n : Int} {x v : Int32} {L' : List (Nat × Value)} (hx : CC X cc own h0 mc0 ms0) (hn : i < X.2.2.2.2.2.2.2.2.2.2.2.2.1) (d : decode cc pc = .ok (.iinc i n, 3)) (hk : L[j]? = some (i, .int x)) (hv : x + Int32.ofInt n = v) (hl : (i, Value.int v) :: L.filter (fun q => !(q.1 == i) && !(q.1 + 1 == i && q.2.category == 2)) = L') (kk : CJ X a b (pc + 3) L' st ws) : CJ X a b pc L st ws := by
  obtain ⟨dg, p, l, e, R, s, m, args, below, meth, c, Q, nL, A⟩ := X
  obtain ⟨h1, h2, -⟩ := hx
  intro H locs ls hP hD hS hls
  exact lv_iinc h1 h2 d hls hk hv hn hl (fun ls' hl' => kk H locs ls' hP hD hS hl')
theorem cj_iconst {n : Int} {v : Int32} (hx : CC X cc own h0 mc0 ms0) (d : decode cc pc = .ok (.iconst n, 1)) (hv : Int32.ofInt n = v) (kk : CJ X a b (pc + 1) L (.int v :: st) ws) : CJ X a b pc L st ws := by
  obtain ⟨dg, p, l, e, R, s, m, args, below, meth, c, Q, nL, A⟩ := X
  obtain ⟨h1, h2, -⟩ := hx
  intro H locs ls hP hD hS hls
  exact lv_iconst h1 h2 d hv (kk H locs ls hP hD hS hls)
theorem cj_bipush {n : Int} {v : Int32} (hx : CC X cc own h0 mc0 ms0) (d : decode cc pc = .ok (.bipush n, 2)) (hv : (Int8.ofInt n).toInt32 = v) (kk : CJ X a b (pc + 2) L (.int v :: st) ws) : CJ X a b pc L st ws := by
  obtain ⟨dg, p, l, e, R, s, m, args, below, meth, c, Q, nL, A⟩ := X
  obtain ⟨h1, h2, -⟩ := hx
  intro H locs ls hP hD hS hls
  exact lv_bipush h1 h2 d hv (kk H locs ls hP hD hS hls)
theorem cj_sipush {n : Int} {v : Int32} (hx : CC X cc own h0 mc0 ms0) (d : decode cc pc = .ok (.sipush n, 3)) (hv : (Int16.ofInt n).toInt32 = v) (kk : CJ X a b (pc + 3) L (.int v :: st) ws) : CJ X a b pc L st ws := by
  obtain ⟨dg, p, l, e, R, s, m, args, below, meth, c, Q, nL, A⟩ := X
  obtain ⟨h1, h2, -⟩ := hx
  intro H locs ls hP hD hS hls
  exact lv_sipush h1 h2 d hv (kk H locs ls hP hD hS hls)
theorem cj_dup {x : Nat} (hx : CC X cc own h0 mc0 ms0) (d : decode cc pc = .ok (.dup, 1)) (kk : CJ X a b (pc + 1) L (.ref x :: .ref x :: st) ws) : CJ X a b pc L (.ref x :: st) ws := by
  obtain ⟨dg, p, l, e, R, s, m, args, below, meth, c, Q, nL, A⟩ := X
  obtain ⟨h1, h2, -⟩ := hx
  intro H locs ls hP hD hS hls
  exact lv_dup h1 h2 d rfl (kk H locs ls hP hD hS hls)
theorem cj_goto {off : Int} {tgt : Nat} (hx : CC X cc own h0 mc0 ms0) (d : decode cc pc = .ok (.goto off, 3)) (ht : (pc : Int) + off = (tgt : Int)) (kk : CJ X a b tgt L st ws) : CJ X a b pc L st ws := by
  obtain ⟨dg, p, l, e, R, s, m, args, below, meth, c, Q, nL, A⟩ := X
  obtain ⟨h1, h2, -⟩ := hx
  intro H locs ls hP hD hS hls
  exact lv_goto h1 h2 d ht (kk H locs ls hP hD hS hls)
theorem cj_ge_no {x y : Int32} {off : Int} {tgt : Nat} (hx : CC X cc own h0 mc0 ms0) (d : decode cc pc = .ok (.if_icmp .ge off, 3)) (ht : (pc : Int) + off = (tgt : Int)) (hn : x < y) (kk : CJ X a b (pc + 3) L st ws) : CJ X a b pc L (.int y :: .int x :: st) ws := by
  obtain ⟨dg, p, l, e, R, s, m, args, below, meth, c, Q, nL, A⟩ := X
  obtain ⟨h1, h2, -⟩ := hx
  intro H locs ls hP hD hS hls
  exact lv_icmp_ge h1 h2 d ht (fun h => absurd hn (Int32.not_lt.mpr h)) (fun _ => kk H locs ls hP hD hS hls)
theorem cj_ge_yes {x y : Int32} {off : Int} {tgt : Nat} (hx : CC X cc own h0 mc0 ms0) (d : decode cc pc = .ok (.if_icmp .ge off, 3)) (ht : (pc : Int) + off = (tgt : Int)) (hn : y ≤ x) (kk : CJ X a b tgt L st ws) : CJ X a b pc L (.int y :: .int x :: st) ws := by
  obtain ⟨dg, p, l, e, R, s, m, args, below, meth, c, Q, nL, A⟩ := X
  obtain ⟨h1, h2, -⟩ := hx
  intro H locs ls hP hD hS hls
  exact lv_icmp_ge h1 h2 d ht (fun _ => kk H locs ls hP hD hS hls) (fun h => absurd hn h)
theorem cj_newa {t N : Nat} {n : Int32} {atype : ArrayType} {ty : FieldType} {a0 : vp_A} (hx : CC X cc own h0 mc0 ms0) (harr : Cond.arrayClass ty ∈ BIG) (hty : newarray.typeOf atype = ty) (ht : (tyC X.1)[t]? = some (X.1.2 t, ty)) (ha : ∀ cA : ClassId, vp_cell cA a0 = arrV cA N (fun _ => defaultValue ty)) (hn : ¬ n < 0) (hN : n.toNatClampNeg = N) (hb : N * componentBytes ty ≤ 536870912) (d : decode cc pc = .ok (.newarray atype, 2)) (hr : a + 1 ≤ mc0 ∧ b + N ≤ ms0) (kk : ∀ q : Nat, CJ X (a + 1) (b + N) (pc + 2) L (.ref q :: st) (ws ++ [(q, .inl (X.1.2 t, a0))])) : CJ X a b pc L (.int n :: st) ws := by
  obtain ⟨dg, p, l, e, R, s, m, args, below, meth, c, Q, nL, A⟩ := X
  obtain ⟨h1, h2, h3, h4, h5, h6, h7, h8, h9⟩ := hx
  subst h8
  subst hty
  intro H locs ls hP hD hS hls
  refine va_newa (atype := atype) h1 h2 (h5 _ harr) rfl h6.1 hP hD hS h9 ha hn hN hb hr.1 hr.2 d (fun q cA H1 hK hP hD hS => ?_)
  have e1 := (hK.2 6 (cA, newarray.typeOf atype) rfl).2
  have e2 := (h6.1.2 t _ ht).2
  have e3 := ra_uniq e1 e2
  dsimp only at e3
  subst e3
  exact kk q H1 locs ls hP hD hS hls
theorem cj_newq {idx N : Nat} {n : Int32} (hx : CC X cc own h0 mc0 ms0) (hl : Cond.classLink own idx RX6 ∈ BIG) (hn : ¬ n < 0) (hN : n.toNatClampNeg = N) (hb : N * 4 ≤ 536870912) (d : decode cc pc = .ok (.anewarray idx, 3)) (hr : a + 1 ≤ mc0 ∧ b + N ≤ ms0) (kk : ∀ q : Nat, CJ X (a + 1) (b + N) (pc + 3) L (.ref q :: st) (ws ++ [(q, .inl (X.1.2 5, N, .inr (.inr (.inr (.inr (fun _ => none))))))])) : CJ X a b pc L (.int n :: st) ws := by
  obtain ⟨dg, p, l, e, R, s, m, args, below, meth, c, Q, nL, A⟩ := X
  obtain ⟨h1, h2, h3, h4, h5, h6, h7, h8, h9⟩ := hx
  subst h8
  intro H locs ls hP hD hS hls
  refine va_newq h1 h2 h4 (h5 _ hl) h6.2.2 h6.1 hP hD hS h9 hn hN hb hr.1 hr.2 d (fun q cA H1 hK hP hD hS => ?_)
  have e1 := (hK.2 6 (cA, .object RX6) rfl).2
  have e2 := (h6.1.2 5 _ rfl).2
  have e3 := ra_uniq e1 e2
  dsimp only at e3
  subst e3
  exact kk q H1 locs ls hP hD hS hls
theorem cj_new {idx ci N : Nat} {fs : List Value} (hx : CC X cc own h0 mc0 ms0) (hw : NW own idx ci fs) (hN : fs.length = N) (d : decode cc pc = .ok (.new idx, 3)) (hr : a + 1 ≤ mc0 ∧ b + N ≤ ms0) (kk : ∀ q : Nat, CJ X (a + 1) (b + N) (pc + 3) L (.ref q :: st) (ws ++ [(q, .inr (ci, fs))])) : CJ X a b pc L st ws := by
  obtain ⟨dg, p, l, e, R, s, m, args, below, meth, c, Q, nL, A⟩ := X
  obtain ⟨h1, h2, h3, h4, h5, h6, h7, h8, h9⟩ := hx
  obtain ⟨C, T, ty0, n1, n2, n3, n4, n5, n6, n7⟩ := hw
  subst h8
  subst hN
  intro H locs ls hP hD hS hls
  exact va_new (ci := ci) (fs := fs) (C := C) (T := T) (N := fs.length) h1 h2 h5 n2 ty0 n3 h4 (h5 _ n4) (h5 _ n5) (h5 _ n6) h6.1 hP hD hS h9 n1 n7 hr.1 hr.2 d (fun q H1 hP hD hS => kk q H1 locs ls hP hD hS hls)
theorem cj_putF {idx ci i q0 x : Nat} {fs : List Value} {v : Value} {ty : FieldType} (hx : CC X cc own h0 mc0 ms0) (hi : CI X) (hF : FPQ own idx ci i ty) (d : decode cc pc = .ok (.putfield idx, 3)) (he : ws[q0]? = some (x, .inr (ci, fs))) (hn : narrow ty v = v) (hfit : fits ty v = true) (hl : i < fs.length) (kk : CJ X a b (pc + 3) L st (ws.set q0 (x, .inr (ci, fs.set i v)))) : CJ X a b pc L (v :: .ref x :: st) ws := by
  obtain ⟨dg, p, l, e, R, s, m, args, below, meth, c, Q, nL, A⟩ := X
  obtain ⟨h1, h2, h3, h4, h5, h6, h7, h8, h9⟩ := hx
  obtain ⟨C, T, N, ty0, f1, f2, f3, f4, f5, f6, f7, f8, f9⟩ := hF
  intro H locs ls hP hD hS hls
  exact va_putF (D := dg.1) (ci := ci) (v := v) (ty := ty) (C := C) (T := T) (N := N) h1 h2 h5 f2 ty0 f5 f6 h4 h6.1 hP hD hS q0 he f1 i f3 (h5 _ f4) (fun _ h9 => h9) f7 hi f9 (by rw [f5 i f3, f8]) hn hfit hl d (fun H1 locs1 hP1 hD1 hS1 => kk H1 locs1 ls hP1 hD1 hS1 hls)
theorem cj_put {idx ci i q0 x : Nat} {fs : List Value} {v : Value} {ty : FieldType} (hx : CC X cc own h0 mc0 ms0) (hF : FP own idx ci i ty) (d : decode cc pc = .ok (.putfield idx, 3)) (he : ws[q0]? = some (x, .inr (ci, fs))) (hn : narrow ty v = v) (hfit : fits ty v = true) (hl : i < fs.length) (kk : CJ X a b (pc + 3) L st (ws.set q0 (x, .inr (ci, fs.set i v)))) : CJ X a b pc L (v :: .ref x :: st) ws := by
  obtain ⟨dg, p, l, e, R, s, m, args, below, meth, c, Q, nL, A⟩ := X
  obtain ⟨h1, h2, h3, h4, h5, h6, h7, h8, h9⟩ := hx
  obtain ⟨C, T, N, ty0, f1, f2, f3, f4, f5, f6, f7, f8⟩ := hF
  intro H locs ls hP hD hS hls
  exact va_put (D := dg.1) (ci := ci) (v := v) (ty := ty) (C := C) (T := T) (N := N) h1 h2 h5 f2 ty0 f5 f6 h4 h6.1 hP hD hS q0 he f1 i f3 (h5 _ f4) (fun _ h9 => h9) f7 (by rw [f5 i f3, f8]) hn hfit hl d (fun H1 locs1 hP1 hD1 hS1 => kk H1 locs1 ls hP1 hD1 hS1 hls)
theorem cj_get {idx ci i q0 x : Nat} {fs : List Value} {v : Value} (hx : CC X cc own h0 mc0 ms0) (hF : FL own idx ci i) (d : decode cc pc = .ok (.getfield idx, 3)) (he : ws[q0]? = some (x, .inr (ci, fs))) (hv : fs[i]? = some v) (kk : CJ X a b (pc + 3) L (v :: st) ws) : CJ X a b pc L (.ref x :: st) ws := by
  obtain ⟨dg, p, l, e, R, s, m, args, below, meth, c, Q, nL, A⟩ := X
  obtain ⟨h1, h2, h3, h4, h5, h6, h7, h8, h9⟩ := hx
  obtain ⟨C, T, N, f1, f2, f3, f4⟩ := hF
  intro H locs ls hP hD hS hls
  exact va_get (D := dg.1) (ci := ci) (v := v) (C := C) (T := T) (N := N) h1 h2 h5 f2 h4 h6.1 hP q0 he f1 i f3 (h5 _ f4) (fun _ h9 => h9) hv d (kk H locs ls hP hD hS hls)
theorem cj_iast {q0 x n : Nat} {f : Nat → Int32} {i v : Int32} (hx : CC X cc own h0 mc0 ms0) (d : decode cc pc = .ok (.iastore, 1)) (he : ws[q0]? = some (x, .inl (X.1.2 0, n, .inl f))) (hin : vp_in i n) (kk : CJ X a b (pc + 1) L st (ws.set q0 (x, .inl (X.1.2 0, n, .inl (upd f i.toNatClampNeg v))))) : CJ X a b pc L (.int v :: .int i :: .ref x :: st) ws := by
  obtain ⟨dg, p, l, e, R, s, m, args, below, meth, c, Q, nL, A⟩ := X
  obtain ⟨h1, h2, h3, h4, h5, h6, h7, h8, h9⟩ := hx
  intro H locs ls hP hD hS hls
  exact va_iast h1 h2 h6.1 hP hD hS q0 0 he rfl hin d (fun H1 locs1 hP1 hD1 hS1 => kk H1 locs1 ls hP1 hD1 hS1 hls)
theorem cj_aast {q0 qk x v n : Nat} {f : Nat → Option Nat} {vs : List Value} {i : Int32} (hx : CC X cc own h0 mc0 ms0) (d : decode cc pc = .ok (.aastore, 1)) (he : ws[q0]? = some (x, .inl (X.1.2 5, n, .inr (.inr (.inr (.inr f)))))) (hv : ws[qk]? = some (v, .inr (8, vs))) (hin : vp_in i n) (kk : CJ X a b (pc + 1) L st (ws.set q0 (x, .inl (X.1.2 5, n, .inr (.inr (.inr (.inr (va_up f i.toNatClampNeg (some v))))))))) : CJ X a b pc L (.ref v :: .int i :: .ref x :: st) ws := by
  obtain ⟨dg, p, l, e, R, s, m, args, below, meth, c, Q, nL, A⟩ := X
  obtain ⟨h1, h2, h3, h4, h5, h6, h7, h8, h9⟩ := hx
  intro H locs ls hP hD hS hls
  exact va_astq (r := (RX6, TX6, 4)) h1 h2 h6.1 hP hD hS q0 5 qk 8 he rfl hv rfl hin d (fun H1 locs1 hP1 hD1 hS1 => kk H1 locs1 ls hP1 hD1 hS1 hls)
theorem goodI {y : MethodName} {cy : ByteArray} {maxL : Nat} (m1 : Cond.code y cy maxL none ∈ BIG) : GoodIn BIG (Cond.code y cy maxL none :: BIG) := goodC m1
/-- a constructor is called: its object is the last cell -/
theorem cj_call {y : MethodName} {cy : ByteArray} {maxL hy mc ms n idx q ci : Nat} {As fs : List Value} {st0 : List Value} {w0 : va_W} {post : va_W → Prop} (hx : CC X cc own h0 mc0 ms0) (K : KC X.1 X.2.2.1 y cy maxL hy mc ms q As ci fs post) (hl : Cond.methodLink own idx y ∈ BIG) (hm : MWI y cy maxL n) (d : decode cc pc = .ok (.invokespecial idx, 3)) (hn : As.length = n) (hst : As.reverse ++ .ref q :: st = st0) (hcat : (st.map fun v => v.category).sum ≤ 8) (hh : hy < h0) (hr : a + mc ≤ mc0 ∧ b + ms ≤ ms0) (hw : w0 ++ [(q, .inr (ci, fs))] = ws)
    (kk : ∀ w, post w → CJ X (a + mc) (b + ms) (pc + 3) L st (w0 ++ w)) : CJ X a b pc L st0 ws := by
  obtain ⟨dg, p, l, e, R, s, m, args, below, meth, c, Q, nL, A⟩ := X
  obtain ⟨h1, h2, h3, h4, h5, h6, h7, h8, h9⟩ := hx
  obtain ⟨m1, m2, m3, m4, m5, m6⟩ := hm
  subst h8
  subst hw
  subst hst
  intro H locs ls hP hD hS hls
  have hc1 : [w0.length].map (fun i => (w0 ++ [(q, (.inr (ci, fs) : va_E))])[i]?) = [(q, (.inr (ci, fs) : va_E))].map some := by simp
  have hPc : va_P dg.1 vwCl [(q, .inr (ci, fs))] H := hP.sub [w0.length] (by simp)
  have hFc := va_free (wc := [(q, .inr (ci, fs))]) hD hS h9 [w0.length] hc1
  refine va_callv (va_runI (As := As) (rest := st) (b := q) ⟨h1, h2, h3, h4, h5⟩ (K H.size) (cwI n h5 (goodC m1) rfl rfl rfl (h5 _ m3) (h5 _ hl) (h5 _ m2) m4 m5 (rm_fit hh m6)) ⟨prec_blind _ _ _ _ _ _, fun U hU hW => ⟨rfl, by rw [hU], h6.warm hW, by rw [hU]; exact hPc⟩⟩ rfl hn hls.1 rfl (lv_room hcat) d hr) hS (fun q _ h => hFc q h) hFc (fun w t H1 locs1 ht hvm hw hB hz1 hk1 hS1 => ?_)
  obtain ⟨hP1, hD1⟩ := hB
  rw [ht] at hP1
  obtain ⟨hP2, hD2⟩ := va_join (wr := w0) (w1 := w) hP hD [w0.length] (List.range' 0 w0.length) hc1 (map_rest w0 _) (va_nd_range _ _) (fun i hi => by rw [List.mem_range'_1] at hi; simp only [List.mem_singleton]; omega) hk1 hFc hP1 hD1
  exact kk w hw H1 locs1 ls hP2 hD2 hS1 hls
theorem cj_callN {y : MethodName} {cy : ByteArray} {maxL hy mc ms n idx q ci : Nat} {host : String} {As fs : List Value} {st0 : List Value} {w0 : va_W} {post : va_W → Prop} (hx : CC X cc own h0 mc0 ms0) (K : KC X.1 X.2.2.1 y cy maxL hy mc ms q As ci fs post) (hl : (own, idx, y, host) ∈ nestW) (hm : MWI y cy maxL n) (d : decode cc pc = .ok (.invokespecial idx, 3)) (hn : As.length = n) (hst : As.reverse ++ .ref q :: st = st0) (hcat : (st.map fun v => v.category).sum ≤ 8) (hh : hy < h0) (hr : a + mc ≤ mc0 ∧ b + ms ≤ ms0) (hw : w0 ++ [(q, .inr (ci, fs))] = ws)
    (kk : ∀ w, post w → CJ X (a + mc) (b + ms) (pc + 3) L st (w0 ++ w)) : CJ X a b pc L st0 ws := by
  obtain ⟨dg, p, l, e, R, s, m, args, below, meth, c, Q, nL, A⟩ := X
  obtain ⟨h1, h2, h3, h4, h5, h6, h7, h8, h9⟩ := hx
  obtain ⟨m1, m2, m3, m4, m5, m6⟩ := hm
  subst h8
  subst hw
  subst hst
  intro H locs ls hP hD hS hls
  have hc1 : [w0.length].map (fun i => (w0 ++ [(q, (.inr (ci, fs) : va_E))])[i]?) = [(q, (.inr (ci, fs) : va_E))].map some := by simp
  have hPc : va_P dg.1 vwCl [(q, .inr (ci, fs))] H := hP.sub [w0.length] (by simp)
  have hFc := va_free (wc := [(q, .inr (ci, fs))]) hD hS h9 [w0.length] hc1
  have hnw := h6.2.1 _ hl
  refine va_callv (va_runIN (As := As) (rest := st) (b := q) ⟨h1, h2, h3, h4, h5⟩ (K H.size) ⟨va_cnB n h5 (goodC m1) rfl rfl rfl hnw (h5 _ m3) m5 (rm_fit hh m6), m4, h5 _ m2⟩ ⟨prec_blind _ _ _ _ _ _, fun U hU hW => ⟨rfl, by rw [hU], h6.warm hW, by rw [hU]; exact hPc⟩⟩ rfl hn hls.1 rfl (lv_room hcat) d hr) hS (fun q _ h => hFc q h) hFc (fun w t H1 locs1 ht hvm hw hB hz1 hk1 hS1 => ?_)
  obtain ⟨hP1, hD1⟩ := hB
  rw [ht] at hP1
  obtain ⟨hP2, hD2⟩ := va_join (wr := w0) (w1 := w) hP hD [w0.length] (List.range' 0 w0.length) hc1 (map_rest w0 _) (va_nd_range _ _) (fun i hi => by rw [List.mem_range'_1] at hi; simp only [List.mem_singleton]; omega) hk1 hFc hP1 hD1
  exact kk w hw H1 locs1 ls hP2 hD2 hS1 hls
end ROWSC
end CTOR
section CTOR2
theorem arrV_congr {cA : ClassId} {n : Nat} {f f' : Nat → Value} (h : ∀ j, j < n → f j = f' j) : arrV cA n f = arrV cA n f' := by
  unfold arrV
  congr 1
  have e : (fun j : Fin n => f j.val) = (fun j : Fin n => f' j.val) := funext fun j => h j.val j.isLt
  rw [e]
theorem vp_refs {cA : ClassId} {n : Nat} {f f' : Nat → Option Nat} (h : ∀ j, j < n → f j = f' j) : vp_cell cA (n, .inr (.inr (.inr (.inr f)))) = vp_cell cA (n, .inr (.inr (.inr (.inr f')))) := by
  show arrV cA n (fun j => va_rf (f j)) = arrV cA n (fun j => va_rf (f' j))
  exact arrV_congr (fun j hj => by rw [h j hj])
theorem vp_ints {cA : ClassId} {n : Nat} {f f' : Nat → Int32} (h : ∀ j, j < n → f j = f' j) : vp_cell cA (n, .inl f) = vp_cell cA (n, .inl f') := by
  show arrV cA n (fun j => .int (f j)) = arrV cA n (fun j => .int (f' j))
  exact arrV_congr (fun j hj => by rw [h j hj])
/-- a cell's picture is put in another way -/
theorem CJ.cell {X : Cy} {a b pc : Nat} {L : List (Nat × Value)} {st : List Value} {ws : va_W} (q0 : Nat) {x : Nat} {cA : ClassId} {v v' : vp_A} (he : ws[q0]? = some (x, .inl (cA, v))) (h : vp_cell cA v = vp_cell cA v') (kk : CJ X a b pc L st (ws.set q0 (x, .inl (cA, v')))) : CJ X a b pc L st ws := by
  obtain ⟨dg, p, l, e, R, s, m, args, below, meth, c, Q, nL, A⟩ := X
  intro H locs ls hP hD hS hls
  refine kk H locs ls (fun k q hk => ?_) (hD.set he) hS hls
  rw [List.getElem?_set] at hk
  split at hk
  · rename_i e9
    subst e9
    split at hk
    · cases hk
      have := hP q0 _ he
      show H[x]? = some (vp_cell cA v')
      rw [← h]
      exact this
    · cases hk
  · exact hP k q hk
def tbL : List Int32 := [99, 111, 100, 101, 32, 32, 100, 97, 116, 97, 32, 32, 108, 97, 98, 101, 108, 32, 97, 108, 105, 103, 110, 32, 106, 117, 109, 112, 32, 32, 98, 114, 97, 110, 99, 104, 108, 111, 97, 100, 32, 32, 112, 111, 111, 108, 32, 32]
def tbF : Nat → Nat → Int32
  | 0 => fun _ => 0
  | k + 1 => upd (tbF k) k (tbL.getD k 0)
theorem tbF_at : ∀ (n j : Nat), j < n → tbF n j = tbL.getD j 0
  | 0, j, h => absurd h (Nat.not_lt_zero _)
  | n + 1, j, h => by
    unfold tbF upd
    by_cases e : j = n
    · subst e
      simp
    · simp only [e, if_false]
      exact tbF_at n j (by omega)
abbrev arI (d : Cg) (t n : Nat) : va_E := .inl (d.2 t, n, .inl (fun _ => 0))
end CTOR2
