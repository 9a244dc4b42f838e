/-! Words, contracts and the rows of the integer machine -/
section CTX
/-- the String constants: entry and text, the nine names first -/
def strT (i : Nat) : Nat × String := match i with
  | 0 => (381, "code") | 1 => (383, "data") | 2 => (385, "label") | 3 => (387, "align") | 4 => (389, "jump") | 5 => (391, "branch") | 6 => (393, "load") | 7 => (395, "pool") | 8 => (397, "")
  | 9 => (96, "the character code is out of range") | 10 => (107, "the input is full") | 11 => (119, "the position is out of range") | 12 => (128, "the input is not an item")
  | 13 => (140, "the number is not possible as the operand") | 14 => (147, "the program is full, or the label is defined already") | 15 => (158, "no error position was kept")
  | 16 => (356, "there is no such item") | 17 => (188, "what is not 0 to 4") | 18 => (199, "there is no such character") | 19 => (361, "the item is no transfer") | 20 => (363, "the form is out of range")
  | 21 => (221, "the label is out of range") | 22 => (226, "the label is not defined") | 23 => (231, "no item lies at the address") | 24 => (370, "the label of a transfer is not defined")
  | 25 => (277, "not all transfers fit") | 26 => (374, "there are more than 8 transfers") | 27 => (299, "there is no transfer") | 28 => (377, "there is no such pool")
  | 29 => (379, "there is no such literal") | 30 => (365, "the item is no load") | 31 => (342, "no change is remembered") | _ => (351, "nothing was saved")
def nameLen : List Nat := [4, 4, 5, 5, 4, 6, 4, 4, 0]
def nameByt : List (List Int32) := [[99, 111, 100, 101], [100, 97, 116, 97], [108, 97, 98, 101, 108], [97, 108, 105, 103, 110], [106, 117, 109, 112], [98, 114, 97, 110, 99, 104], [108, 111, 97, 100], [112, 111, 111, 108], []]
def nestW : List (String × Nat × MethodName × String) := [(RX8, 11, yX6_init, RX8), (RX2, 24, yX6_init, RX8), (RX8, 28, yX3_init, RX8), (RX4, 43, yX8_gapTo, RX8), (RX4, 47, yX8_jumpSize, RX8), (RX4, 50, yX8_branchSize, RX8), (RX3, 45, yX8_nameOf, RX8), (RX7, 59, yX8_formFor, RX8), (RX1, 100, yX8_formFor, RX8)]
abbrev tyL (g : Gm) : List (ClassId × FieldType) := [(g.2.2.1 0, .int), (g.2.2.1 1, .char), (g.2.2.1 2, .boolean), (g.2.2.1 3, .long), (g.2.2.1 4, .double), (g.2.2.1 5, .object RX6)]
def decN : List MethodName := [Bundle.initS "java/lang/RuntimeException", Bundle.initS "java/lang/Exception", Bundle.initS "java/lang/Throwable"]
def excN : List String := ["java/lang/IllegalArgumentException", "java/lang/IllegalStateException", "java/lang/IndexOutOfBoundsException", "java/util/NoSuchElementException", "java/lang/UnsupportedOperationException", "java/lang/ArithmeticException"]
/-- what of the machine every method needs: classes, cells apart, what may change, links of nest mates, String constants, Throwable's statics -/
def SOK (g : Gm) (U : State) : Prop :=
  va_K g.1 vwCl (tyL g) U ∧ (∀ i j : Nat, i < 83 → j < 83 → adr g i = adr g j → i = j) ∧ (∀ k : Nat, k < 83 → gA g (adr g k)) ∧ (∀ q : Nat, U.heap.size ≤ q → gA g q) ∧
  (∀ q ∈ nestW, va_Nw (.methodLinkNest q.1 q.2.1 q.2.2.1 q.2.2.2) U) ∧
  (∀ i : Nat, i < 33 → vk_R RX8 (strT i).1 (strT i).2 (adr g (1000 + i)) U) ∧
  vk_S 9 nameLen nameByt g.2.2.2.2.1 g.2.2.2.2.2 (gA g) U U.heap ∧ va_Z "java/lang/String" "COMPACT_STRINGS" "Z" (.int 1) (gA g) U U.heap ∧
  vx_Zq Bundle.tN "UNASSIGNED_STACK" Bundle.steD (gA g) U U.heap ∧ vx_Zq Bundle.tN "SUPPRESSED_SENTINEL" Bundle.listD (gA g) U U.heap ∧
  (∀ E ∈ excN, va_Nw (.castable E E) U) ∧ va_Zq "jdk/internal/util/Preconditions" "SIOOBE_FORMATTER" "Ljava/util/function/BiFunction;" (gA g) U U.heap ∧ (∀ y ∈ decN, va_Nw (.declares y) U)
theorem SOK.warm {g : Gm} {s U : State} {locs : List Loc} (h : SOK g s) (hW : s.WarmedH U.vm) (hS : va_S (gA g) s.heap U.heap locs) : SOK g U := by
  obtain ⟨h1, h2, h3, h4, h5, h6, h7, h8, h9, h10, h11, h12, h13⟩ := h
  exact ⟨va_K.moved hW.alike h1, h2, h3, fun q hq => h4 q (Nat.le_trans hS.1 hq), fun q hq => va_Nw.warmM hW (h5 q hq), fun i hi => vk_R.warm hW (h6 i hi), vk_S.moved hW.alike (h7.kept hS.2.1), va_Z.moved hW.alike (h8.kept hS.2.1), vx_Zq.moved hW.alike (h9.kept hS.2.1), vx_Zq.moved hW.alike (h10.kept hS.2.1), fun E hE => va_Nw.warmC hW (h11 E hE), va_Zq.moved hW.alike (h12.kept hS.2.1), fun y hy => va_Nw.warmD hW (h13 y hy)⟩
theorem SOK.same {g : Gm} {s U : State} (h : SOK g s) (hv : U.vm = s.vm) (hH : U.heap = s.heap) : SOK g U := by
  obtain ⟨h1, h2, h3, h4, h5, h6, h7, h8, h9, h10, h11, h12, h13⟩ := h
  have ha : s.vm.Alike U.vm := by rw [hv]; exact Vm.Alike.refl s.vm
  exact ⟨va_K.moved ha h1, h2, h3, fun q hq => h4 q (by rw [← hH]; exact hq), fun q hq => va_Nw.same rfl hv.symm (h5 q hq), fun i hi => vk_R.same hv (h6 i hi), by rw [hH]; exact vk_S.moved ha h7, by rw [hH]; exact va_Z.moved ha h8, by rw [hH]; exact vx_Zq.moved ha h9, by rw [hH]; exact vx_Zq.moved ha h10, fun E hE => va_Nw.same rfl hv.symm (h11 E hE), by rw [hH]; exact va_Zq.moved ha h12, fun y hy => va_Nw.same rfl hv.symm (h13 y hy)⟩
theorem SOK.D {g : Gm} {U : State} (h : SOK g U) (σ : Sg) : va_D (gA g) (wl g σ) := by
  obtain ⟨-, h2, h3, -⟩ := h
  have key : ∀ (k : Nat) (q : Nat × va_E), (wl g σ)[k]? = some q → k < 83 ∧ q.1 = adr g k := by
    intro k q hk
    by_cases h : k < 83
    · rw [wl_at h] at hk
      cases hk
      exact ⟨h, rfl⟩
    · simp [wl, h] at hk
  refine ⟨fun i j p q hi hj hpq => ?_, fun k q hk => ?_⟩
  · obtain ⟨a1, a2⟩ := key i p hi
    obtain ⟨b1, b2⟩ := key j q hj
    exact h2 i j a1 b1 (by rw [← a2, ← b2]; exact hpq)
  · obtain ⟨a1, a2⟩ := key k q hk
    rw [a2]
    exact h3 k a1
/-- the start of every contract -/
def PRE (g : Gm) (σ : Sg) (U : State) : Prop := SOK g U ∧ va_P g.1 vwCl (wl g σ) U.heap
/-- the world behind -/
def POST (g : Gm) (σ : Sg) (t : State) : Prop := va_P g.1 vwCl (wl g σ) t.heap
theorem pre_blind (g : Gm) (σ : Sg) (As : List Value) : FrameBlind (va_Pc As (PRE g σ)) := fun a U f mk q => ⟨q.1, q.2.1.same (U := U.calling f mk a) rfl rfl, q.2.2⟩
def rmH (h mc ms : Nat) : Room := { frames := 8 + h, cells := mc, slots := ms, locals := 300 + 60 * h }
/-- contracts: an int (boolean, char), nothing, a cell; KX: or an exception of the class named -/
def KI (g : Gm) (l : Launch) (y : MethodName) (cc : ByteArray) (maxL : Nat) (ret : Option FieldType) (h mc ms : Nat) (As : List V) (σ : Sg) (post : Int → Sg → Prop) : Prop :=
  Met l y (Cond.code y cc maxL ret :: BIG) (rmH h mc ms) (va_Pc (As.map (vv g)) (PRE g σ)) (va_Qi (fun r σ' => ∃ z, r = ii z ∧ post z σ') (POST g) (gA g)) mc ms (gA g)
def KV (g : Gm) (l : Launch) (y : MethodName) (cc : ByteArray) (maxL : Nat) (h mc ms : Nat) (As : List V) (σ : Sg) (post : Sg → Prop) : Prop :=
  Met l y (Cond.code y cc maxL none :: BIG) (rmH h mc ms) (va_Pc (As.map (vv g)) (PRE g σ)) (va_Qv (fun σ' => post σ') (POST g) (gA g)) mc ms (gA g)
def KR (g : Gm) (l : Launch) (y : MethodName) (cc : ByteArray) (maxL : Nat) (ret : Option FieldType) (h mc ms : Nat) (As : List V) (σ : Sg) (post : Nat → Sg → Prop) : Prop :=
  Met l y (Cond.code y cc maxL ret :: BIG) (rmH h mc ms) (va_Pc (As.map (vv g)) (PRE g σ)) (va_Qr (fun u : Nat × Sg => post u.1 u.2) (fun u a t => a = adr g u.1 ∧ POST g u.2 t) (gA g)) mc ms (gA g)
abbrev XX (g : Gm) (px : String → Sg → Prop) : String → State → State → Prop := vx_X (fun u : String × Sg => px u.1 u.2) (fun E u t => E = u.1 ∧ POST g u.2 t) (gA g)
def KXI (g : Gm) (l : Launch) (y : MethodName) (cc : ByteArray) (maxL : Nat) (ret : Option FieldType) (h mc ms : Nat) (As : List V) (σ : Sg) (post : Int → Sg → Prop) (px : String → Sg → Prop) : Prop :=
  vx_Met l y (Cond.code y cc maxL ret :: BIG) (rmH h mc ms) (va_Pc (As.map (vv g)) (PRE g σ)) (va_Qi (fun r σ' => ∃ z, r = ii z ∧ post z σ') (POST g) (gA g)) (XX g px) mc ms (gA g)
def KXV (g : Gm) (l : Launch) (y : MethodName) (cc : ByteArray) (maxL : Nat) (h mc ms : Nat) (As : List V) (σ : Sg) (post : Sg → Prop) (px : String → Sg → Prop) : Prop :=
  vx_Met l y (Cond.code y cc maxL none :: BIG) (rmH h mc ms) (va_Pc (As.map (vv g)) (PRE g σ)) (va_Qv (fun σ' => post σ') (POST g) (gA g)) (XX g px) mc ms (gA g)
/-- where a walk stands: all that doesn't change in it -/
abbrev Cx : Type := Gm × Program × Launch × Env × Room × State × MethodId × Array Value × List Frame × Method × Code × (State → Prop) × Nat
def lvl (g : Gm) : Nat → List (Option V) → List (Nat × Value)
  | _, [] => []
  | j, none :: r => lvl g (j + 1) r
  | j, some v :: r => (j, vv g v) :: lvl g (j + 1) r
def GJ : Cx → Nat → Nat → Nat → List (Option V) → List V → Sg → Prop
  | (g, p, l, e, R, s, m, args, below, meth, c, Q, nL), cl, sl, pc, L, st, σ => ∀ (H : Heap) (locs : List Loc) (ls : Array Slot), L.length = nL → va_P g.1 vwCl (wl g σ) H → va_S (gA g) s.heap H locs → lv_has ls nL (lvl g 0 L) → W p l e R s m args below meth c H locs cl sl Q (F0 m pc ls (st.map (vv g)))
def CX : Cx → ByteArray → String → Nat → Nat → Nat → Prop
  | (g, p, _, _, R, s, m, args, _, meth, c, _, nL), cc, own, h, mc, ms => p.tables.exec = Jvm.exec ∧ c.code = cc ∧ c.maxLocals = nL ∧ s.vm.findClass own = some m.cls ∧ (∀ w ∈ BIG, w.before args s = true) ∧ SOK g s ∧ meth.locks = false ∧ R = rmH h mc ms
def RETI (X : Cx) (cc : ByteArray) (ret : Option FieldType) (mc ms : Nat) (post : Int → Sg → Prop) : Prop := ∀ (pc : Nat) (L : List (Option V)) (z : Int) (σ : Sg) (ty : FieldType) (a b : Nat), a ≤ mc → b ≤ ms → decode cc pc = .ok (.ireturn, 1) → ret = some ty → narrow ty (.int (ii z)) = .int (ii z) → post z σ → GJ X a b pc L [.inl z] σ
def RETV (X : Cx) (cc : ByteArray) (mc ms : Nat) (post : Sg → Prop) : Prop := ∀ (pc : Nat) (L : List (Option V)) (σ : Sg) (a b : Nat), a ≤ mc → b ≤ ms → decode cc pc = .ok (.return_, 1) → post σ → GJ X a b pc L [] σ
def RETR (X : Cx) (cc : ByteArray) (mc ms : Nat) (post : Nat → Sg → Prop) : Prop := ∀ (pc : Nat) (L : List (Option V)) (k : Nat) (σ : Sg) (a b : Nat), a ≤ mc → b ≤ ms → decode cc pc = .ok (.areturn, 1) → post k σ → GJ X a b pc L [.inr k] σ
/-- the method may end by an exception with px -/
def QX : Cx → Nat → Nat → (String → Sg → Prop) → Prop
  | (g, _, l, _, _, s, _, args, below, _, c, Q, _), mc, ms, px => l.stackTraces = false ∧ (∀ x ∈ c.exceptionTable.toList, False) ∧ ∃ Qc, Q = vx_MQ below Qc (XX g px) args s mc ms (gA g)
theorem lvl_mem {g : Gm} : ∀ (L : List (Option V)) (j i : Nat) (w : Value), (i, w) ∈ lvl g j L ↔ ∃ v, j ≤ i ∧ L[i - j]? = some (some v) ∧ w = vv g v
  | [], j, i, w => by simp [lvl]
  | none :: r, j, i, w => by
    rw [lvl, lvl_mem r (j + 1) i w]
    constructor
    · rintro ⟨v, h1, h2, h3⟩
      exact ⟨v, by omega, by rw [show i - j = (i - (j + 1)) + 1 by omega, List.getElem?_cons_succ]; exact h2, h3⟩
    · rintro ⟨v, h1, h2, h3⟩
      rcases Nat.eq_or_lt_of_le h1 with h4 | h4
      · rw [show i - j = 0 by omega] at h2
        simp at h2
      · exact ⟨v, h4, by rw [show i - j = (i - (j + 1)) + 1 by omega, List.getElem?_cons_succ] at h2; exact h2, h3⟩
  | some u :: r, j, i, w => by
    rw [lvl, List.mem_cons, lvl_mem r (j + 1) i w]
    constructor
    · rintro (h | ⟨v, h1, h2, h3⟩)
      · cases h
        exact ⟨u, Nat.le_refl _, by simp, rfl⟩
      · exact ⟨v, by omega, by rw [show i - j = (i - (j + 1)) + 1 by omega, List.getElem?_cons_succ]; exact h2, h3⟩
    · rintro ⟨v, h1, h2, h3⟩
      rcases Nat.eq_or_lt_of_le h1 with h4 | h4
      · rw [show i - j = 0 by omega] at h2
        simp at h2
        subst h4
        rw [h3, h2]
        exact Or.inl rfl
      · exact Or.inr ⟨v, h4, by rw [show i - j = (i - (j + 1)) + 1 by omega, List.getElem?_cons_succ] at h2; exact h2, h3⟩
theorem lvl_get {g : Gm} {ls : Array Slot} {nL i : Nat} {L : List (Option V)} {v : V} (h : lv_has ls nL (lvl g 0 L)) (hl : L[i]? = some (some v)) : ls[i]? = some (.val (vv g v)) :=
  h.2.2 (i, vv g v) ((lvl_mem L 0 i _).mpr ⟨v, Nat.zero_le _, hl, rfl⟩)
theorem vv_cat {g : Gm} (v : V) : (vv g v).category = 1 := by cases v <;> rfl
theorem lvl_put {g : Gm} {ls : Array Slot} {nL i : Nat} {L : List (Option V)} {v : V} (h : lv_has ls nL ((i, vv g v) :: (lvl g 0 L).filter (fun q => !(q.1 == i) && !(q.1 + 1 == i && q.2.category == 2)))) : lv_has ls nL (lvl g 0 (L.set i (some v))) := by
  refine ⟨h.1, h.2.1, ?_⟩
  rintro ⟨j, w⟩ hq
  obtain ⟨u, -, h2, h3⟩ := (lvl_mem _ 0 j w).mp hq
  rw [Nat.sub_zero, List.getElem?_set] at h2
  apply h.2.2 (j, w)
  by_cases hij : i = j
  · subst hij
    rw [if_pos rfl] at h2
    split at h2
    · cases h2
      rw [h3]
      exact List.mem_cons_self
    · cases h2
  · rw [if_neg hij] at h2
    refine List.mem_cons_of_mem _ (List.mem_filter.mpr ⟨(lvl_mem L 0 j w).mpr ⟨u, Nat.zero_le _, h2, h3⟩, ?_⟩)
    have hc : w.category = 1 := by rw [h3]; exact vv_cat u
    have hne : (j == i) = false := by simp; exact fun e => hij e.symm
    simp [hne, hc]
end CTX
