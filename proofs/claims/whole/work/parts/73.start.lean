/-! The law's start: what the statement gives -/
def GV : List Cond := flatC (Jvm.Cond.and given_1 narrow_1)
def sIx : List Nat := [165, 173, 181, 190, 199, 207, 217, 225, 233, 106, 144, 237, 269, 297, 342, 398, 428, 453, 475, 505, 532, 560, 589, 617, 648, 690, 715, 750, 774, 799, 827, 850, 877]
def ncIx : List (List Nat) := [[0, 37, 53, 68, 84, 100], [21, 0, 54, 69, 85, 101], [23, 39, 0, 71, 87, 103], [24, 40, 55, 0, 88, 104], [25, 41, 56, 72, 0, 105], [26, 42, 57, 73, 89, 0]]
theorem gv_ex : ∀ i, i < 33 → GV[sIx.getD i 0]? = some (Cond.exactly (Term.string "BranchRelaxer" (strT i).1) "java/lang/String") := by decide +kernel
theorem gv_co : ∀ i, i < 9 → GV[sIx.getD i 0 + 1]? = some (Cond.eq (.field (Term.string "BranchRelaxer" (strT i).1) "java/lang/String" "coder" "B") (.int 0)) := by decide +kernel
theorem gv_ar : ∀ i, i < 9 → GV[sIx.getD i 0 + 2]? = some (Cond.arrayOf (.field (Term.string "BranchRelaxer" (strT i).1) "java/lang/String" "value" "[B") .byte) := by decide +kernel
theorem gv_le : ∀ i, i < 9 → GV[sIx.getD i 0 + 3]? = some (Cond.eq (.length (.field (Term.string "BranchRelaxer" (strT i).1) "java/lang/String" "value" "[B")) (.int (Int32.ofNat (nameLen.getD i 0)))) := by decide +kernel
theorem gv_el : ∀ i, i < 9 → ∀ j, j < nameLen.getD i 0 → GV[sIx.getD i 0 + 4 + j]? = some (Cond.eq (.elem (.field (Term.string "BranchRelaxer" (strT i).1) "java/lang/String" "value" "[B") (.int (Int32.ofNat j))) (.int ((nameByt.getD i []).getD j 0))) := by decide +kernel
theorem gv_nc : ∀ i, i < 6 → ∀ j, j < 6 → i ≠ j → GV[(ncIx.getD i []).getD j 0]? = some (Cond.not (.castable (excN.getD i "") (excN.getD j ""))) := by decide +kernel
theorem gv_us : GV[4]? = some (Cond.isRef (Term.static "java/lang/Throwable" "UNASSIGNED_STACK" "[Ljava/lang/StackTraceElement;")) := by decide +kernel
theorem gv_ss : GV[5]? = some (Cond.isRef (Term.static "java/lang/Throwable" "SUPPRESSED_SENTINEL" "Ljava/util/List;")) := by decide +kernel
theorem gv_cs : GV[6]? = some (Cond.eq (Term.static "java/lang/String" "COMPACT_STRINGS" "Z") (Term.int 1)) := by decide +kernel
theorem gv_sf : GV[7]? = some (Cond.isRef (Term.static "jdk/internal/util/Preconditions" "SIOOBE_FORMATTER" "Ljava/util/function/BiFunction;")) := by decide +kernel
theorem nm_l31 : ∀ i, i < 9 → nameLen.getD i 0 < 2 ^ 31 := by decide +kernel
theorem nm_eq : ∀ i, i < 9 → ∀ j, j < 9 → Int32.ofNat (nameLen.getD i 0) = Int32.ofNat (nameLen.getD j 0) → (∀ k, k < nameLen.getD i 0 → (nameByt.getD i []).getD k 0 = (nameByt.getD j []).getD k 0) → i = j := by decide +kernel
theorem nm_leq : ∀ i, i < 9 → ∀ j, j < 9 → Int32.ofNat (nameLen.getD i 0) = Int32.ofNat (nameLen.getD j 0) → nameLen.getD i 0 = nameLen.getD j 0 := by decide +kernel
/-- the names and the messages: where they lie -/
theorem st_str {args : Array Value} {s : State} {b : Nat} {A : Nat → Prop} (hg : ∀ c ∈ GV, c.before args s = true) (hA : ∀ a : Nat, a < s.heap.size → ¬ A a) : ∃ adK adV : Nat → Nat, vk_S 9 nameLen nameByt adK adV A s s.heap ∧ (∀ i, i < 33 → (Term.string "BranchRelaxer" (strT i).1).eval args s none [] s = some (.ref (adK i))) ∧ adK 40 = b := by
  have at9 : ∀ {k : Nat} {c : Cond}, GV[k]? = some c → c.before args s = true := fun h => hg _ (List.mem_of_getElem? h)
  have h0 : ∀ i : Nat, ∃ q : Nat × Nat, (i < 33 → (Term.string "BranchRelaxer" (strT i).1).eval args s none [] s = some (.ref q.1)) ∧ (i < 9 → va_O "java/lang/String" q.1 A s s.heap ∧ va_OF "java/lang/String" "coder" "B" (.int 0) q.1 A s s.heap ∧ va_OF "java/lang/String" "value" "[B" (.ref q.2) q.1 A s s.heap ∧ va_T .byte q.2 (nameLen.getD i 0) (fun j => .int ((nameByt.getD i []).getD j 0)) A s s.heap) ∧ (i = 40 → q.1 = b) := by
    intro i
    by_cases h9 : i < 9
    · obtain ⟨ad, av, h1, h2⟩ := vk_Sof (args := args) (s := s) (N := 1) (tm := fun _ => Term.string "BranchRelaxer" (strT i).1) (len := [nameLen.getD i 0]) (byt := [nameByt.getD i []]) (A := A)
        (fun j hj => by rw [show j = 0 by omega]; exact nm_l31 i h9) (fun j hj => at9 (gv_ex i (by omega))) (fun j hj => at9 (gv_co i h9)) (fun j hj => at9 (gv_ar i h9))
        (fun j hj => by rw [show j = 0 by omega]; exact at9 (gv_le i h9)) (fun j hj k hk => by rw [show j = 0 by omega] at hk ⊢; exact at9 (gv_el i h9 k hk)) (fun j k hj hk hn => by omega) hA
      exact ⟨(ad 0, av 0), fun _ => h2 0 (by omega), fun _ => h1.1 0 (by omega), fun h => by omega⟩
    · by_cases h33 : i < 33
      · obtain ⟨a, c, cA, kA, q1, -⟩ := Cond.exactly_spec (args := args) (first := s) (o := none) (s := s) (idx := []) (at9 (gv_ex i h33))
        exact ⟨(a, 0), fun _ => q1, fun h => absurd h h9, fun h => by omega⟩
      · exact ⟨(b, 0), fun h => absurd h h33, fun h => absurd h h9, fun _ => rfl⟩
  obtain ⟨ad, had⟩ := Classical.axiomOfChoice h0
  refine ⟨fun i => (ad i).1, fun i => (ad i).2, ⟨fun i hi => (had i).2.1 hi, fun i j hi hj e => ?_⟩, fun i hi => (had i).1 hi, (had 40).2.2 rfl⟩
  dsimp only at e
  obtain ⟨-, -, hv1, ht1⟩ := (had i).2.1 hi
  obtain ⟨-, -, hv2, ht2⟩ := (had j).2.1 hj
  have ev : (ad i).2 = (ad j).2 := by
    obtain ⟨cf, k, x, f, cell, g1, -, g3, -, g5, -⟩ := hv1
    obtain ⟨cf2, k2, x2, f2, cell2, i1, -, i3, -, i5, -⟩ := hv2
    rw [g1] at i1
    cases i1
    rw [e] at g3
    rw [g3] at i3
    cases i3
    rw [g5] at i5
    exact Value.ref.inj (Option.some.inj i5)
  obtain ⟨cell, g1, -, -, -, g5, g6, -⟩ := ht1
  obtain ⟨cell2, i1, -, -, -, i5, i6, -⟩ := ht2
  rw [ev] at g1
  rw [g1] at i1
  cases i1
  have hl : Int32.ofNat (nameLen.getD i 0) = Int32.ofNat (nameLen.getD j 0) := g5.symm.trans i5
  have hle := nm_leq i hi j hj hl
  refine nm_eq i hi j hj hl (fun k hk => ?_)
  have e1 := g6 k hk
  have e2 := i6 k (by omega)
  rw [e1] at e2
  exact Value.int.inj (Option.some.inj e2)
theorem st_nc {args : Array Value} {s : State} (hg : ∀ c ∈ GV, c.before args s = true) : NCS s := by
  intro E hE F hF hn
  obtain ⟨i, hi, rfl⟩ := List.getElem_of_mem hE
  obtain ⟨j, hj, rfl⟩ := List.getElem_of_mem hF
  have hi6 : i < 6 := hi
  have hj6 : j < 6 := hj
  have hij : i ≠ j := fun e => hn (by subst e; rfl)
  have h := hg _ (List.mem_of_getElem? (gv_nc i hi6 j hj6 hij))
  have e9 : ∀ (k : Nat) (hk : k < excN.length), excN.getD k "" = excN[k] := fun k hk => by rw [List.getD_eq_getElem?_getD, List.getElem?_eq_getElem hk]; rfl
  rw [e9 i hi, e9 j hj] at h
  exact va_Nc.of h
theorem inTJ0 : ∀ w ∈ u_ws RJ0 TJ0 2, w ∈ lw_tbl := List.forall_mem_cons.mpr ⟨List.mem_of_getElem? (i := 634) (by decide +kernel), List.forall_mem_cons.mpr ⟨List.mem_of_getElem? (i := 636) (by decide +kernel), fun _ h => absurd h List.not_mem_nil⟩⟩
theorem inTJx00060 : ∀ w ∈ u_ws RJx00060 TJx00060 6, w ∈ lw_tbl := List.forall_mem_cons.mpr ⟨List.mem_of_getElem? (i := 622) (by decide +kernel), List.forall_mem_cons.mpr ⟨List.mem_of_getElem? (i := 623) (by decide +kernel), List.forall_mem_cons.mpr ⟨List.mem_of_getElem? (i := 624) (by decide +kernel), List.forall_mem_cons.mpr ⟨List.mem_of_getElem? (i := 625) (by decide +kernel), List.forall_mem_cons.mpr ⟨List.mem_of_getElem? (i := 626) (by decide +kernel), List.forall_mem_cons.mpr ⟨List.mem_of_getElem? (i := 627) (by decide +kernel), fun _ h => absurd h List.not_mem_nil⟩⟩⟩⟩⟩⟩
theorem st_cls {args : Array Value} {s : State} (hts : ∀ w ∈ lw_tbl, w.before args s = true) : ∃ D : va_G, ∀ (c : Nat) (q : vw_C), vwCl[c]? = some q → u_Kn s q.1 q.2.1 q.2.2 (D.1 c) (D.2 c) := by
  have h0 : ∀ c : Nat, ∃ d : ClassId × (Nat → Nat), ∀ q : vw_C, vwCl[c]? = some q → u_Kn s q.1 q.2.1 q.2.2 d.1 d.2 := by
    intro c
    rcases (show c = 0 ∨ c = 1 ∨ c = 2 ∨ c = 3 ∨ c = 4 ∨ c = 5 ∨ c = 6 ∨ c = 7 ∨ c = 8 ∨ c = 9 ∨ c = 10 ∨ c = 11 ∨ 12 ≤ c by omega) with rfl | rfl | rfl | rfl | rfl | rfl | rfl | rfl | rfl | rfl | rfl | rfl | h
    · obtain ⟨cC, iS, h1⟩ := u_known (C := RJ0) (T := TJ0) (N := 2) (n := 4) hts (inTJ0) (hts _ (List.mem_of_getElem? (i := 633) (by decide +kernel)))
      exact ⟨(cC, iS), fun q hq => by cases hq; exact h1⟩
    · obtain ⟨cC, iS, h1⟩ := u_known (C := RJx00060) (T := TJx00060) (N := 6) (n := 6) hts (inTJx00060) (hts _ (List.mem_of_getElem? (i := 615) (by decide +kernel)))
      exact ⟨(cC, iS), fun q hq => by cases hq; exact h1⟩
    · obtain ⟨cC, iS, h1⟩ := u_known (C := RX0) (T := TX0) (N := 5) (n := 5) hts (fun w hw => big_in (inBX0 w hw)) (hts _ (List.mem_of_getElem? (i := 261) (by decide +kernel)))
      exact ⟨(cC, iS), fun q hq => by cases hq; exact h1⟩
    · obtain ⟨cC, iS, h1⟩ := u_known (C := RX1) (T := TX1) (N := 8) (n := 8) hts (fun w hw => big_in (inBX1 w hw)) (hts _ (List.mem_of_getElem? (i := 230) (by decide +kernel)))
      exact ⟨(cC, iS), fun q hq => by cases hq; exact h1⟩
    · obtain ⟨cC, iS, h1⟩ := u_known (C := RX2) (T := TX2) (N := 3) (n := 3) hts (fun w hw => big_in (inBX2 w hw)) (hts _ (List.mem_of_getElem? (i := 122) (by decide +kernel)))
      exact ⟨(cC, iS), fun q hq => by cases hq; exact h1⟩
    · obtain ⟨cC, iS, h1⟩ := u_known (C := RX3) (T := TX3) (N := 5) (n := 5) hts (fun w hw => big_in (inBX3 w hw)) (hts _ (List.mem_of_getElem? (i := 141) (by decide +kernel)))
      exact ⟨(cC, iS), fun q hq => by cases hq; exact h1⟩
    · obtain ⟨cC, iS, h1⟩ := u_known (C := RX4) (T := TX4) (N := 3) (n := 3) hts (fun w hw => big_in (inBX4 w hw)) (hts _ (List.mem_of_getElem? (i := 198) (by decide +kernel)))
      exact ⟨(cC, iS), fun q hq => by cases hq; exact h1⟩
    · obtain ⟨cC, iS, h1⟩ := u_known (C := RX5) (T := TX5) (N := 9) (n := 9) hts (fun w hw => big_in (inBX5 w hw)) (hts _ (List.mem_of_getElem? (i := 164) (by decide +kernel)))
      exact ⟨(cC, iS), fun q hq => by cases hq; exact h1⟩
    · obtain ⟨cC, iS, h1⟩ := u_known (C := RX6) (T := TX6) (N := 4) (n := 4) hts (fun w hw => big_in (inBX6 w hw)) (hts _ (List.mem_of_getElem? (i := 102) (by decide +kernel)))
      exact ⟨(cC, iS), fun q hq => by cases hq; exact h1⟩
    · obtain ⟨cC, iS, h1⟩ := u_known (C := RX7) (T := TX7) (N := 3) (n := 3) hts (fun w hw => big_in (inBX7 w hw)) (hts _ (List.mem_of_getElem? (i := 214) (by decide +kernel)))
      exact ⟨(cC, iS), fun q hq => by cases hq; exact h1⟩
    · obtain ⟨cC, iS, h1⟩ := u_known (C := RX8) (T := TX8) (N := 11) (n := 11) hts (fun w hw => big_in (inBX8 w hw)) (hts _ (List.mem_of_getElem? (i := 94) (by decide +kernel)))
      exact ⟨(cC, iS), fun q hq => by cases hq; exact h1⟩
    · obtain ⟨cC, iS, h1⟩ := u_known (C := RX9) (T := TX9) (N := 21) (n := 21) hts (fun w hw => big_in (inBX9 w hw)) (hts _ (List.mem_of_getElem? (i := 1255) (by decide +kernel)))
      exact ⟨(cC, iS), fun q hq => by cases hq; exact h1⟩
    · exact ⟨(default, fun _ => 0), fun q hq => by rw [List.getElem?_eq_none h] at hq; cases hq⟩
  obtain ⟨ad, had⟩ := Classical.axiomOfChoice h0
  exact ⟨(fun c => (ad c).1, fun c => (ad c).2), had⟩
theorem st_arr {args : Array Value} {s : State} {ty : FieldType} (h : (Cond.arrayClass ty).before args s = true) (hty : ∀ C, ty ≠ .object C) : ∃ cA : ClassId, ArrOfT s cA ty ∧ va_RA s cA ty := by
  obtain ⟨cA, kA, comp, h1, h2, h3⟩ := Cond.arrayClass_spec (args := args) (first := s) (o := none) (s := s) (idx := []) h
  refine ⟨cA, fun N z => ⟨(fun k h => by cases h), kA, h2, comp, h3⟩, ?_⟩
  cases ty with
  | object C => exact absurd rfl (hty C)
  | _ => exact h1
theorem st_aro {args : Array Value} {s : State} {C : String} (h : (Cond.arrayOver (.object C)).before args s = true) : ∃ cA : ClassId, ArrOfT s cA (.object C) ∧ va_RA s cA (.object C) := by
  obtain ⟨comp, cA, kA, h1, h2, h3, h4, h5⟩ := Cond.arrayOver_spec (args := args) (first := s) (o := none) (s := s) (idx := []) h
  exact ⟨cA, fun N z => ⟨(fun k h => by cases h), kA, h3, comp, h4⟩, kA, comp, h3, h4, h1, h5⟩
theorem in_aro : Cond.arrayOver (.object RX6) ∈ lw_tbl := List.mem_of_getElem? (i := 128) (by decide +kernel)
theorem st_ty {args : Array Value} {s : State} (hts : ∀ w ∈ lw_tbl, w.before args s = true) : ∃ tc : Nat → ClassId, ∀ (k : Nat) (q : ClassId × FieldType), ([(tc 0, .int), (tc 1, .char), (tc 2, .boolean), (tc 3, .long), (tc 4, .double), (tc 5, .object RX6)] : List (ClassId × FieldType))[k]? = some q → ArrOfT s q.1 q.2 ∧ va_RA s q.1 q.2 := by
  obtain ⟨c0, h0⟩ := st_arr (hts _ (big_in ac_int)) (fun C h => by cases h)
  obtain ⟨c1, h1⟩ := st_arr (hts _ (big_in ac_char)) (fun C h => by cases h)
  obtain ⟨c2, h2⟩ := st_arr (hts _ (big_in ac_boolean)) (fun C h => by cases h)
  obtain ⟨c3, h3⟩ := st_arr (hts _ (big_in ac_long)) (fun C h => by cases h)
  obtain ⟨c4, h4⟩ := st_arr (hts _ (big_in ac_double)) (fun C h => by cases h)
  obtain ⟨c5, h5⟩ := st_aro (hts _ in_aro)
  refine ⟨fun k => [c0, c1, c2, c3, c4, c5].getD k default, fun k q hq => ?_⟩
  rcases (show k = 0 ∨ k = 1 ∨ k = 2 ∨ k = 3 ∨ k = 4 ∨ k = 5 ∨ 6 ≤ k by omega) with rfl | rfl | rfl | rfl | rfl | rfl | h
  · cases hq; exact h0
  · cases hq; exact h1
  · cases hq; exact h2
  · cases hq; exact h3
  · cases hq; exact h4
  · cases hq; exact h5
  · rw [List.getElem?_eq_none h] at hq
    cases hq
theorem in_nest : ∀ q ∈ nestW, Cond.methodLinkNest q.1 q.2.1 q.2.2.1 q.2.2.2 ∈ lw_tbl := List.forall_mem_cons.mpr ⟨List.mem_of_getElem? (i := 103) (by decide +kernel), List.forall_mem_cons.mpr ⟨List.mem_of_getElem? (i := 129) (by decide +kernel), List.forall_mem_cons.mpr ⟨List.mem_of_getElem? (i := 142) (by decide +kernel), List.forall_mem_cons.mpr ⟨List.mem_of_getElem? (i := 384) (by decide +kernel), List.forall_mem_cons.mpr ⟨List.mem_of_getElem? (i := 387) (by decide +kernel), List.forall_mem_cons.mpr ⟨List.mem_of_getElem? (i := 390) (by decide +kernel), List.forall_mem_cons.mpr ⟨List.mem_of_getElem? (i := 650) (by decide +kernel), List.forall_mem_cons.mpr ⟨List.mem_of_getElem? (i := 974) (by decide +kernel), List.forall_mem_cons.mpr ⟨List.mem_of_getElem? (i := 1085) (by decide +kernel), fun _ h => absurd h List.not_mem_nil⟩⟩⟩⟩⟩⟩⟩⟩⟩
theorem in_str : ∀ i, i < 33 → Cond.stringRef RX8 (strT i).1 (strT i).2 ∈ lw_tbl := by
  have h : ∀ i, i < 33 → lw_tbl[([653, 654, 655, 656, 657, 658, 659, 660, 661, 559, 599, 732, 744, 756, 765, 793, 812, 837, 847, 861, 866, 878, 880, 889, 988, 1026, 1057, 1154, 1172, 1185, 1209, 1241, 1253] : List Nat).getD i 0]? = some (Cond.stringRef RX8 (strT i).1 (strT i).2) := by decide +kernel
  exact fun i hi => List.mem_of_getElem? (h i hi)
theorem in_cast : ∀ E ∈ excN, Cond.castable E E ∈ lw_tbl := List.forall_mem_cons.mpr ⟨List.mem_of_getElem? (i := 516) (by decide +kernel), List.forall_mem_cons.mpr ⟨List.mem_of_getElem? (i := 592) (by decide +kernel), List.forall_mem_cons.mpr ⟨List.mem_of_getElem? (i := 725) (by decide +kernel), List.forall_mem_cons.mpr ⟨List.mem_of_getElem? (i := 786) (by decide +kernel), List.forall_mem_cons.mpr ⟨List.mem_of_getElem? (i := 1050) (by decide +kernel), List.forall_mem_cons.mpr ⟨List.mem_of_getElem? (i := 1147) (by decide +kernel), fun _ h => absurd h List.not_mem_nil⟩⟩⟩⟩⟩⟩
theorem in_decl : ∀ y ∈ decN, Cond.declares y ∈ lw_tbl := List.forall_mem_cons.mpr ⟨List.mem_of_getElem? (i := 518) (by decide +kernel), List.forall_mem_cons.mpr ⟨List.mem_of_getElem? (i := 520) (by decide +kernel), List.forall_mem_cons.mpr ⟨List.mem_of_getElem? (i := 522) (by decide +kernel), fun _ h => absurd h List.not_mem_nil⟩⟩⟩
theorem ls_us : Cond.laysStatic "java/lang/Throwable" "UNASSIGNED_STACK" "[Ljava/lang/StackTraceElement;" ∈ lw_tbl := List.mem_of_getElem? (i := 541) (by decide +kernel)
theorem ls_ss : Cond.laysStatic "java/lang/Throwable" "SUPPRESSED_SENTINEL" "Ljava/util/List;" ∈ lw_tbl := List.mem_of_getElem? (i := 543) (by decide +kernel)
theorem ls_cs : Cond.laysStatic "java/lang/String" "COMPACT_STRINGS" "Z" ∈ lw_tbl := List.mem_of_getElem? (i := 671) (by decide +kernel)
theorem ls_sf : Cond.laysStatic "jdk/internal/util/Preconditions" "SIOOBE_FORMATTER" "Ljava/util/function/BiFunction;" ∈ lw_tbl := List.mem_of_getElem? (i := 687) (by decide +kernel)
theorem in_th : Cond.initialized "java/lang/Throwable" ∈ lw_tbl := List.mem_of_getElem? (i := 76) (by decide +kernel)
theorem in_st : Cond.initialized "java/lang/String" ∈ lw_tbl := List.mem_of_getElem? (i := 83) (by decide +kernel)
theorem in_pr : Cond.initialized "jdk/internal/util/Preconditions" ∈ lw_tbl := List.mem_of_getElem? (i := 85) (by decide +kernel)
