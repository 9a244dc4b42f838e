/-! Exceptions of the class: words and rows -/
abbrev exNm : List String := ["java/lang/RuntimeException", "java/lang/Exception"]
def EXC (ik ic : Nat) (E : String) : Prop := Cond.classLink RX8 ik E ∈ BIG ∧ Cond.initialized E ∈ BIG ∧ Bundle.fit E = true ∧ E ∈ excN ∧ (∃ ps : List Nat, (vx_atS RX8 ic E exNm).filter goodWord = ps.filterMap (fun i => lw_tbl[i]?)) ∧ (vx_atS RX8 ic E exNm).filter (fun w => !goodWord w) = decN.map Cond.declares ++ [.castable E E] ∧ (Cond.classLink RX8 ik E :: Cond.initialized E :: vx_atS RX8 ic E exNm).all vx_ot = true
def exIAE : String := "java/lang/IllegalArgumentException"
set_option maxRecDepth 20000 in
theorem excIAE : EXC 94 98 exIAE := ⟨big_of (List.mem_of_getElem? (i := 514) (by decide +kernel)) (by decide +kernel), big_of (List.mem_of_getElem? (i := 79) (by decide +kernel)) (by decide +kernel), by decide +kernel, by decide +kernel, ⟨[76, 536, 545, 553, 556, 558, 537, 538, 99, 100, 539, 544, 554, 574, 526, 575, 528, 576, 530, 540, 542, 532, 570, 571, 573, 532, 561, 562, 563, 564, 564, 565, 566, 567, 567, 568, 569, 570, 560, 515, 523, 524, 525, 527, 529, 531, 535, 534, 533], by decide +kernel⟩, by decide +kernel, by decide +kernel⟩
def exISE : String := "java/lang/IllegalStateException"
set_option maxRecDepth 20000 in
theorem excISE : EXC 105 109 exISE := ⟨big_of (List.mem_of_getElem? (i := 590) (by decide +kernel)) (by decide +kernel), big_of (List.mem_of_getElem? (i := 80) (by decide +kernel)) (by decide +kernel), by decide +kernel, by decide +kernel, ⟨[76, 536, 545, 553, 556, 558, 537, 538, 99, 100, 539, 544, 554, 574, 526, 575, 528, 576, 530, 540, 542, 532, 570, 571, 573, 532, 601, 602, 603, 564, 564, 565, 566, 567, 567, 568, 569, 570, 600, 591, 593, 549, 594, 595, 596, 597, 535, 534, 598], by decide +kernel⟩, by decide +kernel, by decide +kernel⟩
def exIOE : String := "java/lang/IndexOutOfBoundsException"
set_option maxRecDepth 20000 in
theorem excIOE : EXC 117 121 exIOE := ⟨big_of (List.mem_of_getElem? (i := 723) (by decide +kernel)) (by decide +kernel), big_of (List.mem_of_getElem? (i := 81) (by decide +kernel)) (by decide +kernel), by decide +kernel, by decide +kernel, ⟨[76, 536, 545, 553, 556, 558, 537, 538, 99, 100, 539, 544, 554, 574, 526, 575, 528, 576, 530, 540, 542, 532, 570, 571, 573, 532, 619, 620, 621, 564, 564, 565, 566, 567, 567, 568, 569, 570, 733, 724, 726, 550, 727, 728, 729, 730, 535, 534, 731], by decide +kernel⟩, by decide +kernel, by decide +kernel⟩
def exUOE : String := "java/lang/UnsupportedOperationException"
set_option maxRecDepth 20000 in
theorem excUOE : EXC 372 376 exUOE := ⟨big_of (List.mem_of_getElem? (i := 1048) (by decide +kernel)) (by decide +kernel), big_of (List.mem_of_getElem? (i := 90) (by decide +kernel)) (by decide +kernel), by decide +kernel, by decide +kernel, ⟨[76, 536, 545, 553, 556, 558, 537, 538, 99, 100, 539, 544, 554, 574, 526, 575, 528, 576, 530, 540, 542, 532, 570, 571, 573, 532, 1059, 1060, 1061, 564, 564, 565, 566, 567, 567, 568, 569, 570, 1058, 1049, 1051, 551, 1052, 1053, 1054, 1055, 535, 534, 1056], by decide +kernel⟩, by decide +kernel, by decide +kernel⟩
def exARE : String := "java/lang/ArithmeticException"
set_option maxRecDepth 20000 in
theorem excARE : EXC 297 301 exARE := ⟨big_of (List.mem_of_getElem? (i := 1153) (by decide +kernel)) (by decide +kernel), big_of (List.mem_of_getElem? (i := 92) (by decide +kernel)) (by decide +kernel), by decide +kernel, by decide +kernel, ⟨[76, 536, 545, 553, 556, 558, 537, 538, 99, 100, 539, 544, 554, 574, 526, 575, 528, 576, 530, 540, 542, 532, 570, 571, 573, 532, 1137, 1138, 1139, 564, 564, 565, 566, 567, 567, 568, 569, 570, 1155, 1136, 1148, 547, 1142, 1143, 1145, 1141, 535, 534, 1140], by decide +kernel⟩, by decide +kernel, by decide +kernel⟩
theorem EXC.at {ik ic : Nat} {E : String} (h : EXC ik ic E) {g : Gm} {args : Array Value} {s : State} (h5 : ∀ w ∈ BIG, w.before args s = true) (h6 : SOK g s) : ∀ w ∈ vx_atS RX8 ic E exNm, w.before args s = true := by
  obtain ⟨-, -, -, e4, ⟨ps, e5⟩, e6, -⟩ := h
  obtain ⟨-, -, -, -, -, -, -, -, -, -, h11, -, h13⟩ := h6
  refine vx_hat (B := decN.map Cond.declares ++ [.castable E E]) (fun w hw => ?_) (fun w hw => by rw [e6] at hw; exact hw) (fun w hw => ?_)
  · have hg := (List.mem_filter.mp hw).2
    rw [e5] at hw
    obtain ⟨i, -, hi⟩ := List.mem_filterMap.mp hw
    exact h5 w (big_of (List.mem_of_getElem? hi) hg)
  · rcases List.mem_append.mp hw with h | h
    · obtain ⟨y, hy, rfl⟩ := List.mem_map.mp h
      exact va_Nw.use rfl (h13 y hy)
    · cases List.mem_singleton.mp h
      exact va_Nw.use rfl (h11 E e4)
/-- the world stands where the heap has only grown -/
theorem post_grown {g : Gm} {σ : Sg} {H : Heap} {t : State} (hP : va_P g.1 vwCl (wl g σ) H) (hk : ∀ q : Nat, q < H.size → t.heap[q]? = H[q]?) : POST g σ t := va_P.kept hP (fun _ _ hk9 => hk _ (vx_lt hP hk9))
theorem F_grown {g : Gm} {s t : State} {H : Heap} {locs : List Loc} (hS : va_S (gA g) s.heap H locs) (h1 : H.size ≤ t.heap.size) (hk : ∀ q : Nat, q < H.size → t.heap[q]? = H[q]?) : va_F (gA g) s t := ⟨Nat.le_trans hS.1 h1, fun q hq hA => (hk q (Nat.lt_of_lt_of_le hq hS.1)).trans (hS.2.1 q hq hA)⟩
section XROWS
variable {X : Cx} {cc : ByteArray} {h0 mc0 ms0 : Nat} {a b pc : Nat} {L : List (Option V)} {st : List V} {σ : Sg} {px : String → Sg → Prop}
theorem gx_throw {ik ic is : Nat} {E : String} (i : Nat) (hx : CX X cc RX8 h0 mc0 ms0) (hq : QX X mc0 ms0 px) (hE : EXC ik ic E) (hi : i < 33) (his : (strT i).1 = is) (d0 : decode cc pc = .ok (.new ik, 3)) (d3 : decode cc (pc + 3) = .ok (.dup, 1)) (d4 : decode cc (pc + 4) = .ok (.ldc is, 2)) (d6 : decode cc (pc + 6) = .ok (.invokespecial ic, 3)) (d9 : decode cc (pc + 9) = .ok (.athrow, 1)) (hc : st.length ≤ 8) (ha : a + 1 ≤ mc0) (hb : b + 6 ≤ ms0) (hp : px E σ) : GJ X a b pc L st σ := by
  obtain ⟨g, p, l, e, R, s, m, args, below, meth, c, Q, nL⟩ := X
  obtain ⟨h1, h2, h3, h4, h5, h6, h7, h8⟩ := hx
  obtain ⟨q1, q2, Qc, q3⟩ := hq
  subst h8
  subst q3
  subst his
  intro H locs ls hLn hP hS hls
  have hat := hE.at h5 h6
  obtain ⟨e1, e2, e3, -, -, -, e7⟩ := hE
  have h6' := h6
  obtain ⟨-, -, -, -, -, k6, -, -, k9, k10, -⟩ := h6'
  exact vx_throwS (own := RX8) (cls := E) (names := exNm) (sa := adr g (1000 + i)) (text := (strT i).2) h1 h2 q1 h4 e3 (by decide +kernel) (h5 _ e1) (h5 _ e2) (k6 i hi) hat (List.all_eq_true.mp e7) k9 k10 hS (hls.1.trans h3.symm) d0 d3 d4 d6 d9 (fun x hx9 => (q2 x hx9).elim) (by show 2 + 3 < 8 + h0; omega) (by rw [cat_sum]; show _ + (13 * (2 + 1) + 43) ≤ 300 + 60 * h0; omega) ha hb h7 (fun t hA t1 t2 => ⟨(E, σ), hp, ⟨rfl, post_grown hP t2⟩, F_grown hS t1 t2⟩) hS.2.2 ha hb
theorem gx_throwW {ik ic is : Nat} {E : String} (i : Nat) (hx : CX X cc RX8 h0 mc0 ms0) (hq : QX X mc0 ms0 px) (hE : EXC ik ic E) (hi : i < 33) (his : (strT i).1 = is) (d0 : decode cc pc = .ok (.new ik, 3)) (d3 : decode cc (pc + 3) = .ok (.dup, 1)) (d4 : decode cc (pc + 4) = .ok (.ldc_w is, 3)) (d6 : decode cc (pc + 7) = .ok (.invokespecial ic, 3)) (d9 : decode cc (pc + 10) = .ok (.athrow, 1)) (hc : st.length ≤ 8) (ha : a + 1 ≤ mc0) (hb : b + 6 ≤ ms0) (hp : px E σ) : GJ X a b pc L st σ := by
  obtain ⟨g, p, l, e, R, s, m, args, below, meth, c, Q, nL⟩ := X
  obtain ⟨h1, h2, h3, h4, h5, h6, h7, h8⟩ := hx
  obtain ⟨q1, q2, Qc, q3⟩ := hq
  subst h8
  subst q3
  subst his
  intro H locs ls hLn hP hS hls
  have hat := hE.at h5 h6
  obtain ⟨e1, e2, e3, -, -, -, e7⟩ := hE
  have h6' := h6
  obtain ⟨-, -, -, -, -, k6, -, -, k9, k10, -⟩ := h6'
  exact vx_throwSW (own := RX8) (cls := E) (names := exNm) (sa := adr g (1000 + i)) (text := (strT i).2) h1 h2 q1 h4 e3 (by decide +kernel) (h5 _ e1) (h5 _ e2) (k6 i hi) hat (List.all_eq_true.mp e7) k9 k10 hS (hls.1.trans h3.symm) d0 d3 d4 d6 d9 (fun x hx9 => (q2 x hx9).elim) (by show 2 + 3 < 8 + h0; omega) (by rw [cat_sum]; show _ + (13 * (2 + 1) + 43) ≤ 300 + 60 * h0; omega) ha hb h7 (fun t hA t1 t2 => ⟨(E, σ), hp, ⟨rfl, post_grown hP t2⟩, F_grown hS t1 t2⟩) hS.2.2 ha hb
end XROWS
