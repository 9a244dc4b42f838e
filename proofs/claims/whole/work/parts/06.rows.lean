/-! The rows: an instruction, a row, over the integer machine -/
section ROWS
variable {X : Cx} {cc : ByteArray} {own : String} {h0 mc0 ms0 : Nat} {a b pc : Nat} {L : List (Option V)} {st : List V} {σ : Sg}
theorem gx_iload_n {k : Fin 4} {x : Int} (hx : CX X cc own h0 mc0 ms0) (d : decode cc pc = .ok (.iload_n k, 1)) (hl : L[(k : Nat)]? = some (some (.inl x))) (kk : GJ X a b (pc + 1) L (.inl x :: st) σ) : GJ X a b pc L st σ := by
  obtain ⟨g, p, l, e, R, s, m, args, below, meth, c, Q, nL⟩ := X
  obtain ⟨h1, h2, -⟩ := hx
  intro H locs ls hLn hP hS hls
  exact lv_iload_n h1 h2 d rfl (lvl_get (g := g) (v := .inl x) hls hl) (kk H locs ls hLn hP hS hls)
theorem gx_aload_n {k : Fin 4} {x : Nat} (hx : CX X cc own h0 mc0 ms0) (d : decode cc pc = .ok (.aload_n k, 1)) (hl : L[(k : Nat)]? = some (some (.inr x))) (kk : GJ X a b (pc + 1) L (.inr x :: st) σ) : GJ X a b pc L st σ := by
  obtain ⟨g, p, l, e, R, s, m, args, below, meth, c, Q, nL⟩ := X
  obtain ⟨h1, h2, -⟩ := hx
  intro H locs ls hLn hP hS hls
  exact lv_aload_n h1 h2 d rfl (lvl_get (g := g) (v := .inr x) hls hl) (kk H locs ls hLn hP hS hls)
theorem gx_iload {i : Nat} {x : Int} (hx : CX X cc own h0 mc0 ms0) (d : decode cc pc = .ok (.iload i, 2)) (hl : L[i]? = some (some (.inl x))) (kk : GJ X a b (pc + 2) L (.inl x :: st) σ) : GJ X a b pc L st σ := by
  obtain ⟨g, p, l, e, R, s, m, args, below, meth, c, Q, nL⟩ := X
  obtain ⟨h1, h2, -⟩ := hx
  intro H locs ls hLn hP hS hls
  exact lv_iload h1 h2 d (lvl_get (g := g) (v := .inl x) hls hl) (kk H locs ls hLn hP hS hls)
theorem gx_aload {i : Nat} {x : Nat} (hx : CX X cc own h0 mc0 ms0) (d : decode cc pc = .ok (.aload i, 2)) (hl : L[i]? = some (some (.inr x))) (kk : GJ X a b (pc + 2) L (.inr x :: st) σ) : GJ X a b pc L st σ := by
  obtain ⟨g, p, l, e, R, s, m, args, below, meth, c, Q, nL⟩ := X
  obtain ⟨h1, h2, -⟩ := hx
  intro H locs ls hLn hP hS hls
  exact lv_aload h1 h2 d (lvl_get (g := g) (v := .inr x) hls hl) (kk H locs ls hLn hP hS hls)
theorem gx_istore_n {k : Fin 4} {x : Int} (hx : CX X cc own h0 mc0 ms0) (d : decode cc pc = .ok (.istore_n k, 1)) (hn : (k : Nat) < L.length) (kk : GJ X a b (pc + 1) (L.set (k : Nat) (some (.inl x))) st σ) : GJ X a b pc L (.inl x :: st) σ := by
  obtain ⟨g, p, l, e, R, s, m, args, below, meth, c, Q, nL⟩ := X
  obtain ⟨h1, h2, -⟩ := hx
  intro H locs ls hLn hP hS hls
  exact lv_istore_n h1 h2 d rfl hls (hLn ▸ hn) rfl (fun ls' hl' => kk H locs ls' (by rw [List.length_set]; exact hLn) hP hS (lvl_put (g := g) (v := .inl x) hl'))
theorem gx_astore_n {k : Fin 4} {x : Nat} (hx : CX X cc own h0 mc0 ms0) (d : decode cc pc = .ok (.astore_n k, 1)) (hn : (k : Nat) < L.length) (kk : GJ X a b (pc + 1) (L.set (k : Nat) (some (.inr x))) st σ) : GJ X a b pc L (.inr x :: st) σ := by
  obtain ⟨g, p, l, e, R, s, m, args, below, meth, c, Q, nL⟩ := X
  obtain ⟨h1, h2, -⟩ := hx
  intro H locs ls hLn hP hS hls
  exact lv_astore_n h1 h2 d rfl hls (hLn ▸ hn) rfl (fun ls' hl' => kk H locs ls' (by rw [List.length_set]; exact hLn) hP hS (lvl_put (g := g) (v := .inr x) hl'))
theorem gx_istore {i : Nat} {x : Int} (hx : CX X cc own h0 mc0 ms0) (d : decode cc pc = .ok (.istore i, 2)) (hn : i < L.length) (kk : GJ X a b (pc + 2) (L.set i (some (.inl x))) st σ) : GJ X a b pc L (.inl x :: st) σ := by
  obtain ⟨g, p, l, e, R, s, m, args, below, meth, c, Q, nL⟩ := X
  obtain ⟨h1, h2, -⟩ := hx
  intro H locs ls hLn hP hS hls
  exact lv_istore h1 h2 d hls (hLn ▸ hn) rfl (fun ls' hl' => kk H locs ls' (by rw [List.length_set]; exact hLn) hP hS (lvl_put (g := g) (v := .inl x) hl'))
theorem gx_astore {i : Nat} {x : Nat} (hx : CX X cc own h0 mc0 ms0) (d : decode cc pc = .ok (.astore i, 2)) (hn : i < L.length) (kk : GJ X a b (pc + 2) (L.set i (some (.inr x))) st σ) : GJ X a b pc L (.inr x :: st) σ := by
  obtain ⟨g, p, l, e, R, s, m, args, below, meth, c, Q, nL⟩ := X
  obtain ⟨h1, h2, -⟩ := hx
  intro H locs ls hLn hP hS hls
  exact lv_astore h1 h2 d hls (hLn ▸ hn) rfl (fun ls' hl' => kk H locs ls' (by rw [List.length_set]; exact hLn) hP hS (lvl_put (g := g) (v := .inr x) hl'))
theorem gx_iinc {i : Nat} {n x : Int} (hx : CX X cc own h0 mc0 ms0) (d : decode cc pc = .ok (.iinc i n, 3)) (hn : i < L.length) (hl : L[i]? = some (some (.inl x))) (kk : GJ X a b (pc + 3) (L.set i (some (.inl (x + n)))) st σ) : GJ X a b pc L st σ := by
  obtain ⟨g, p, l, e, R, s, m, args, below, meth, c, Q, nL⟩ := X
  obtain ⟨h1, h2, -⟩ := hx
  intro H locs ls hLn hP hS hls
  have hmem := (lvl_mem (g := g) L 0 i (vv g (.inl x))).mpr ⟨.inl x, Nat.zero_le _, hl, rfl⟩
  obtain ⟨k, hk⟩ := List.getElem?_of_mem hmem
  exact lv_iinc (v := ii (x + n)) h1 h2 d hls hk (ii_add x n) (hLn ▸ hn) rfl (fun ls' hl' => kk H locs ls' (by rw [List.length_set]; exact hLn) hP hS (lvl_put (g := g) (v := .inl (x + n)) hl'))
theorem gx_iconst {n : Int} (hx : CX X cc own h0 mc0 ms0) (d : decode cc pc = .ok (.iconst n, 1)) (kk : GJ X a b (pc + 1) L (.inl n :: st) σ) : GJ X a b pc L st σ := by
  obtain ⟨g, p, l, e, R, s, m, args, below, meth, c, Q, nL⟩ := X
  obtain ⟨h1, h2, -⟩ := hx
  intro H locs ls hLn hP hS hls
  exact lv_iconst (v := ii n) h1 h2 d rfl (kk H locs ls hLn hP hS hls)
theorem gx_bipush {n : Int} (hx : CX X cc own h0 mc0 ms0) (d : decode cc pc = .ok (.bipush n, 2)) (hv : (Int8.ofInt n).toInt32 = ii n) (kk : GJ X a b (pc + 2) L (.inl n :: st) σ) : GJ X a b pc L st σ := by
  obtain ⟨g, p, l, e, R, s, m, args, below, meth, c, Q, nL⟩ := X
  obtain ⟨h1, h2, -⟩ := hx
  intro H locs ls hLn hP hS hls
  exact lv_bipush (v := ii n) h1 h2 d hv (kk H locs ls hLn hP hS hls)
theorem gx_sipush {n : Int} (hx : CX X cc own h0 mc0 ms0) (d : decode cc pc = .ok (.sipush n, 3)) (hv : (Int16.ofInt n).toInt32 = ii n) (kk : GJ X a b (pc + 3) L (.inl n :: st) σ) : GJ X a b pc L st σ := by
  obtain ⟨g, p, l, e, R, s, m, args, below, meth, c, Q, nL⟩ := X
  obtain ⟨h1, h2, -⟩ := hx
  intro H locs ls hLn hP hS hls
  exact lv_sipush (v := ii n) h1 h2 d hv (kk H locs ls hLn hP hS hls)
theorem gx_dup {v : V} (hx : CX X cc own h0 mc0 ms0) (d : decode cc pc = .ok (.dup, 1)) (kk : GJ X a b (pc + 1) L (v :: v :: st) σ) : GJ X a b pc L (v :: st) σ := by
  obtain ⟨g, p, l, e, R, s, m, args, below, meth, c, Q, nL⟩ := X
  obtain ⟨h1, h2, -⟩ := hx
  intro H locs ls hLn hP hS hls
  exact lv_dup h1 h2 d (vv_cat v) (kk H locs ls hLn hP hS hls)
theorem gx_pop {v : V} (hx : CX X cc own h0 mc0 ms0) (d : decode cc pc = .ok (.pop, 1)) (kk : GJ X a b (pc + 1) L st σ) : GJ X a b pc L (v :: st) σ := by
  obtain ⟨g, p, l, e, R, s, m, args, below, meth, c, Q, nL⟩ := X
  obtain ⟨h1, h2, -⟩ := hx
  intro H locs ls hLn hP hS hls
  exact lv_pop h1 h2 d (vv_cat v) (kk H locs ls hLn hP hS hls)
theorem gx_goto {off : Int} {tgt : Nat} (hx : CX X cc own h0 mc0 ms0) (d : decode cc pc = .ok (.goto off, 3)) (ht : (pc : Int) + off = (tgt : Int)) (kk : GJ X a b tgt L st σ) : GJ X a b pc L st σ := by
  obtain ⟨g, p, l, e, R, s, m, args, below, meth, c, Q, nL⟩ := X
  obtain ⟨h1, h2, -⟩ := hx
  intro H locs ls hLn hP hS hls
  exact lv_goto h1 h2 d ht (kk H locs ls hLn hP hS hls)
theorem gx_iadd {x y : Int} (hx : CX X cc own h0 mc0 ms0) (d : decode cc pc = .ok (.iadd, 1)) (kk : GJ X a b (pc + 1) L (.inl (x + y) :: st) σ) : GJ X a b pc L (.inl y :: .inl x :: st) σ := by
  obtain ⟨g, p, l, e, R, s, m, args, below, meth, c, Q, nL⟩ := X
  obtain ⟨h1, h2, -⟩ := hx
  intro H locs ls hLn hP hS hls
  refine lv_iadd (x := ii x) (y := ii y) h1 h2 d ?_
  rw [ii_add]
  exact kk H locs ls hLn hP hS hls
theorem gx_isub {x y : Int} (hx : CX X cc own h0 mc0 ms0) (d : decode cc pc = .ok (.isub, 1)) (kk : GJ X a b (pc + 1) L (.inl (x - y) :: st) σ) : GJ X a b pc L (.inl y :: .inl x :: st) σ := by
  obtain ⟨g, p, l, e, R, s, m, args, below, meth, c, Q, nL⟩ := X
  obtain ⟨h1, h2, -⟩ := hx
  intro H locs ls hLn hP hS hls
  refine lv_isub (x := ii x) (y := ii y) h1 h2 d ?_
  rw [ii_sub]
  exact kk H locs ls hLn hP hS hls
theorem gx_imul {x y : Int} (hx : CX X cc own h0 mc0 ms0) (d : decode cc pc = .ok (.imul, 1)) (kk : GJ X a b (pc + 1) L (.inl (x * y) :: st) σ) : GJ X a b pc L (.inl y :: .inl x :: st) σ := by
  obtain ⟨g, p, l, e, R, s, m, args, below, meth, c, Q, nL⟩ := X
  obtain ⟨h1, h2, -⟩ := hx
  intro H locs ls hLn hP hS hls
  refine lv_imul (x := ii x) (y := ii y) h1 h2 d ?_
  rw [ii_mul]
  exact kk H locs ls hLn hP hS hls
theorem gx_ineg {x : Int} (hx : CX X cc own h0 mc0 ms0) (d : decode cc pc = .ok (.ineg, 1)) (kk : GJ X a b (pc + 1) L (.inl (-x) :: st) σ) : GJ X a b pc L (.inl x :: st) σ := by
  obtain ⟨g, p, l, e, R, s, m, args, below, meth, c, Q, nL⟩ := X
  obtain ⟨h1, h2, -⟩ := hx
  intro H locs ls hLn hP hS hls
  refine lv_ineg (x := ii x) h1 h2 d ?_
  rw [ii_neg]
  exact kk H locs ls hLn hP hS hls
theorem gx_iand {x y z : Int} (hx : CX X cc own h0 mc0 ms0) (d : decode cc pc = .ok (.iand, 1)) (hz : ii x &&& ii y = ii z) (kk : GJ X a b (pc + 1) L (.inl z :: st) σ) : GJ X a b pc L (.inl y :: .inl x :: st) σ := by
  obtain ⟨g, p, l, e, R, s, m, args, below, meth, c, Q, nL⟩ := X
  obtain ⟨h1, h2, -⟩ := hx
  intro H locs ls hLn hP hS hls
  refine lv_iand (x := ii x) (y := ii y) h1 h2 d ?_
  rw [hz]
  exact kk H locs ls hLn hP hS hls
theorem gx_ishl {x y z : Int} (hx : CX X cc own h0 mc0 ms0) (d : decode cc pc = .ok (.ishl, 1)) (hz : ii x <<< (ii y &&& 31) = ii z) (kk : GJ X a b (pc + 1) L (.inl z :: st) σ) : GJ X a b pc L (.inl y :: .inl x :: st) σ := by
  obtain ⟨g, p, l, e, R, s, m, args, below, meth, c, Q, nL⟩ := X
  obtain ⟨h1, h2, -⟩ := hx
  intro H locs ls hLn hP hS hls
  refine lv_ishl (x := ii x) (y := ii y) h1 h2 d ?_
  rw [hz]
  exact kk H locs ls hLn hP hS hls
theorem gx_idiv {x y : Int} (hx : CX X cc own h0 mc0 ms0) (d : decode cc pc = .ok (.idiv, 1)) (rx : rg x) (ry : rg y) (hx0 : 0 ≤ x) (hy0 : 0 < y) (kk : GJ X a b (pc + 1) L (.inl (x / y) :: st) σ) : GJ X a b pc L (.inl y :: .inl x :: st) σ := by
  obtain ⟨g, p, l, e, R, s, m, args, below, meth, c, Q, nL⟩ := X
  obtain ⟨h1, h2, -⟩ := hx
  intro H locs ls hLn hP hS hls
  refine lv_idiv (x := ii x) (y := ii y) h1 h2 d (fun h => ?_) ?_
  · have h9 := ii_inj ry ⟨by decide, by decide⟩ (h.trans ii_0.symm)
    omega
  · rw [ii_div rx ry hx0 hy0]
    exact kk H locs ls hLn hP hS hls
theorem gx_irem {x y : Int} (hx : CX X cc own h0 mc0 ms0) (d : decode cc pc = .ok (.irem, 1)) (rx : rg x) (ry : rg y) (hx0 : 0 ≤ x) (hy0 : 0 < y) (kk : GJ X a b (pc + 1) L (.inl (x % y) :: st) σ) : GJ X a b pc L (.inl y :: .inl x :: st) σ := by
  obtain ⟨g, p, l, e, R, s, m, args, below, meth, c, Q, nL⟩ := X
  obtain ⟨h1, h2, -⟩ := hx
  intro H locs ls hLn hP hS hls
  refine lv_irem (x := ii x) (y := ii y) h1 h2 d (fun h => ?_) ?_
  · have h9 := ii_inj ry ⟨by decide, by decide⟩ (h.trans ii_0.symm)
    omega
  · rw [ii_rem rx ry hx0 hy0]
    exact kk H locs ls hLn hP hS hls
theorem gx_icmp_eq {x y : Int} {off : Int} {tgt : Nat} (hx : CX X cc own h0 mc0 ms0) (d : decode cc pc = .ok (.if_icmp .eq off, 3)) (ht : (pc : Int) + off = (tgt : Int)) (rx : rg x) (ry : rg y) (kt : x = y → GJ X a b tgt L st σ) (kf : ¬ x = y → GJ X a b (pc + 3) L st σ) : GJ X a b pc L (.inl y :: .inl x :: st) σ := by
  obtain ⟨g, p, l, e, R, s, m, args, below, meth, c, Q, nL⟩ := X
  obtain ⟨h1, h2, -⟩ := hx
  intro H locs ls hLn hP hS hls
  exact lv_icmp_eq (x := ii x) (y := ii y) h1 h2 d ht (fun h => kt ((ii_eq rx ry).mp h) H locs ls hLn hP hS hls) (fun h => kf (fun h9 => h ((ii_eq rx ry).mpr h9)) H locs ls hLn hP hS hls)
theorem gx_if_eq {x : Int} {off : Int} {tgt : Nat} (hx : CX X cc own h0 mc0 ms0) (d : decode cc pc = .ok (.ifCond .eq off, 3)) (ht : (pc : Int) + off = (tgt : Int)) (rx : rg x) (kt : x = 0 → GJ X a b tgt L st σ) (kf : ¬ x = 0 → GJ X a b (pc + 3) L st σ) : GJ X a b pc L (.inl x :: st) σ := by
  obtain ⟨g, p, l, e, R, s, m, args, below, meth, c, Q, nL⟩ := X
  obtain ⟨h1, h2, -⟩ := hx
  have ry : rg 0 := ⟨by decide, by decide⟩
  intro H locs ls hLn hP hS hls
  exact lv_if_eq (x := ii x) h1 h2 d ht (fun h => kt ((ii_eq rx ry).mp h) H locs ls hLn hP hS hls) (fun h => kf (fun h9 => h ((ii_eq rx ry).mpr h9)) H locs ls hLn hP hS hls)
theorem gx_icmp_lt {x y : Int} {off : Int} {tgt : Nat} (hx : CX X cc own h0 mc0 ms0) (d : decode cc pc = .ok (.if_icmp .lt off, 3)) (ht : (pc : Int) + off = (tgt : Int)) (rx : rg x) (ry : rg y) (kt : x < y → GJ X a b tgt L st σ) (kf : ¬ x < y → GJ X a b (pc + 3) L st σ) : GJ X a b pc L (.inl y :: .inl x :: st) σ := by
  obtain ⟨g, p, l, e, R, s, m, args, below, meth, c, Q, nL⟩ := X
  obtain ⟨h1, h2, -⟩ := hx
  intro H locs ls hLn hP hS hls
  exact lv_icmp_lt (x := ii x) (y := ii y) h1 h2 d ht (fun h => kt ((ii_lt rx ry).mp h) H locs ls hLn hP hS hls) (fun h => kf (fun h9 => h ((ii_lt rx ry).mpr h9)) H locs ls hLn hP hS hls)
theorem gx_if_lt {x : Int} {off : Int} {tgt : Nat} (hx : CX X cc own h0 mc0 ms0) (d : decode cc pc = .ok (.ifCond .lt off, 3)) (ht : (pc : Int) + off = (tgt : Int)) (rx : rg x) (kt : x < 0 → GJ X a b tgt L st σ) (kf : ¬ x < 0 → GJ X a b (pc + 3) L st σ) : GJ X a b pc L (.inl x :: st) σ := by
  obtain ⟨g, p, l, e, R, s, m, args, below, meth, c, Q, nL⟩ := X
  obtain ⟨h1, h2, -⟩ := hx
  have ry : rg 0 := ⟨by decide, by decide⟩
  intro H locs ls hLn hP hS hls
  exact lv_if_lt (x := ii x) h1 h2 d ht (fun h => kt ((ii_lt rx ry).mp h) H locs ls hLn hP hS hls) (fun h => kf (fun h9 => h ((ii_lt rx ry).mpr h9)) H locs ls hLn hP hS hls)
theorem gx_icmp_ge {x y : Int} {off : Int} {tgt : Nat} (hx : CX X cc own h0 mc0 ms0) (d : decode cc pc = .ok (.if_icmp .ge off, 3)) (ht : (pc : Int) + off = (tgt : Int)) (rx : rg x) (ry : rg y) (kt : y ≤ x → GJ X a b tgt L st σ) (kf : ¬ y ≤ x → GJ X a b (pc + 3) L st σ) : GJ X a b pc L (.inl y :: .inl x :: st) σ := by
  obtain ⟨g, p, l, e, R, s, m, args, below, meth, c, Q, nL⟩ := X
  obtain ⟨h1, h2, -⟩ := hx
  intro H locs ls hLn hP hS hls
  exact lv_icmp_ge (x := ii x) (y := ii y) h1 h2 d ht (fun h => kt ((ii_le ry rx).mp h) H locs ls hLn hP hS hls) (fun h => kf (fun h9 => h ((ii_le ry rx).mpr h9)) H locs ls hLn hP hS hls)
theorem gx_if_ge {x : Int} {off : Int} {tgt : Nat} (hx : CX X cc own h0 mc0 ms0) (d : decode cc pc = .ok (.ifCond .ge off, 3)) (ht : (pc : Int) + off = (tgt : Int)) (rx : rg x) (kt : 0 ≤ x → GJ X a b tgt L st σ) (kf : ¬ 0 ≤ x → GJ X a b (pc + 3) L st σ) : GJ X a b pc L (.inl x :: st) σ := by
  obtain ⟨g, p, l, e, R, s, m, args, below, meth, c, Q, nL⟩ := X
  obtain ⟨h1, h2, -⟩ := hx
  have ry : rg 0 := ⟨by decide, by decide⟩
  intro H locs ls hLn hP hS hls
  exact lv_if_ge (x := ii x) h1 h2 d ht (fun h => kt ((ii_le ry rx).mp h) H locs ls hLn hP hS hls) (fun h => kf (fun h9 => h ((ii_le ry rx).mpr h9)) H locs ls hLn hP hS hls)
theorem gx_icmp_gt {x y : Int} {off : Int} {tgt : Nat} (hx : CX X cc own h0 mc0 ms0) (d : decode cc pc = .ok (.if_icmp .gt off, 3)) (ht : (pc : Int) + off = (tgt : Int)) (rx : rg x) (ry : rg y) (kt : y < x → GJ X a b tgt L st σ) (kf : ¬ y < x → GJ X a b (pc + 3) L st σ) : GJ X a b pc L (.inl y :: .inl x :: st) σ := by
  obtain ⟨g, p, l, e, R, s, m, args, below, meth, c, Q, nL⟩ := X
  obtain ⟨h1, h2, -⟩ := hx
  intro H locs ls hLn hP hS hls
  exact lv_icmp_gt (x := ii x) (y := ii y) h1 h2 d ht (fun h => kt ((ii_lt ry rx).mp h) H locs ls hLn hP hS hls) (fun h => kf (fun h9 => h ((ii_lt ry rx).mpr h9)) H locs ls hLn hP hS hls)
theorem gx_if_gt {x : Int} {off : Int} {tgt : Nat} (hx : CX X cc own h0 mc0 ms0) (d : decode cc pc = .ok (.ifCond .gt off, 3)) (ht : (pc : Int) + off = (tgt : Int)) (rx : rg x) (kt : 0 < x → GJ X a b tgt L st σ) (kf : ¬ 0 < x → GJ X a b (pc + 3) L st σ) : GJ X a b pc L (.inl x :: st) σ := by
  obtain ⟨g, p, l, e, R, s, m, args, below, meth, c, Q, nL⟩ := X
  obtain ⟨h1, h2, -⟩ := hx
  have ry : rg 0 := ⟨by decide, by decide⟩
  intro H locs ls hLn hP hS hls
  exact lv_if_gt (x := ii x) h1 h2 d ht (fun h => kt ((ii_lt ry rx).mp h) H locs ls hLn hP hS hls) (fun h => kf (fun h9 => h ((ii_lt ry rx).mpr h9)) H locs ls hLn hP hS hls)
theorem gx_icmp_le {x y : Int} {off : Int} {tgt : Nat} (hx : CX X cc own h0 mc0 ms0) (d : decode cc pc = .ok (.if_icmp .le off, 3)) (ht : (pc : Int) + off = (tgt : Int)) (rx : rg x) (ry : rg y) (kt : x ≤ y → GJ X a b tgt L st σ) (kf : ¬ x ≤ y → GJ X a b (pc + 3) L st σ) : GJ X a b pc L (.inl y :: .inl x :: st) σ := by
  obtain ⟨g, p, l, e, R, s, m, args, below, meth, c, Q, nL⟩ := X
  obtain ⟨h1, h2, -⟩ := hx
  intro H locs ls hLn hP hS hls
  exact lv_icmp_le (x := ii x) (y := ii y) h1 h2 d ht (fun h => kt ((ii_le rx ry).mp h) H locs ls hLn hP hS hls) (fun h => kf (fun h9 => h ((ii_le rx ry).mpr h9)) H locs ls hLn hP hS hls)
theorem gx_if_le {x : Int} {off : Int} {tgt : Nat} (hx : CX X cc own h0 mc0 ms0) (d : decode cc pc = .ok (.ifCond .le off, 3)) (ht : (pc : Int) + off = (tgt : Int)) (rx : rg x) (kt : x ≤ 0 → GJ X a b tgt L st σ) (kf : ¬ x ≤ 0 → GJ X a b (pc + 3) L st σ) : GJ X a b pc L (.inl x :: st) σ := by
  obtain ⟨g, p, l, e, R, s, m, args, below, meth, c, Q, nL⟩ := X
  obtain ⟨h1, h2, -⟩ := hx
  have ry : rg 0 := ⟨by decide, by decide⟩
  intro H locs ls hLn hP hS hls
  exact lv_if_le (x := ii x) h1 h2 d ht (fun h => kt ((ii_le rx ry).mp h) H locs ls hLn hP hS hls) (fun h => kf (fun h9 => h ((ii_le rx ry).mpr h9)) H locs ls hLn hP hS hls)
theorem gx_icmp_ne {x y : Int} {off : Int} {tgt : Nat} (hx : CX X cc own h0 mc0 ms0) (d : decode cc pc = .ok (.if_icmp .ne off, 3)) (ht : (pc : Int) + off = (tgt : Int)) (rx : rg x) (ry : rg y) (kt : ¬ x = y → GJ X a b tgt L st σ) (kf : x = y → GJ X a b (pc + 3) L st σ) : GJ X a b pc L (.inl y :: .inl x :: st) σ := by
  obtain ⟨g, p, l, e, R, s, m, args, below, meth, c, Q, nL⟩ := X
  obtain ⟨h1, h2, -⟩ := hx
  intro H locs ls hLn hP hS hls
  exact lv_icmp_ne (x := ii x) (y := ii y) h1 h2 d ht (fun h => kt (fun h9 => h ((ii_eq rx ry).mpr h9)) H locs ls hLn hP hS hls) (fun h => kf ((ii_eq rx ry).mp h) H locs ls hLn hP hS hls)
theorem gx_if_ne {x : Int} {off : Int} {tgt : Nat} (hx : CX X cc own h0 mc0 ms0) (d : decode cc pc = .ok (.ifCond .ne off, 3)) (ht : (pc : Int) + off = (tgt : Int)) (rx : rg x) (kt : ¬ x = 0 → GJ X a b tgt L st σ) (kf : x = 0 → GJ X a b (pc + 3) L st σ) : GJ X a b pc L (.inl x :: st) σ := by
  obtain ⟨g, p, l, e, R, s, m, args, below, meth, c, Q, nL⟩ := X
  obtain ⟨h1, h2, -⟩ := hx
  have ry : rg 0 := ⟨by decide, by decide⟩
  intro H locs ls hLn hP hS hls
  exact lv_if_ne (x := ii x) h1 h2 d ht (fun h => kt (fun h9 => h ((ii_eq rx ry).mpr h9)) H locs ls hLn hP hS hls) (fun h => kf ((ii_eq rx ry).mp h) H locs ls hLn hP hS hls)
theorem gx_getI {k idx ci i : Nat} {fl : List (Option Nat)} (hx : CX X cc own h0 mc0 ms0) (hF : FL own idx ci i) (d : decode cc pc = .ok (.getfield idx, 3)) (hk : k < 83) (hs : shp k = .inr (ci, fl)) (hi : fl[i]? = some none) (iz : Int) (hiz : (i : Int) = iz) (kk : GJ X a b (pc + 3) L (.inl (σ k iz) :: st) σ) : GJ X a b pc L (.inr k :: st) σ := by
  subst hiz
  obtain ⟨g, p, l, e, R, s, m, args, below, meth, c, Q, nL⟩ := X
  obtain ⟨h1, h2, -, h4, h5, h6, -⟩ := hx
  obtain ⟨C, T, N, f1, f2, f3, f4⟩ := hF
  intro H locs ls hLn hP hS hls
  refine va_get (D := g.1) (cl := vwCl) (ws := wl g σ) (a := adr g k) (v := .int (ii (σ k (i : Int)))) (C := C) (T := T) (N := N) (ci := ci) (fs := encF g σ k 0 fl) h1 h2 h5 f2 h4 h6.1 hP k (by rw [wl_at hk, enc_o hs]) f1 i f3 (h5 _ f4) (fun _ h9 => h9) (by rw [encF_at, hi]; simp) d (kk H locs ls hLn hP hS hls)
theorem gx_getR {k idx ci i q : Nat} {fl : List (Option Nat)} (hx : CX X cc own h0 mc0 ms0) (hF : FL own idx ci i) (d : decode cc pc = .ok (.getfield idx, 3)) (hk : k < 83) (hs : shp k = .inr (ci, fl)) (hi : fl[i]? = some (some q)) (kk : GJ X a b (pc + 3) L (.inr q :: st) σ) : GJ X a b pc L (.inr k :: st) σ := by
  obtain ⟨g, p, l, e, R, s, m, args, below, meth, c, Q, nL⟩ := X
  obtain ⟨h1, h2, -, h4, h5, h6, -⟩ := hx
  obtain ⟨C, T, N, f1, f2, f3, f4⟩ := hF
  intro H locs ls hLn hP hS hls
  refine va_get (D := g.1) (cl := vwCl) (ws := wl g σ) (a := adr g k) (v := .ref (adr g q)) (C := C) (T := T) (N := N) (ci := ci) (fs := encF g σ k 0 fl) h1 h2 h5 f2 h4 h6.1 hP k (by rw [wl_at hk, enc_o hs]) f1 i f3 (h5 _ f4) (fun _ h9 => h9) (by rw [encF_at, hi]; simp) d (kk H locs ls hLn hP hS hls)
theorem gx_put {k idx ci i : Nat} {fl : List (Option Nat)} {v : Int} {ty : FieldType} (hx : CX X cc own h0 mc0 ms0) (hF : FP own idx ci i ty) (d : decode cc pc = .ok (.putfield idx, 3)) (hk : k < 83) (hs : shp k = .inr (ci, fl)) (hi : fl[i]? = some none) (hn : narrow ty (.int (ii v)) = .int (ii v)) (hfit : fits ty (.int (ii v)) = true) (iz : Int) (hiz : (i : Int) = iz) (kk : GJ X a b (pc + 3) L st (upd2 σ k iz v)) : GJ X a b pc L (.inl v :: .inr k :: st) σ := by
  subst hiz
  obtain ⟨g, p, l, e, R, s, m, args, below, meth, c, Q, nL⟩ := X
  obtain ⟨h1, h2, -, h4, h5, h6, -⟩ := hx
  obtain ⟨C, T, N, ty0, f1, f2, f3, f4, f5, f6, f7, f8⟩ := hF
  intro H locs ls hLn hP hS hls
  have hil : i < fl.length := (List.getElem?_eq_some_iff.mp hi).1
  refine va_put (D := g.1) (cl := vwCl) (ws := wl g σ) (a := adr g k) (v := .int (ii v)) (ty := ty) (C := C) (T := T) (N := N) (ci := ci) (fs := encF g σ k 0 fl) h1 h2 h5 f2 ty0 f5 f6 h4 h6.1 hP (h6.D σ) hS k (by rw [wl_at hk, enc_o hs]) f1 i f3 (h5 _ f4) (fun _ h9 => h9) f7 (by rw [f5 i f3, f8]) hn hfit (by rw [encF_len]; exact hil) d (fun H1 locs1 hP1 _ hS1 => ?_)
  have he : (wl g σ).set k (adr g k, .inr (ci, (encF g σ k 0 fl).set i (.int (ii v)))) = wl g (upd2 σ k (i : Int) v) := wl_set hk (enc_upd_o hs hi) upd2_other
  rw [he] at hP1
  exact kk H1 locs1 ls hLn hP1 hS1 hls
theorem gx_iald {k n : Nat} {z : Int} (hx : CX X cc own h0 mc0 ms0) (d : decode cc pc = .ok (.iaload, 1)) (hk : k < 83) (hs : shp k = .inl (0, n)) (hz0 : 0 ≤ z) (hz1 : z < n) (hn : n < 5000) (kk : GJ X a b (pc + 1) L (.inl (σ k z) :: st) σ) : GJ X a b pc L (.inl z :: .inr k :: st) σ := by
  obtain ⟨g, p, l, e, R, s, m, args, below, meth, c, Q, nL⟩ := X
  obtain ⟨h1, h2, -, h4, h5, h6, -⟩ := hx
  intro H locs ls hLn hP hS hls
  have rz : rg z := ⟨by omega, by omega⟩
  refine va_iald (D := g.1) (cl := vwCl) (ws := wl g σ) (a := adr g k) (i := ii z) h1 h2 h6.1 hP k 0 (by rw [wl_at hk, enc_a hs (by decide)]) rfl (vp_in_ii rz hz0 hz1) d ?_
  have e9 : ((((ii z).toNatClampNeg : Nat)) : Int) = z := by rw [ii_clamp rz]; omega
  rw [e9]
  exact kk H locs ls hLn hP hS hls
theorem gx_cald {k n : Nat} {z : Int} (hx : CX X cc own h0 mc0 ms0) (d : decode cc pc = .ok (.caload, 1)) (hk : k < 83) (hs : shp k = .inl (1, n)) (hz0 : 0 ≤ z) (hz1 : z < n) (hn : n < 5000) (kk : GJ X a b (pc + 1) L (.inl (σ k z) :: st) σ) : GJ X a b pc L (.inl z :: .inr k :: st) σ := by
  obtain ⟨g, p, l, e, R, s, m, args, below, meth, c, Q, nL⟩ := X
  obtain ⟨h1, h2, -, h4, h5, h6, -⟩ := hx
  intro H locs ls hLn hP hS hls
  have rz : rg z := ⟨by omega, by omega⟩
  refine va_cald (D := g.1) (cl := vwCl) (ws := wl g σ) (a := adr g k) (i := ii z) h1 h2 h6.1 hP k 1 (by rw [wl_at hk, enc_a hs (by decide)]) rfl (vp_in_ii rz hz0 hz1) d ?_
  have e9 : ((((ii z).toNatClampNeg : Nat)) : Int) = z := by rw [ii_clamp rz]; omega
  rw [e9]
  exact kk H locs ls hLn hP hS hls
theorem gx_zald {k n : Nat} {z : Int} (hx : CX X cc own h0 mc0 ms0) (d : decode cc pc = .ok (.baload, 1)) (hk : k < 83) (hs : shp k = .inl (2, n)) (hz0 : 0 ≤ z) (hz1 : z < n) (hn : n < 5000) (kk : GJ X a b (pc + 1) L (.inl (σ k z) :: st) σ) : GJ X a b pc L (.inl z :: .inr k :: st) σ := by
  obtain ⟨g, p, l, e, R, s, m, args, below, meth, c, Q, nL⟩ := X
  obtain ⟨h1, h2, -, h4, h5, h6, -⟩ := hx
  intro H locs ls hLn hP hS hls
  have rz : rg z := ⟨by omega, by omega⟩
  refine va_zald (D := g.1) (cl := vwCl) (ws := wl g σ) (a := adr g k) (i := ii z) h1 h2 h6.1 hP k 2 (by rw [wl_at hk, enc_a hs (by decide)]) rfl (vp_in_ii rz hz0 hz1) d ?_
  have e9 : ((((ii z).toNatClampNeg : Nat)) : Int) = z := by rw [ii_clamp rz]; omega
  rw [e9]
  exact kk H locs ls hLn hP hS hls
theorem gx_iast {k n : Nat} {z v : Int} (hx : CX X cc own h0 mc0 ms0) (d : decode cc pc = .ok (.iastore, 1)) (hk : k < 83) (hs : shp k = .inl (0, n)) (hz0 : 0 ≤ z) (hz1 : z < n) (hn : n < 5000) (kk : GJ X a b (pc + 1) L st (upd2 σ k z v)) : GJ X a b pc L (.inl v :: .inl z :: .inr k :: st) σ := by
  obtain ⟨g, p, l, e, R, s, m, args, below, meth, c, Q, nL⟩ := X
  obtain ⟨h1, h2, -, h4, h5, h6, -⟩ := hx
  intro H locs ls hLn hP hS hls
  have rz : rg z := ⟨by omega, by omega⟩
  refine va_iast (D := g.1) (cl := vwCl) (ws := wl g σ) (a := adr g k) (i := ii z) (x := ii v) h1 h2 h6.1 hP (h6.D σ) hS k 0 (by rw [wl_at hk, enc_a hs (by decide)]) rfl (vp_in_ii rz hz0 hz1) d (fun H1 locs1 hP1 _ hS1 => ?_)
  rw [wl_set hk (enc_upd_a hs (by decide) hz0 rz) upd2_other] at hP1
  exact kk H1 locs1 ls hLn hP1 hS1 hls
theorem gx_cast {k n : Nat} {z v : Int} (hx : CX X cc own h0 mc0 ms0) (d : decode cc pc = .ok (.castore, 1)) (hk : k < 83) (hs : shp k = .inl (1, n)) (hz0 : 0 ≤ z) (hz1 : z < n) (hn : n < 5000) (hnar : vp_nar .char (ii v) = ii v) (kk : GJ X a b (pc + 1) L st (upd2 σ k z v)) : GJ X a b pc L (.inl v :: .inl z :: .inr k :: st) σ := by
  obtain ⟨g, p, l, e, R, s, m, args, below, meth, c, Q, nL⟩ := X
  obtain ⟨h1, h2, -, h4, h5, h6, -⟩ := hx
  intro H locs ls hLn hP hS hls
  have rz : rg z := ⟨by omega, by omega⟩
  refine va_cast (D := g.1) (cl := vwCl) (ws := wl g σ) (a := adr g k) (i := ii z) (x := ii v) h1 h2 h6.1 hP (h6.D σ) hS k 1 (by rw [wl_at hk, enc_a hs (by decide)]) rfl (vp_in_ii rz hz0 hz1) d (fun H1 locs1 hP1 _ hS1 => ?_)
  rw [hnar, wl_set hk (enc_upd_a hs (by decide) hz0 rz) upd2_other] at hP1
  exact kk H1 locs1 ls hLn hP1 hS1 hls
theorem gx_zast {k n : Nat} {z v : Int} (hx : CX X cc own h0 mc0 ms0) (d : decode cc pc = .ok (.bastore, 1)) (hk : k < 83) (hs : shp k = .inl (2, n)) (hz0 : 0 ≤ z) (hz1 : z < n) (hn : n < 5000) (hnar : vp_nar .boolean (ii v) = ii v) (kk : GJ X a b (pc + 1) L st (upd2 σ k z v)) : GJ X a b pc L (.inl v :: .inl z :: .inr k :: st) σ := by
  obtain ⟨g, p, l, e, R, s, m, args, below, meth, c, Q, nL⟩ := X
  obtain ⟨h1, h2, -, h4, h5, h6, -⟩ := hx
  intro H locs ls hLn hP hS hls
  have rz : rg z := ⟨by omega, by omega⟩
  refine va_zast (D := g.1) (cl := vwCl) (ws := wl g σ) (a := adr g k) (i := ii z) (x := ii v) h1 h2 h6.1 hP (h6.D σ) hS k 2 (by rw [wl_at hk, enc_a hs (by decide)]) rfl (vp_in_ii rz hz0 hz1) d (fun H1 locs1 hP1 _ hS1 => ?_)
  rw [hnar, wl_set hk (enc_upd_a hs (by decide) hz0 rz) upd2_other] at hP1
  exact kk H1 locs1 ls hLn hP1 hS1 hls
theorem gx_aald {k n : Nat} {z : Int} (hx : CX X cc own h0 mc0 ms0) (d : decode cc pc = .ok (.aaload, 1)) (hk : k < 83) (hs : shp k = .inl (5, n)) (hz0 : 0 ≤ z) (hz1 : z < n) (hn : n < 5000) (kk : GJ X a b (pc + 1) L (.inr (4 * (2 + z.toNat)) :: st) σ) : GJ X a b pc L (.inl z :: .inr k :: st) σ := by
  obtain ⟨g, p, l, e, R, s, m, args, below, meth, c, Q, nL⟩ := X
  obtain ⟨h1, h2, -, h4, h5, h6, -⟩ := hx
  intro H locs ls hLn hP hS hls
  have rz : rg z := ⟨by omega, by omega⟩
  refine va_aldq (D := g.1) (cl := vwCl) (ws := wl g σ) (a := adr g k) (i := ii z) (C := RX6) h1 h2 h6.1 hP k 5 (by rw [wl_at hk, enc_r hs]) rfl (vp_in_ii rz hz0 hz1) d ?_
  rw [ii_clamp rz]
  exact kk H locs ls hLn hP hS hls
theorem gx_alen {k t n : Nat} (hx : CX X cc own h0 mc0 ms0) (d : decode cc pc = .ok (.arraylength, 1)) (hk : k < 83) (hs : shp k = .inl (t, n)) (ht : t < 3) (kk : GJ X a b (pc + 1) L (.inl (n : Int) :: st) σ) : GJ X a b pc L (.inr k :: st) σ := by
  obtain ⟨g, p, l, e, R, s, m, args, below, meth, c, Q, nL⟩ := X
  obtain ⟨h1, h2, -, h4, h5, h6, -⟩ := hx
  intro H locs ls hLn hP hS hls
  have he : (wl g σ)[k]? = some (adr g k, .inl (g.2.2.1 t, n, .inl (fun j => ii (σ k (j : Int))))) := by rw [wl_at hk, enc_a hs (by omega)]
  have hn : Int32.ofNat n = ii (n : Int) := Int32.ofInt_eq_ofNat.symm
  rcases (show t = 0 ∨ t = 1 ∨ t = 2 by omega) with rfl | rfl | rfl
  · exact va_alen (D := g.1) (cl := vwCl) (ws := wl g σ) h1 h2 h6.1 hP k 0 he rfl hn d (kk H locs ls hLn hP hS hls)
  · exact va_alen (D := g.1) (cl := vwCl) (ws := wl g σ) h1 h2 h6.1 hP k 1 he rfl hn d (kk H locs ls hLn hP hS hls)
  · exact va_alen (D := g.1) (cl := vwCl) (ws := wl g σ) h1 h2 h6.1 hP k 2 he rfl hn d (kk H locs ls hLn hP hS hls)
end ROWS
