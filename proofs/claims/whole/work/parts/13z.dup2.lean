/-! dup2 over the integer machine -/
theorem gx_dup2 {X : Cx} {cc : ByteArray} {own : String} {h0 mc0 ms0 : Nat} {a b pc : Nat} {L : List (Option V)} {st : List V} {σ : Sg} {v w : V} (hx : CX X cc own h0 mc0 ms0) (d : decode cc pc = .ok (.dup2, 1)) (kk : GJ X a b (pc + 1) L (v :: w :: v :: w :: st) σ) : GJ X a b pc L (v :: w :: st) σ := by
  obtain ⟨g, p, l, e, R, s, m, args, below, meth, c, Q, nL⟩ := X
  obtain ⟨h1, h2, -⟩ := hx
  intro H locs ls hLn hP hS hls
  exact lv_dup2_11 h1 h2 d (vv_cat v) (vv_cat w) (kk H locs ls hLn hP hS hls)
