/-! The law: its objects -/
/-- the cells behind the making -/
def LW (d : Cg) (f : Nat → Nat) : va_W := [((f 69), .inr (10, [.ref (f 0), .ref (f 4), .ref (f 48), .ref (f 50), .ref (f 52), .ref (f 60), .ref (f 62), .ref (f 63), .ref (f 67), .int 0, .int (-1)])), ((f 0), .inr (8, [.ref (f 1), .ref (f 2), .ref (f 3), .int 0])), ((f 1), arI d 0 40), ((f 2), arI d 0 40), ((f 3), arI d 0 40), ((f 4), .inr (8, [.ref (f 5), .ref (f 6), .ref (f 7), .int 0])), ((f 5), arI d 0 40), ((f 6), arI d 0 40), ((f 7), arI d 0 40), ((f 48), .inr (4, [.ref (f 49), .int 0, .int 0])), ((f 49), .inl (d.2 5, 10, .inr (.inr (.inr (.inr (fun i => some ([(f 8), (f 12), (f 16), (f 20), (f 24), (f 28), (f 32), (f 36), (f 40), (f 44)].getD i 0))))))), ((f 8), .inr (8, [.ref (f 9), .ref (f 10), .ref (f 11), .int 0])), ((f 9), arI d 0 40), ((f 10), arI d 0 40), ((f 11), arI d 0 40), ((f 12), .inr (8, [.ref (f 13), .ref (f 14), .ref (f 15), .int 0])), ((f 13), arI d 0 40), ((f 14), arI d 0 40), ((f 15), arI d 0 40), ((f 16), .inr (8, [.ref (f 17), .ref (f 18), .ref (f 19), .int 0])), ((f 17), arI d 0 40), ((f 18), arI d 0 40), ((f 19), arI d 0 40), ((f 20), .inr (8, [.ref (f 21), .ref (f 22), .ref (f 23), .int 0])), ((f 21), arI d 0 40), ((f 22), arI d 0 40), ((f 23), arI d 0 40), ((f 24), .inr (8, [.ref (f 25), .ref (f 26), .ref (f 27), .int 0])), ((f 25), arI d 0 40), ((f 26), arI d 0 40), ((f 27), arI d 0 40), ((f 28), .inr (8, [.ref (f 29), .ref (f 30), .ref (f 31), .int 0])), ((f 29), arI d 0 40), ((f 30), arI d 0 40), ((f 31), arI d 0 40), ((f 32), .inr (8, [.ref (f 33), .ref (f 34), .ref (f 35), .int 0])), ((f 33), arI d 0 40), ((f 34), arI d 0 40), ((f 35), arI d 0 40), ((f 36), .inr (8, [.ref (f 37), .ref (f 38), .ref (f 39), .int 0])), ((f 37), arI d 0 40), ((f 38), arI d 0 40), ((f 39), arI d 0 40), ((f 40), .inr (8, [.ref (f 41), .ref (f 42), .ref (f 43), .int 0])), ((f 41), arI d 0 40), ((f 42), arI d 0 40), ((f 43), arI d 0 40), ((f 44), .inr (8, [.ref (f 45), .ref (f 46), .ref (f 47), .int 0])), ((f 45), arI d 0 40), ((f 46), arI d 0 40), ((f 47), arI d 0 40), ((f 50), .inr (5, [.ref (f 51), .int 0, .int (-1), .int 0, .int 0])), ((f 51), arI d 1 12), ((f 52), .inr (7, [.ref (f 0), .ref (f 53), .ref (f 54), .ref (f 55), .ref (f 56), .ref (f 57), .ref (f 58), .ref (f 59), .int 0])), ((f 53), arI d 0 10), ((f 54), arI d 0 40), ((f 55), arI d 0 40), ((f 56), arI d 0 41), ((f 57), arI d 0 41), ((f 58), arI d 0 100), ((f 59), arI d 0 100), ((f 60), .inr (6, [.ref (f 0), .ref (f 52), .ref (f 61)])), ((f 61), arI d 0 41), ((f 62), .inr (9, [.ref (f 0), .ref (f 52), .ref (f 60)])), ((f 63), .inr (3, [.ref (f 0), .ref (f 52), .ref (f 60), .ref (f 64), .ref (f 65), .ref (f 66), .int 0, .int 0])), ((f 64), arI d 0 41), ((f 65), arI d 0 40), ((f 66), arI d 0 40), ((f 67), .inr (2, [.ref (f 0), .ref (f 60), .ref (f 68), .int 0, .int 0])), ((f 68), arI d 2 2048), ((f 70), .inr (11, [.int 0, .ref (f 71), .ref (f 72), .int 0, .ref (f 73), .int 0, .ref (f 74), .int 0, .int (-1), .ref (f 75), .ref (f 76), .int 0, .ref (f 77), .int 0, .int 0, .ref (f 78), .ref (f 79), .ref (f 80), .int 0, .int 0, .int 0])), ((f 71), arI d 0 121), ((f 72), arI d 0 1210), ((f 73), arI d 0 121), ((f 74), arI d 1 12), ((f 75), arI d 0 41), ((f 76), arI d 0 40), ((f 77), .inl (d.2 0, 48, .inl (tbF 48))), ((f 78), arI d 2 3000), ((f 79), arI d 2 3000), ((f 80), arI d 0 40), ((f 81), .inl (d.2 3, 1, .inr (.inl (fun _ => Int64.ofInt 0)))), ((f 82), .inl (d.2 4, 1, .inr (.inr (.inr (.inl (fun _ => UInt64.ofNat 0))))))]
set_option maxHeartbeats 4000000 in
set_option maxRecDepth 100000 in
theorem law_make {X : Cy} {h0 mc0 ms0 b : Nat} (hx : CC X cL_law RL h0 mc0 ms0) (hh0 : 40 ≤ h0) (hmc : 83 ≤ mc0) (hms : 11795 ≤ ms0) (hnL : X.2.2.2.2.2.2.2.2.2.2.2.2.1 = 9) (kk : ∀ f : Nat → Nat, CJ X 83 11795 25 [(4, .ref (f 82)), (3, .ref (f 81)), (2, .ref (f 70)), (1, .ref (f 69)), (0, .ref b)] [] (LW X.1 f)) : CJ X 0 0 0 [(0, .ref b)] [] [] := by
  refine cj_new (N := 11) hx nwL_8 rfl dL_law_0 ⟨by omega, by omega⟩ (fun x => ?_)
  refine cj_dup hx dL_law_3 ?_
  refine cj_call (w0 := []) hx (c_X8_init _ _ x) lkL_121 mwX8_ctor dL_law_4 rfl rfl (Nat.le_of_ble_eq_true rfl) (by omega) ⟨by omega, by omega⟩ rfl (fun w hw => ?_)
  obtain ⟨x0, x1, x2, x3, x4, x5, x6, x7, x8, x9, x10, x11, x12, x13, x14, x15, x16, x17, x18, x19, x20, x21, x22, x23, x24, x25, x26, x27, x28, x29, x30, x31, x32, x33, x34, x35, x36, x37, x38, x39, x40, x41, x42, x43, x44, x45, x46, x47, x48, x49, x50, x51, x52, x53, x54, x55, x56, x57, x58, x59, x60, x61, x62, x63, x64, x65, x66, x67, x68, rfl⟩ := hw
  refine CJ.eq (ws' := [(x, .inr (10, [.ref x0, .ref x4, .ref x8, .ref x50, .ref x52, .ref x60, .ref x62, .ref x63, .ref x67, .int 0, .int (-1)])), (x0, .inr (8, [.ref x1, .ref x2, .ref x3, .int 0])), (x1, arI X.1 0 40), (x2, arI X.1 0 40), (x3, arI X.1 0 40), (x4, .inr (8, [.ref x5, .ref x6, .ref x7, .int 0])), (x5, arI X.1 0 40), (x6, arI X.1 0 40), (x7, arI X.1 0 40), (x8, .inr (4, [.ref x9, .int 0, .int 0])), (x9, .inl (X.1.2 5, 10, .inr (.inr (.inr (.inr (fun i => some ([x10, x14, x18, x22, x26, x30, x34, x38, x42, x46].getD i 0))))))), (x10, .inr (8, [.ref x11, .ref x12, .ref x13, .int 0])), (x11, arI X.1 0 40), (x12, arI X.1 0 40), (x13, arI X.1 0 40), (x14, .inr (8, [.ref x15, .ref x16, .ref x17, .int 0])), (x15, arI X.1 0 40), (x16, arI X.1 0 40), (x17, arI X.1 0 40), (x18, .inr (8, [.ref x19, .ref x20, .ref x21, .int 0])), (x19, arI X.1 0 40), (x20, arI X.1 0 40), (x21, arI X.1 0 40), (x22, .inr (8, [.ref x23, .ref x24, .ref x25, .int 0])), (x23, arI X.1 0 40), (x24, arI X.1 0 40), (x25, arI X.1 0 40), (x26, .inr (8, [.ref x27, .ref x28, .ref x29, .int 0])), (x27, arI X.1 0 40), (x28, arI X.1 0 40), (x29, arI X.1 0 40), (x30, .inr (8, [.ref x31, .ref x32, .ref x33, .int 0])), (x31, arI X.1 0 40), (x32, arI X.1 0 40), (x33, arI X.1 0 40), (x34, .inr (8, [.ref x35, .ref x36, .ref x37, .int 0])), (x35, arI X.1 0 40), (x36, arI X.1 0 40), (x37, arI X.1 0 40), (x38, .inr (8, [.ref x39, .ref x40, .ref x41, .int 0])), (x39, arI X.1 0 40), (x40, arI X.1 0 40), (x41, arI X.1 0 40), (x42, .inr (8, [.ref x43, .ref x44, .ref x45, .int 0])), (x43, arI X.1 0 40), (x44, arI X.1 0 40), (x45, arI X.1 0 40), (x46, .inr (8, [.ref x47, .ref x48, .ref x49, .int 0])), (x47, arI X.1 0 40), (x48, arI X.1 0 40), (x49, arI X.1 0 40), (x50, .inr (5, [.ref x51, .int 0, .int (-1), .int 0, .int 0])), (x51, arI X.1 1 12), (x52, .inr (7, [.ref x0, .ref x53, .ref x54, .ref x55, .ref x56, .ref x57, .ref x58, .ref x59, .int 0])), (x53, arI X.1 0 10), (x54, arI X.1 0 40), (x55, arI X.1 0 40), (x56, arI X.1 0 41), (x57, arI X.1 0 41), (x58, arI X.1 0 100), (x59, arI X.1 0 100), (x60, .inr (6, [.ref x0, .ref x52, .ref x61])), (x61, arI X.1 0 41), (x62, .inr (9, [.ref x0, .ref x52, .ref x60])), (x63, .inr (3, [.ref x0, .ref x52, .ref x60, .ref x64, .ref x65, .ref x66, .int 0, .int 0])), (x64, arI X.1 0 41), (x65, arI X.1 0 40), (x66, arI X.1 0 40), (x67, .inr (2, [.ref x0, .ref x60, .ref x68, .int 0, .int 0])), (x68, arI X.1 2 2048)]) rfl ?_
  refine cj_astore_n hx (by rw [hnL]; decide) dL_law_7 rfl ?_
  refine cj_new (N := 21) hx nwL_122 rfl dL_law_8 ⟨by omega, by omega⟩ (fun y => ?_)
  refine cj_dup hx dL_law_11 ?_
  refine cj_call (w0 := [(x, .inr (10, [.ref x0, .ref x4, .ref x8, .ref x50, .ref x52, .ref x60, .ref x62, .ref x63, .ref x67, .int 0, .int (-1)])), (x0, .inr (8, [.ref x1, .ref x2, .ref x3, .int 0])), (x1, arI X.1 0 40), (x2, arI X.1 0 40), (x3, arI X.1 0 40), (x4, .inr (8, [.ref x5, .ref x6, .ref x7, .int 0])), (x5, arI X.1 0 40), (x6, arI X.1 0 40), (x7, arI X.1 0 40), (x8, .inr (4, [.ref x9, .int 0, .int 0])), (x9, .inl (X.1.2 5, 10, .inr (.inr (.inr (.inr (fun i => some ([x10, x14, x18, x22, x26, x30, x34, x38, x42, x46].getD i 0))))))), (x10, .inr (8, [.ref x11, .ref x12, .ref x13, .int 0])), (x11, arI X.1 0 40), (x12, arI X.1 0 40), (x13, arI X.1 0 40), (x14, .inr (8, [.ref x15, .ref x16, .ref x17, .int 0])), (x15, arI X.1 0 40), (x16, arI X.1 0 40), (x17, arI X.1 0 40), (x18, .inr (8, [.ref x19, .ref x20, .ref x21, .int 0])), (x19, arI X.1 0 40), (x20, arI X.1 0 40), (x21, arI X.1 0 40), (x22, .inr (8, [.ref x23, .ref x24, .ref x25, .int 0])), (x23, arI X.1 0 40), (x24, arI X.1 0 40), (x25, arI X.1 0 40), (x26, .inr (8, [.ref x27, .ref x28, .ref x29, .int 0])), (x27, arI X.1 0 40), (x28, arI X.1 0 40), (x29, arI X.1 0 40), (x30, .inr (8, [.ref x31, .ref x32, .ref x33, .int 0])), (x31, arI X.1 0 40), (x32, arI X.1 0 40), (x33, arI X.1 0 40), (x34, .inr (8, [.ref x35, .ref x36, .ref x37, .int 0])), (x35, arI X.1 0 40), (x36, arI X.1 0 40), (x37, arI X.1 0 40), (x38, .inr (8, [.ref x39, .ref x40, .ref x41, .int 0])), (x39, arI X.1 0 40), (x40, arI X.1 0 40), (x41, arI X.1 0 40), (x42, .inr (8, [.ref x43, .ref x44, .ref x45, .int 0])), (x43, arI X.1 0 40), (x44, arI X.1 0 40), (x45, arI X.1 0 40), (x46, .inr (8, [.ref x47, .ref x48, .ref x49, .int 0])), (x47, arI X.1 0 40), (x48, arI X.1 0 40), (x49, arI X.1 0 40), (x50, .inr (5, [.ref x51, .int 0, .int (-1), .int 0, .int 0])), (x51, arI X.1 1 12), (x52, .inr (7, [.ref x0, .ref x53, .ref x54, .ref x55, .ref x56, .ref x57, .ref x58, .ref x59, .int 0])), (x53, arI X.1 0 10), (x54, arI X.1 0 40), (x55, arI X.1 0 40), (x56, arI X.1 0 41), (x57, arI X.1 0 41), (x58, arI X.1 0 100), (x59, arI X.1 0 100), (x60, .inr (6, [.ref x0, .ref x52, .ref x61])), (x61, arI X.1 0 41), (x62, .inr (9, [.ref x0, .ref x52, .ref x60])), (x63, .inr (3, [.ref x0, .ref x52, .ref x60, .ref x64, .ref x65, .ref x66, .int 0, .int 0])), (x64, arI X.1 0 41), (x65, arI X.1 0 40), (x66, arI X.1 0 40), (x67, .inr (2, [.ref x0, .ref x60, .ref x68, .int 0, .int 0])), (x68, arI X.1 2 2048)]) hx (c_X9_init _ _ y) lkL_124 mwX9_ctor dL_law_12 rfl rfl (Nat.le_of_ble_eq_true rfl) (by omega) ⟨by omega, by omega⟩ rfl (fun w hw => ?_)
  obtain ⟨y0, y1, y2, y3, y4, y5, y6, y7, y8, y9, rfl⟩ := hw
  refine cj_astore_n hx (by rw [hnL]; decide) dL_law_15 rfl ?_
  refine cj_iconst (v := 1) hx dL_law_16 rfl ?_
  refine cj_newa (t := 3) (N := 1) (ty := .long) (a0 := (1, .inr (.inl (fun _ => Int64.ofInt 0)))) hx ac_long rfl rfl (fun _ => rfl) (by decide) (by decide) (Nat.le_of_ble_eq_true rfl) dL_law_17 ⟨by omega, by omega⟩ (fun q81 => ?_)
  refine cj_astore_n hx (by rw [hnL]; decide) dL_law_19 rfl ?_
  refine cj_iconst (v := 1) hx dL_law_20 rfl ?_
  refine cj_newa (t := 4) (N := 1) (ty := .double) (a0 := (1, .inr (.inr (.inr (.inl (fun _ => UInt64.ofNat 0)))))) hx ac_double rfl rfl (fun _ => rfl) (by decide) (by decide) (Nat.le_of_ble_eq_true rfl) dL_law_21 ⟨by omega, by omega⟩ (fun q82 => ?_)
  refine cj_astore hx (by rw [hnL]; decide) dL_law_23 rfl ?_
  refine CJ.eq (ws' := [(x, .inr (10, [.ref x0, .ref x4, .ref x8, .ref x50, .ref x52, .ref x60, .ref x62, .ref x63, .ref x67, .int 0, .int (-1)])), (x0, .inr (8, [.ref x1, .ref x2, .ref x3, .int 0])), (x1, arI X.1 0 40), (x2, arI X.1 0 40), (x3, arI X.1 0 40), (x4, .inr (8, [.ref x5, .ref x6, .ref x7, .int 0])), (x5, arI X.1 0 40), (x6, arI X.1 0 40), (x7, arI X.1 0 40), (x8, .inr (4, [.ref x9, .int 0, .int 0])), (x9, .inl (X.1.2 5, 10, .inr (.inr (.inr (.inr (fun i => some ([x10, x14, x18, x22, x26, x30, x34, x38, x42, x46].getD i 0))))))), (x10, .inr (8, [.ref x11, .ref x12, .ref x13, .int 0])), (x11, arI X.1 0 40), (x12, arI X.1 0 40), (x13, arI X.1 0 40), (x14, .inr (8, [.ref x15, .ref x16, .ref x17, .int 0])), (x15, arI X.1 0 40), (x16, arI X.1 0 40), (x17, arI X.1 0 40), (x18, .inr (8, [.ref x19, .ref x20, .ref x21, .int 0])), (x19, arI X.1 0 40), (x20, arI X.1 0 40), (x21, arI X.1 0 40), (x22, .inr (8, [.ref x23, .ref x24, .ref x25, .int 0])), (x23, arI X.1 0 40), (x24, arI X.1 0 40), (x25, arI X.1 0 40), (x26, .inr (8, [.ref x27, .ref x28, .ref x29, .int 0])), (x27, arI X.1 0 40), (x28, arI X.1 0 40), (x29, arI X.1 0 40), (x30, .inr (8, [.ref x31, .ref x32, .ref x33, .int 0])), (x31, arI X.1 0 40), (x32, arI X.1 0 40), (x33, arI X.1 0 40), (x34, .inr (8, [.ref x35, .ref x36, .ref x37, .int 0])), (x35, arI X.1 0 40), (x36, arI X.1 0 40), (x37, arI X.1 0 40), (x38, .inr (8, [.ref x39, .ref x40, .ref x41, .int 0])), (x39, arI X.1 0 40), (x40, arI X.1 0 40), (x41, arI X.1 0 40), (x42, .inr (8, [.ref x43, .ref x44, .ref x45, .int 0])), (x43, arI X.1 0 40), (x44, arI X.1 0 40), (x45, arI X.1 0 40), (x46, .inr (8, [.ref x47, .ref x48, .ref x49, .int 0])), (x47, arI X.1 0 40), (x48, arI X.1 0 40), (x49, arI X.1 0 40), (x50, .inr (5, [.ref x51, .int 0, .int (-1), .int 0, .int 0])), (x51, arI X.1 1 12), (x52, .inr (7, [.ref x0, .ref x53, .ref x54, .ref x55, .ref x56, .ref x57, .ref x58, .ref x59, .int 0])), (x53, arI X.1 0 10), (x54, arI X.1 0 40), (x55, arI X.1 0 40), (x56, arI X.1 0 41), (x57, arI X.1 0 41), (x58, arI X.1 0 100), (x59, arI X.1 0 100), (x60, .inr (6, [.ref x0, .ref x52, .ref x61])), (x61, arI X.1 0 41), (x62, .inr (9, [.ref x0, .ref x52, .ref x60])), (x63, .inr (3, [.ref x0, .ref x52, .ref x60, .ref x64, .ref x65, .ref x66, .int 0, .int 0])), (x64, arI X.1 0 41), (x65, arI X.1 0 40), (x66, arI X.1 0 40), (x67, .inr (2, [.ref x0, .ref x60, .ref x68, .int 0, .int 0])), (x68, arI X.1 2 2048), (y, .inr (11, [.int 0, .ref y0, .ref y1, .int 0, .ref y2, .int 0, .ref y3, .int 0, .int (-1), .ref y4, .ref y5, .int 0, .ref y6, .int 0, .int 0, .ref y7, .ref y8, .ref y9, .int 0, .int 0, .int 0])), (y0, arI X.1 0 121), (y1, arI X.1 0 1210), (y2, arI X.1 0 121), (y3, arI X.1 1 12), (y4, arI X.1 0 41), (y5, arI X.1 0 40), (y6, .inl (X.1.2 0, 48, .inl (tbF 48))), (y7, arI X.1 2 3000), (y8, arI X.1 2 3000), (y9, arI X.1 0 40), (q81, .inl (X.1.2 3, 1, .inr (.inl (fun _ => Int64.ofInt 0)))), (q82, .inl (X.1.2 4, 1, .inr (.inr (.inr (.inl (fun _ => UInt64.ofNat 0))))))]) rfl ?_
  exact kk (fun k => [x0, x1, x2, x3, x4, x5, x6, x7, x10, x11, x12, x13, x14, x15, x16, x17, x18, x19, x20, x21, x22, x23, x24, x25, x26, x27, x28, x29, x30, x31, x32, x33, x34, x35, x36, x37, x38, x39, x40, x41, x42, x43, x44, x45, x46, x47, x48, x49, x8, x9, x50, x51, x52, x53, x54, x55, x56, x57, x58, x59, x60, x61, x62, x63, x64, x65, x66, x67, x68, x, y, y0, y1, y2, y3, y4, y5, y6, y7, y8, y9, q81, q82].getD k 0)
def plL : List Nat := [1, 2, 3, 4, 5, 6, 7, 8, 11, 12, 13, 14, 15, 16, 17, 18, 19, 20, 21, 22, 23, 24, 25, 26, 27, 28, 29, 30, 31, 32, 33, 34, 35, 36, 37, 38, 39, 40, 41, 42, 43, 44, 45, 46, 47, 48, 49, 50, 9, 10, 51, 52, 53, 54, 55, 56, 57, 58, 59, 60, 61, 62, 63, 64, 65, 66, 67, 68, 69, 0, 70, 71, 72, 73, 74, 75, 76, 77, 78, 79, 80, 81, 82]
theorem pl_inj : ∀ i, i < 83 → ∀ j, j < 83 → plL.getD i 0 = plL.getD j 0 → i = j := by decide +kernel
set_option maxRecDepth 100000 in
set_option maxHeartbeats 4000000 in
theorem LW_at (d : Cg) (f : Nat → Nat) : ∀ k, k < 83 → ∃ e : va_E, (LW d f)[plL.getD k 0]? = some (f k, e) := by
  intro k hk
  rcases (show k = 0 ∨ 0 < k by omega) with rfl | h0
  · exact ⟨_, rfl⟩
  rcases (show k = 1 ∨ 1 < k by omega) with rfl | h1
  · exact ⟨_, rfl⟩
  rcases (show k = 2 ∨ 2 < k by omega) with rfl | h2
  · exact ⟨_, rfl⟩
  rcases (show k = 3 ∨ 3 < k by omega) with rfl | h3
  · exact ⟨_, rfl⟩
  rcases (show k = 4 ∨ 4 < k by omega) with rfl | h4
  · exact ⟨_, rfl⟩
  rcases (show k = 5 ∨ 5 < k by omega) with rfl | h5
  · exact ⟨_, rfl⟩
  rcases (show k = 6 ∨ 6 < k by omega) with rfl | h6
  · exact ⟨_, rfl⟩
  rcases (show k = 7 ∨ 7 < k by omega) with rfl | h7
  · exact ⟨_, rfl⟩
  rcases (show k = 8 ∨ 8 < k by omega) with rfl | h8
  · exact ⟨_, rfl⟩
  rcases (show k = 9 ∨ 9 < k by omega) with rfl | h9
  · exact ⟨_, rfl⟩
  rcases (show k = 10 ∨ 10 < k by omega) with rfl | h10
  · exact ⟨_, rfl⟩
  rcases (show k = 11 ∨ 11 < k by omega) with rfl | h11
  · exact ⟨_, rfl⟩
  rcases (show k = 12 ∨ 12 < k by omega) with rfl | h12
  · exact ⟨_, rfl⟩
  rcases (show k = 13 ∨ 13 < k by omega) with rfl | h13
  · exact ⟨_, rfl⟩
  rcases (show k = 14 ∨ 14 < k by omega) with rfl | h14
  · exact ⟨_, rfl⟩
  rcases (show k = 15 ∨ 15 < k by omega) with rfl | h15
  · exact ⟨_, rfl⟩
  rcases (show k = 16 ∨ 16 < k by omega) with rfl | h16
  · exact ⟨_, rfl⟩
  rcases (show k = 17 ∨ 17 < k by omega) with rfl | h17
  · exact ⟨_, rfl⟩
  rcases (show k = 18 ∨ 18 < k by omega) with rfl | h18
  · exact ⟨_, rfl⟩
  rcases (show k = 19 ∨ 19 < k by omega) with rfl | h19
  · exact ⟨_, rfl⟩
  rcases (show k = 20 ∨ 20 < k by omega) with rfl | h20
  · exact ⟨_, rfl⟩
  rcases (show k = 21 ∨ 21 < k by omega) with rfl | h21
  · exact ⟨_, rfl⟩
  rcases (show k = 22 ∨ 22 < k by omega) with rfl | h22
  · exact ⟨_, rfl⟩
  rcases (show k = 23 ∨ 23 < k by omega) with rfl | h23
  · exact ⟨_, rfl⟩
  rcases (show k = 24 ∨ 24 < k by omega) with rfl | h24
  · exact ⟨_, rfl⟩
  rcases (show k = 25 ∨ 25 < k by omega) with rfl | h25
  · exact ⟨_, rfl⟩
  rcases (show k = 26 ∨ 26 < k by omega) with rfl | h26
  · exact ⟨_, rfl⟩
  rcases (show k = 27 ∨ 27 < k by omega) with rfl | h27
  · exact ⟨_, rfl⟩
  rcases (show k = 28 ∨ 28 < k by omega) with rfl | h28
  · exact ⟨_, rfl⟩
  rcases (show k = 29 ∨ 29 < k by omega) with rfl | h29
  · exact ⟨_, rfl⟩
  rcases (show k = 30 ∨ 30 < k by omega) with rfl | h30
  · exact ⟨_, rfl⟩
  rcases (show k = 31 ∨ 31 < k by omega) with rfl | h31
  · exact ⟨_, rfl⟩
  rcases (show k = 32 ∨ 32 < k by omega) with rfl | h32
  · exact ⟨_, rfl⟩
  rcases (show k = 33 ∨ 33 < k by omega) with rfl | h33
  · exact ⟨_, rfl⟩
  rcases (show k = 34 ∨ 34 < k by omega) with rfl | h34
  · exact ⟨_, rfl⟩
  rcases (show k = 35 ∨ 35 < k by omega) with rfl | h35
  · exact ⟨_, rfl⟩
  rcases (show k = 36 ∨ 36 < k by omega) with rfl | h36
  · exact ⟨_, rfl⟩
  rcases (show k = 37 ∨ 37 < k by omega) with rfl | h37
  · exact ⟨_, rfl⟩
  rcases (show k = 38 ∨ 38 < k by omega) with rfl | h38
  · exact ⟨_, rfl⟩
  rcases (show k = 39 ∨ 39 < k by omega) with rfl | h39
  · exact ⟨_, rfl⟩
  rcases (show k = 40 ∨ 40 < k by omega) with rfl | h40
  · exact ⟨_, rfl⟩
  rcases (show k = 41 ∨ 41 < k by omega) with rfl | h41
  · exact ⟨_, rfl⟩
  rcases (show k = 42 ∨ 42 < k by omega) with rfl | h42
  · exact ⟨_, rfl⟩
  rcases (show k = 43 ∨ 43 < k by omega) with rfl | h43
  · exact ⟨_, rfl⟩
  rcases (show k = 44 ∨ 44 < k by omega) with rfl | h44
  · exact ⟨_, rfl⟩
  rcases (show k = 45 ∨ 45 < k by omega) with rfl | h45
  · exact ⟨_, rfl⟩
  rcases (show k = 46 ∨ 46 < k by omega) with rfl | h46
  · exact ⟨_, rfl⟩
  rcases (show k = 47 ∨ 47 < k by omega) with rfl | h47
  · exact ⟨_, rfl⟩
  rcases (show k = 48 ∨ 48 < k by omega) with rfl | h48
  · exact ⟨_, rfl⟩
  rcases (show k = 49 ∨ 49 < k by omega) with rfl | h49
  · exact ⟨_, rfl⟩
  rcases (show k = 50 ∨ 50 < k by omega) with rfl | h50
  · exact ⟨_, rfl⟩
  rcases (show k = 51 ∨ 51 < k by omega) with rfl | h51
  · exact ⟨_, rfl⟩
  rcases (show k = 52 ∨ 52 < k by omega) with rfl | h52
  · exact ⟨_, rfl⟩
  rcases (show k = 53 ∨ 53 < k by omega) with rfl | h53
  · exact ⟨_, rfl⟩
  rcases (show k = 54 ∨ 54 < k by omega) with rfl | h54
  · exact ⟨_, rfl⟩
  rcases (show k = 55 ∨ 55 < k by omega) with rfl | h55
  · exact ⟨_, rfl⟩
  rcases (show k = 56 ∨ 56 < k by omega) with rfl | h56
  · exact ⟨_, rfl⟩
  rcases (show k = 57 ∨ 57 < k by omega) with rfl | h57
  · exact ⟨_, rfl⟩
  rcases (show k = 58 ∨ 58 < k by omega) with rfl | h58
  · exact ⟨_, rfl⟩
  rcases (show k = 59 ∨ 59 < k by omega) with rfl | h59
  · exact ⟨_, rfl⟩
  rcases (show k = 60 ∨ 60 < k by omega) with rfl | h60
  · exact ⟨_, rfl⟩
  rcases (show k = 61 ∨ 61 < k by omega) with rfl | h61
  · exact ⟨_, rfl⟩
  rcases (show k = 62 ∨ 62 < k by omega) with rfl | h62
  · exact ⟨_, rfl⟩
  rcases (show k = 63 ∨ 63 < k by omega) with rfl | h63
  · exact ⟨_, rfl⟩
  rcases (show k = 64 ∨ 64 < k by omega) with rfl | h64
  · exact ⟨_, rfl⟩
  rcases (show k = 65 ∨ 65 < k by omega) with rfl | h65
  · exact ⟨_, rfl⟩
  rcases (show k = 66 ∨ 66 < k by omega) with rfl | h66
  · exact ⟨_, rfl⟩
  rcases (show k = 67 ∨ 67 < k by omega) with rfl | h67
  · exact ⟨_, rfl⟩
  rcases (show k = 68 ∨ 68 < k by omega) with rfl | h68
  · exact ⟨_, rfl⟩
  rcases (show k = 69 ∨ 69 < k by omega) with rfl | h69
  · exact ⟨_, rfl⟩
  rcases (show k = 70 ∨ 70 < k by omega) with rfl | h70
  · exact ⟨_, rfl⟩
  rcases (show k = 71 ∨ 71 < k by omega) with rfl | h71
  · exact ⟨_, rfl⟩
  rcases (show k = 72 ∨ 72 < k by omega) with rfl | h72
  · exact ⟨_, rfl⟩
  rcases (show k = 73 ∨ 73 < k by omega) with rfl | h73
  · exact ⟨_, rfl⟩
  rcases (show k = 74 ∨ 74 < k by omega) with rfl | h74
  · exact ⟨_, rfl⟩
  rcases (show k = 75 ∨ 75 < k by omega) with rfl | h75
  · exact ⟨_, rfl⟩
  rcases (show k = 76 ∨ 76 < k by omega) with rfl | h76
  · exact ⟨_, rfl⟩
  rcases (show k = 77 ∨ 77 < k by omega) with rfl | h77
  · exact ⟨_, rfl⟩
  rcases (show k = 78 ∨ 78 < k by omega) with rfl | h78
  · exact ⟨_, rfl⟩
  rcases (show k = 79 ∨ 79 < k by omega) with rfl | h79
  · exact ⟨_, rfl⟩
  rcases (show k = 80 ∨ 80 < k by omega) with rfl | h80
  · exact ⟨_, rfl⟩
  rcases (show k = 81 ∨ 81 < k by omega) with rfl | h81
  · exact ⟨_, rfl⟩
  rcases (show k = 82 ∨ 82 < k by omega) with rfl | h82
  · exact ⟨_, rfl⟩
  omega
set_option maxRecDepth 100000 in
set_option maxHeartbeats 4000000 in
theorem LW_P {d : Cg} {f adK adV : Nat → Nat} {B : Nat → Prop} {H : Heap} (hP : va_P d.1 vwCl (LW d f) H) : va_P d.1 vwCl (wl (d.1, f, d.2, B, adK, adV) s0) H := by
  have hh : ∀ k, k < 83 → va_at d.1 vwCl (adr (d.1, f, d.2, B, adK, adV) k, enc (d.1, f, d.2, B, adK, adV) s0 k) H := by
    intro k hk
    rcases (show k = 0 ∨ 0 < k by omega) with rfl | h0
    · exact hP 1 _ rfl
    rcases (show k = 1 ∨ 1 < k by omega) with rfl | h1
    · exact hP 2 _ rfl
    rcases (show k = 2 ∨ 2 < k by omega) with rfl | h2
    · exact hP 3 _ rfl
    rcases (show k = 3 ∨ 3 < k by omega) with rfl | h3
    · exact hP 4 _ rfl
    rcases (show k = 4 ∨ 4 < k by omega) with rfl | h4
    · exact hP 5 _ rfl
    rcases (show k = 5 ∨ 5 < k by omega) with rfl | h5
    · exact hP 6 _ rfl
    rcases (show k = 6 ∨ 6 < k by omega) with rfl | h6
    · exact hP 7 _ rfl
    rcases (show k = 7 ∨ 7 < k by omega) with rfl | h7
    · exact hP 8 _ rfl
    rcases (show k = 8 ∨ 8 < k by omega) with rfl | h8
    · exact hP 11 _ rfl
    rcases (show k = 9 ∨ 9 < k by omega) with rfl | h9
    · exact hP 12 _ rfl
    rcases (show k = 10 ∨ 10 < k by omega) with rfl | h10
    · exact hP 13 _ rfl
    rcases (show k = 11 ∨ 11 < k by omega) with rfl | h11
    · exact hP 14 _ rfl
    rcases (show k = 12 ∨ 12 < k by omega) with rfl | h12
    · exact hP 15 _ rfl
    rcases (show k = 13 ∨ 13 < k by omega) with rfl | h13
    · exact hP 16 _ rfl
    rcases (show k = 14 ∨ 14 < k by omega) with rfl | h14
    · exact hP 17 _ rfl
    rcases (show k = 15 ∨ 15 < k by omega) with rfl | h15
    · exact hP 18 _ rfl
    rcases (show k = 16 ∨ 16 < k by omega) with rfl | h16
    · exact hP 19 _ rfl
    rcases (show k = 17 ∨ 17 < k by omega) with rfl | h17
    · exact hP 20 _ rfl
    rcases (show k = 18 ∨ 18 < k by omega) with rfl | h18
    · exact hP 21 _ rfl
    rcases (show k = 19 ∨ 19 < k by omega) with rfl | h19
    · exact hP 22 _ rfl
    rcases (show k = 20 ∨ 20 < k by omega) with rfl | h20
    · exact hP 23 _ rfl
    rcases (show k = 21 ∨ 21 < k by omega) with rfl | h21
    · exact hP 24 _ rfl
    rcases (show k = 22 ∨ 22 < k by omega) with rfl | h22
    · exact hP 25 _ rfl
    rcases (show k = 23 ∨ 23 < k by omega) with rfl | h23
    · exact hP 26 _ rfl
    rcases (show k = 24 ∨ 24 < k by omega) with rfl | h24
    · exact hP 27 _ rfl
    rcases (show k = 25 ∨ 25 < k by omega) with rfl | h25
    · exact hP 28 _ rfl
    rcases (show k = 26 ∨ 26 < k by omega) with rfl | h26
    · exact hP 29 _ rfl
    rcases (show k = 27 ∨ 27 < k by omega) with rfl | h27
    · exact hP 30 _ rfl
    rcases (show k = 28 ∨ 28 < k by omega) with rfl | h28
    · exact hP 31 _ rfl
    rcases (show k = 29 ∨ 29 < k by omega) with rfl | h29
    · exact hP 32 _ rfl
    rcases (show k = 30 ∨ 30 < k by omega) with rfl | h30
    · exact hP 33 _ rfl
    rcases (show k = 31 ∨ 31 < k by omega) with rfl | h31
    · exact hP 34 _ rfl
    rcases (show k = 32 ∨ 32 < k by omega) with rfl | h32
    · exact hP 35 _ rfl
    rcases (show k = 33 ∨ 33 < k by omega) with rfl | h33
    · exact hP 36 _ rfl
    rcases (show k = 34 ∨ 34 < k by omega) with rfl | h34
    · exact hP 37 _ rfl
    rcases (show k = 35 ∨ 35 < k by omega) with rfl | h35
    · exact hP 38 _ rfl
    rcases (show k = 36 ∨ 36 < k by omega) with rfl | h36
    · exact hP 39 _ rfl
    rcases (show k = 37 ∨ 37 < k by omega) with rfl | h37
    · exact hP 40 _ rfl
    rcases (show k = 38 ∨ 38 < k by omega) with rfl | h38
    · exact hP 41 _ rfl
    rcases (show k = 39 ∨ 39 < k by omega) with rfl | h39
    · exact hP 42 _ rfl
    rcases (show k = 40 ∨ 40 < k by omega) with rfl | h40
    · exact hP 43 _ rfl
    rcases (show k = 41 ∨ 41 < k by omega) with rfl | h41
    · exact hP 44 _ rfl
    rcases (show k = 42 ∨ 42 < k by omega) with rfl | h42
    · exact hP 45 _ rfl
    rcases (show k = 43 ∨ 43 < k by omega) with rfl | h43
    · exact hP 46 _ rfl
    rcases (show k = 44 ∨ 44 < k by omega) with rfl | h44
    · exact hP 47 _ rfl
    rcases (show k = 45 ∨ 45 < k by omega) with rfl | h45
    · exact hP 48 _ rfl
    rcases (show k = 46 ∨ 46 < k by omega) with rfl | h46
    · exact hP 49 _ rfl
    rcases (show k = 47 ∨ 47 < k by omega) with rfl | h47
    · exact hP 50 _ rfl
    rcases (show k = 48 ∨ 48 < k by omega) with rfl | h48
    · exact hP 9 _ rfl
    rcases (show k = 49 ∨ 49 < k by omega) with rfl | h49
    · have h9 := hP 10 _ rfl
      show H[f 49]? = some (vp_cell (d.2 5) (10, .inr (.inr (.inr (.inr (fun i => some (adr (d.1, f, d.2, B, adK, adV) (4 * (2 + i)))))))))
      rw [← vp_refs (f := fun i => some ([f 8, f 12, f 16, f 20, f 24, f 28, f 32, f 36, f 40, f 44].getD i 0)) (fun j hj => ?_)]
      · exact h9
      · rcases (show j = 0 ∨ j = 1 ∨ j = 2 ∨ j = 3 ∨ j = 4 ∨ j = 5 ∨ j = 6 ∨ j = 7 ∨ j = 8 ∨ j = 9 by omega) with rfl | rfl | rfl | rfl | rfl | rfl | rfl | rfl | rfl | rfl <;> rfl
    rcases (show k = 50 ∨ 50 < k by omega) with rfl | h50
    · exact hP 51 _ rfl
    rcases (show k = 51 ∨ 51 < k by omega) with rfl | h51
    · exact hP 52 _ rfl
    rcases (show k = 52 ∨ 52 < k by omega) with rfl | h52
    · exact hP 53 _ rfl
    rcases (show k = 53 ∨ 53 < k by omega) with rfl | h53
    · exact hP 54 _ rfl
    rcases (show k = 54 ∨ 54 < k by omega) with rfl | h54
    · exact hP 55 _ rfl
    rcases (show k = 55 ∨ 55 < k by omega) with rfl | h55
    · exact hP 56 _ rfl
    rcases (show k = 56 ∨ 56 < k by omega) with rfl | h56
    · exact hP 57 _ rfl
    rcases (show k = 57 ∨ 57 < k by omega) with rfl | h57
    · exact hP 58 _ rfl
    rcases (show k = 58 ∨ 58 < k by omega) with rfl | h58
    · exact hP 59 _ rfl
    rcases (show k = 59 ∨ 59 < k by omega) with rfl | h59
    · exact hP 60 _ rfl
    rcases (show k = 60 ∨ 60 < k by omega) with rfl | h60
    · exact hP 61 _ rfl
    rcases (show k = 61 ∨ 61 < k by omega) with rfl | h61
    · exact hP 62 _ rfl
    rcases (show k = 62 ∨ 62 < k by omega) with rfl | h62
    · exact hP 63 _ rfl
    rcases (show k = 63 ∨ 63 < k by omega) with rfl | h63
    · exact hP 64 _ rfl
    rcases (show k = 64 ∨ 64 < k by omega) with rfl | h64
    · exact hP 65 _ rfl
    rcases (show k = 65 ∨ 65 < k by omega) with rfl | h65
    · exact hP 66 _ rfl
    rcases (show k = 66 ∨ 66 < k by omega) with rfl | h66
    · exact hP 67 _ rfl
    rcases (show k = 67 ∨ 67 < k by omega) with rfl | h67
    · exact hP 68 _ rfl
    rcases (show k = 68 ∨ 68 < k by omega) with rfl | h68
    · exact hP 69 _ rfl
    rcases (show k = 69 ∨ 69 < k by omega) with rfl | h69
    · exact hP 0 _ rfl
    rcases (show k = 70 ∨ 70 < k by omega) with rfl | h70
    · exact hP 70 _ rfl
    rcases (show k = 71 ∨ 71 < k by omega) with rfl | h71
    · exact hP 71 _ rfl
    rcases (show k = 72 ∨ 72 < k by omega) with rfl | h72
    · exact hP 72 _ rfl
    rcases (show k = 73 ∨ 73 < k by omega) with rfl | h73
    · exact hP 73 _ rfl
    rcases (show k = 74 ∨ 74 < k by omega) with rfl | h74
    · exact hP 74 _ rfl
    rcases (show k = 75 ∨ 75 < k by omega) with rfl | h75
    · exact hP 75 _ rfl
    rcases (show k = 76 ∨ 76 < k by omega) with rfl | h76
    · exact hP 76 _ rfl
    rcases (show k = 77 ∨ 77 < k by omega) with rfl | h77
    · have h9 := hP 77 _ rfl
      show H[f 77]? = some (vp_cell (d.2 0) (48, .inl (fun j => ii (s0 77 (j : Int)))))
      rw [← vp_ints (f := tbF 48) (fun j hj => ?_)]
      · exact h9
      · rw [tbF_at 48 j hj, show s0 77 (j : Int) = (tbL.getD (j : Int).toNat 0).toInt from rfl, ii_of, Int.toNat_natCast]
    rcases (show k = 78 ∨ 78 < k by omega) with rfl | h78
    · exact hP 78 _ rfl
    rcases (show k = 79 ∨ 79 < k by omega) with rfl | h79
    · exact hP 79 _ rfl
    rcases (show k = 80 ∨ 80 < k by omega) with rfl | h80
    · exact hP 80 _ rfl
    rcases (show k = 81 ∨ 81 < k by omega) with rfl | h81
    · exact hP 81 _ rfl
    rcases (show k = 82 ∨ 82 < k by omega) with rfl | h82
    · exact hP 82 _ rfl
    omega
  intro k q hk
  by_cases h : k < 83
  · rw [wl_at h] at hk
    cases hk
    exact hh k h
  · simp [wl, h] at hk
