/-! Constructors: contracts -/
set_option maxHeartbeats 4000000 in
set_option maxRecDepth 100000 in
theorem c_X6_init (d : Cg) (l : Launch) (a : Nat) : KC d l yX6_init cX6_init 1 0 3 120 a [] 8 [.null, .null, .null, .int 0] (fun w => ∃ q7 q15 q23 : Nat, w = [(a, .inr (8, [.ref q7, .ref q15, .ref q23, .int 0])), (q7, arI d 0 40), (q15, arI d 0 40), (q23, arI d 0 40)]) := by
  refine startC (own := RX6) (by decide) rfl rfl (Nat.le_of_ble_eq_true rfl) ?_
  intro X hx hi hd hl hnL ret
  subst hd
  subst hl
  refine cj_aload_n (j := 0) hx dX6_init_0 rfl ?_
  refine cj_objInit hx oi_X6 oi_inst oi_code dX6_init_1 (Nat.le_of_ble_eq_true rfl) ?_
  refine cj_aload_n (j := 0) hx dX6_init_4 rfl ?_
  refine cj_bipush (v := 40) hx dX6_init_5 rfl ?_
  refine cj_newa (t := 0) (N := 40) (ty := .int) (a0 := (40, .inl (fun _ => 0))) hx ac_int rfl rfl (fun _ => rfl) (by decide) (by decide) (Nat.le_of_ble_eq_true rfl) dX6_init_7 ⟨by omega, by omega⟩ (fun q7 => ?_)
  refine CJ.eq (ws' := [(a, .inr (8, [.null, .null, .null, .int 0])), (q7, arI X.1 0 40)]) rfl ?_
  refine cj_putF (q0 := 0) hx hi fqX6_9 dX6_init_9 rfl rfl rfl (Nat.le_of_ble_eq_true rfl) ?_
  refine CJ.eq (ws' := [(a, .inr (8, [.ref q7, .null, .null, .int 0])), (q7, arI X.1 0 40)]) rfl ?_
  refine cj_aload_n (j := 0) hx dX6_init_12 rfl ?_
  refine cj_bipush (v := 40) hx dX6_init_13 rfl ?_
  refine cj_newa (t := 0) (N := 40) (ty := .int) (a0 := (40, .inl (fun _ => 0))) hx ac_int rfl rfl (fun _ => rfl) (by decide) (by decide) (Nat.le_of_ble_eq_true rfl) dX6_init_15 ⟨by omega, by omega⟩ (fun q15 => ?_)
  refine CJ.eq (ws' := [(a, .inr (8, [.ref q7, .null, .null, .int 0])), (q7, arI X.1 0 40), (q15, arI X.1 0 40)]) rfl ?_
  refine cj_putF (q0 := 0) hx hi fqX6_15 dX6_init_17 rfl rfl rfl (Nat.le_of_ble_eq_true rfl) ?_
  refine CJ.eq (ws' := [(a, .inr (8, [.ref q7, .ref q15, .null, .int 0])), (q7, arI X.1 0 40), (q15, arI X.1 0 40)]) rfl ?_
  refine cj_aload_n (j := 0) hx dX6_init_20 rfl ?_
  refine cj_bipush (v := 40) hx dX6_init_21 rfl ?_
  refine cj_newa (t := 0) (N := 40) (ty := .int) (a0 := (40, .inl (fun _ => 0))) hx ac_int rfl rfl (fun _ => rfl) (by decide) (by decide) (Nat.le_of_ble_eq_true rfl) dX6_init_23 ⟨by omega, by omega⟩ (fun q23 => ?_)
  refine CJ.eq (ws' := [(a, .inr (8, [.ref q7, .ref q15, .null, .int 0])), (q7, arI X.1 0 40), (q15, arI X.1 0 40), (q23, arI X.1 0 40)]) rfl ?_
  refine cj_putF (q0 := 0) hx hi fqX6_18 dX6_init_25 rfl rfl rfl (Nat.le_of_ble_eq_true rfl) ?_
  refine CJ.eq (ws' := [(a, .inr (8, [.ref q7, .ref q15, .ref q23, .int 0])), (q7, arI X.1 0 40), (q15, arI X.1 0 40), (q23, arI X.1 0 40)]) rfl ?_
  refine cj_aload_n (j := 0) hx dX6_init_28 rfl ?_
  refine cj_iconst (v := 0) hx dX6_init_29 rfl ?_
  refine cj_put (q0 := 0) hx fpX6_21 dX6_init_30 rfl rfl rfl (Nat.le_of_ble_eq_true rfl) ?_
  refine CJ.eq (ws' := [(a, .inr (8, [.ref q7, .ref q15, .ref q23, .int 0])), (q7, arI X.1 0 40), (q15, arI X.1 0 40), (q23, arI X.1 0 40)]) rfl ?_
  exact ret _ _ _ _ _ (by omega) (by omega) dX6_init_33 ⟨_, _, _, rfl⟩
set_option maxHeartbeats 4000000 in
set_option maxRecDepth 100000 in
theorem c_X2_init (d : Cg) (l : Launch) (a : Nat) : KC d l yX2_init cX2_init 2 2 41 1250 a [] 4 [.null, .int 0, .int 0] (fun w => ∃ q7 p0 p0_0 p0_1 p0_2 p1 p1_0 p1_1 p1_2 p2 p2_0 p2_1 p2_2 p3 p3_0 p3_1 p3_2 p4 p4_0 p4_1 p4_2 p5 p5_0 p5_1 p5_2 p6 p6_0 p6_1 p6_2 p7 p7_0 p7_1 p7_2 p8 p8_0 p8_1 p8_2 p9 p9_0 p9_1 p9_2 : Nat, w = [(a, .inr (4, [.ref q7, .int 0, .int 0])), (q7, .inl (d.2 5, 10, .inr (.inr (.inr (.inr (fun i => some ([p0, p1, p2, p3, p4, p5, p6, p7, p8, p9].getD i 0))))))), (p0, .inr (8, [.ref p0_0, .ref p0_1, .ref p0_2, .int 0])), (p0_0, arI d 0 40), (p0_1, arI d 0 40), (p0_2, arI d 0 40), (p1, .inr (8, [.ref p1_0, .ref p1_1, .ref p1_2, .int 0])), (p1_0, arI d 0 40), (p1_1, arI d 0 40), (p1_2, arI d 0 40), (p2, .inr (8, [.ref p2_0, .ref p2_1, .ref p2_2, .int 0])), (p2_0, arI d 0 40), (p2_1, arI d 0 40), (p2_2, arI d 0 40), (p3, .inr (8, [.ref p3_0, .ref p3_1, .ref p3_2, .int 0])), (p3_0, arI d 0 40), (p3_1, arI d 0 40), (p3_2, arI d 0 40), (p4, .inr (8, [.ref p4_0, .ref p4_1, .ref p4_2, .int 0])), (p4_0, arI d 0 40), (p4_1, arI d 0 40), (p4_2, arI d 0 40), (p5, .inr (8, [.ref p5_0, .ref p5_1, .ref p5_2, .int 0])), (p5_0, arI d 0 40), (p5_1, arI d 0 40), (p5_2, arI d 0 40), (p6, .inr (8, [.ref p6_0, .ref p6_1, .ref p6_2, .int 0])), (p6_0, arI d 0 40), (p6_1, arI d 0 40), (p6_2, arI d 0 40), (p7, .inr (8, [.ref p7_0, .ref p7_1, .ref p7_2, .int 0])), (p7_0, arI d 0 40), (p7_1, arI d 0 40), (p7_2, arI d 0 40), (p8, .inr (8, [.ref p8_0, .ref p8_1, .ref p8_2, .int 0])), (p8_0, arI d 0 40), (p8_1, arI d 0 40), (p8_2, arI d 0 40), (p9, .inr (8, [.ref p9_0, .ref p9_1, .ref p9_2, .int 0])), (p9_0, arI d 0 40), (p9_1, arI d 0 40), (p9_2, arI d 0 40)]) := by
  refine startC (own := RX2) (by decide) rfl rfl (Nat.le_of_ble_eq_true rfl) ?_
  intro X hx hi hd hl hnL ret
  subst hd
  subst hl
  refine cj_aload_n (j := 0) hx dX2_init_0 rfl ?_
  refine cj_objInit hx oi_X2 oi_inst oi_code dX2_init_1 (Nat.le_of_ble_eq_true rfl) ?_
  refine cj_aload_n (j := 0) hx dX2_init_4 rfl ?_
  refine cj_bipush (v := 10) hx dX2_init_5 rfl ?_
  refine cj_newq (N := 10) hx (big_of (List.mem_of_getElem? (i := 127) (by decide +kernel)) (by decide +kernel)) (by decide) (by decide) (Nat.le_of_ble_eq_true rfl) dX2_init_7 ⟨by omega, by omega⟩ (fun q7 => ?_)
  refine CJ.eq (ws' := [(a, .inr (4, [.null, .int 0, .int 0])), (q7, .inl (X.1.2 5, 10, .inr (.inr (.inr (.inr (fun _ => none))))))]) rfl ?_
  refine cj_putF (q0 := 0) hx hi fqX2_11 dX2_init_10 rfl rfl rfl (Nat.le_of_ble_eq_true rfl) ?_
  refine CJ.eq (ws' := [(a, .inr (4, [.ref q7, .int 0, .int 0])), (q7, .inl (X.1.2 5, 10, .inr (.inr (.inr (.inr (fun _ => none))))))]) rfl ?_
  refine cj_aload_n (j := 0) hx dX2_init_13 rfl ?_
  refine cj_iconst (v := 0) hx dX2_init_14 rfl ?_
  refine cj_put (q0 := 0) hx fpX2_17 dX2_init_15 rfl rfl rfl (Nat.le_of_ble_eq_true rfl) ?_
  refine CJ.eq (ws' := [(a, .inr (4, [.ref q7, .int 0, .int 0])), (q7, .inl (X.1.2 5, 10, .inr (.inr (.inr (.inr (fun _ => none))))))]) rfl ?_
  refine cj_aload_n (j := 0) hx dX2_init_18 rfl ?_
  refine cj_iconst (v := 0) hx dX2_init_19 rfl ?_
  refine cj_put (q0 := 0) hx fpX2_21 dX2_init_20 rfl rfl rfl (Nat.le_of_ble_eq_true rfl) ?_
  refine CJ.eq (ws' := [(a, .inr (4, [.ref q7, .int 0, .int 0])), (q7, .inl (X.1.2 5, 10, .inr (.inr (.inr (.inr (fun _ => none))))))]) rfl ?_
  refine cj_iconst (v := 0) hx dX2_init_23 rfl ?_
  refine cj_istore_n hx (by rw [hnL]; decide) dX2_init_24 rfl ?_
  refine cj_iload_n (j := 0) hx dX2_init_25 rfl ?_
  refine cj_bipush (v := 10) hx dX2_init_26 rfl ?_
  refine cj_ge_no (tgt := 50) hx dX2_init_28 (by decide) (by decide) ?_
  refine cj_aload_n (j := 1) hx dX2_init_31 rfl ?_
  refine cj_get (q0 := 0) hx flX2_11 dX2_init_32 rfl rfl ?_
  refine cj_iload_n (j := 0) hx dX2_init_35 rfl ?_
  refine cj_new (N := 4) hx nwX2_9 rfl dX2_init_36 ⟨by omega, by omega⟩ (fun p0 => ?_)
  refine CJ.eq (ws' := [(a, .inr (4, [.ref q7, .int 0, .int 0])), (q7, .inl (X.1.2 5, 10, .inr (.inr (.inr (.inr (fun _ => none)))))), (p0, .inr (8, [.null, .null, .null, .int 0]))]) rfl ?_
  refine cj_dup hx dX2_init_39 ?_
  refine cj_callN (w0 := [(a, .inr (4, [.ref q7, .int 0, .int 0])), (q7, .inl (X.1.2 5, 10, .inr (.inr (.inr (.inr (fun _ => none))))))]) hx (c_X6_init _ _ p0) (List.mem_of_getElem? (i := 1) rfl) mwX6_ctor dX2_init_40 rfl rfl (Nat.le_of_ble_eq_true rfl) (by decide) ⟨by omega, by omega⟩ rfl (fun w hw => ?_)
  obtain ⟨p0_0, p0_1, p0_2, rfl⟩ := hw
  refine CJ.eq (ws' := [(a, .inr (4, [.ref q7, .int 0, .int 0])), (q7, .inl (X.1.2 5, 10, .inr (.inr (.inr (.inr (fun _ => none)))))), (p0, .inr (8, [.ref p0_0, .ref p0_1, .ref p0_2, .int 0])), (p0_0, arI X.1 0 40), (p0_1, arI X.1 0 40), (p0_2, arI X.1 0 40)]) rfl ?_
  refine cj_aast (q0 := 1) (qk := 2) hx dX2_init_43 rfl rfl (by unfold vp_in; decide) ?_
  refine CJ.eq (ws' := [(a, .inr (4, [.ref q7, .int 0, .int 0])), (q7, .inl (X.1.2 5, 10, .inr (.inr (.inr (.inr (va_up (fun _ => none) 0 (some p0))))))), (p0, .inr (8, [.ref p0_0, .ref p0_1, .ref p0_2, .int 0])), (p0_0, arI X.1 0 40), (p0_1, arI X.1 0 40), (p0_2, arI X.1 0 40)]) rfl ?_
  refine cj_iinc (j := 0) (v := 1) hx (by rw [hnL]; decide) dX2_init_44 rfl rfl rfl ?_
  refine cj_goto (tgt := 25) hx dX2_init_47 (by decide) ?_
  refine cj_iload_n (j := 0) hx dX2_init_25 rfl ?_
  refine cj_bipush (v := 10) hx dX2_init_26 rfl ?_
  refine cj_ge_no (tgt := 50) hx dX2_init_28 (by decide) (by decide) ?_
  refine cj_aload_n (j := 1) hx dX2_init_31 rfl ?_
  refine cj_get (q0 := 0) hx flX2_11 dX2_init_32 rfl rfl ?_
  refine cj_iload_n (j := 0) hx dX2_init_35 rfl ?_
  refine cj_new (N := 4) hx nwX2_9 rfl dX2_init_36 ⟨by omega, by omega⟩ (fun p1 => ?_)
  refine CJ.eq (ws' := [(a, .inr (4, [.ref q7, .int 0, .int 0])), (q7, .inl (X.1.2 5, 10, .inr (.inr (.inr (.inr (va_up (fun _ => none) 0 (some p0))))))), (p0, .inr (8, [.ref p0_0, .ref p0_1, .ref p0_2, .int 0])), (p0_0, arI X.1 0 40), (p0_1, arI X.1 0 40), (p0_2, arI X.1 0 40), (p1, .inr (8, [.null, .null, .null, .int 0]))]) rfl ?_
  refine cj_dup hx dX2_init_39 ?_
  refine cj_callN (w0 := [(a, .inr (4, [.ref q7, .int 0, .int 0])), (q7, .inl (X.1.2 5, 10, .inr (.inr (.inr (.inr (va_up (fun _ => none) 0 (some p0))))))), (p0, .inr (8, [.ref p0_0, .ref p0_1, .ref p0_2, .int 0])), (p0_0, arI X.1 0 40), (p0_1, arI X.1 0 40), (p0_2, arI X.1 0 40)]) hx (c_X6_init _ _ p1) (List.mem_of_getElem? (i := 1) rfl) mwX6_ctor dX2_init_40 rfl rfl (Nat.le_of_ble_eq_true rfl) (by decide) ⟨by omega, by omega⟩ rfl (fun w hw => ?_)
  obtain ⟨p1_0, p1_1, p1_2, rfl⟩ := hw
  refine CJ.eq (ws' := [(a, .inr (4, [.ref q7, .int 0, .int 0])), (q7, .inl (X.1.2 5, 10, .inr (.inr (.inr (.inr (va_up (fun _ => none) 0 (some p0))))))), (p0, .inr (8, [.ref p0_0, .ref p0_1, .ref p0_2, .int 0])), (p0_0, arI X.1 0 40), (p0_1, arI X.1 0 40), (p0_2, arI X.1 0 40), (p1, .inr (8, [.ref p1_0, .ref p1_1, .ref p1_2, .int 0])), (p1_0, arI X.1 0 40), (p1_1, arI X.1 0 40), (p1_2, arI X.1 0 40)]) rfl ?_
  refine cj_aast (q0 := 1) (qk := 6) hx dX2_init_43 rfl rfl (by unfold vp_in; decide) ?_
  refine CJ.eq (ws' := [(a, .inr (4, [.ref q7, .int 0, .int 0])), (q7, .inl (X.1.2 5, 10, .inr (.inr (.inr (.inr (va_up (va_up (fun _ => none) 0 (some p0)) 1 (some p1))))))), (p0, .inr (8, [.ref p0_0, .ref p0_1, .ref p0_2, .int 0])), (p0_0, arI X.1 0 40), (p0_1, arI X.1 0 40), (p0_2, arI X.1 0 40), (p1, .inr (8, [.ref p1_0, .ref p1_1, .ref p1_2, .int 0])), (p1_0, arI X.1 0 40), (p1_1, arI X.1 0 40), (p1_2, arI X.1 0 40)]) rfl ?_
  refine cj_iinc (j := 0) (v := 2) hx (by rw [hnL]; decide) dX2_init_44 rfl rfl rfl ?_
  refine cj_goto (tgt := 25) hx dX2_init_47 (by decide) ?_
  refine cj_iload_n (j := 0) hx dX2_init_25 rfl ?_
  refine cj_bipush (v := 10) hx dX2_init_26 rfl ?_
  refine cj_ge_no (tgt := 50) hx dX2_init_28 (by decide) (by decide) ?_
  refine cj_aload_n (j := 1) hx dX2_init_31 rfl ?_
  refine cj_get (q0 := 0) hx flX2_11 dX2_init_32 rfl rfl ?_
  refine cj_iload_n (j := 0) hx dX2_init_35 rfl ?_
  refine cj_new (N := 4) hx nwX2_9 rfl dX2_init_36 ⟨by omega, by omega⟩ (fun p2 => ?_)
  refine CJ.eq (ws' := [(a, .inr (4, [.ref q7, .int 0, .int 0])), (q7, .inl (X.1.2 5, 10, .inr (.inr (.inr (.inr (va_up (va_up (fun _ => none) 0 (some p0)) 1 (some p1))))))), (p0, .inr (8, [.ref p0_0, .ref p0_1, .ref p0_2, .int 0])), (p0_0, arI X.1 0 40), (p0_1, arI X.1 0 40), (p0_2, arI X.1 0 40), (p1, .inr (8, [.ref p1_0, .ref p1_1, .ref p1_2, .int 0])), (p1_0, arI X.1 0 40), (p1_1, arI X.1 0 40), (p1_2, arI X.1 0 40), (p2, .inr (8, [.null, .null, .null, .int 0]))]) rfl ?_
  refine cj_dup hx dX2_init_39 ?_
  refine cj_callN (w0 := [(a, .inr (4, [.ref q7, .int 0, .int 0])), (q7, .inl (X.1.2 5, 10, .inr (.inr (.inr (.inr (va_up (va_up (fun _ => none) 0 (some p0)) 1 (some p1))))))), (p0, .inr (8, [.ref p0_0, .ref p0_1, .ref p0_2, .int 0])), (p0_0, arI X.1 0 40), (p0_1, arI X.1 0 40), (p0_2, arI X.1 0 40), (p1, .inr (8, [.ref p1_0, .ref p1_1, .ref p1_2, .int 0])), (p1_0, arI X.1 0 40), (p1_1, arI X.1 0 40), (p1_2, arI X.1 0 40)]) hx (c_X6_init _ _ p2) (List.mem_of_getElem? (i := 1) rfl) mwX6_ctor dX2_init_40 rfl rfl (Nat.le_of_ble_eq_true rfl) (by decide) ⟨by omega, by omega⟩ rfl (fun w hw => ?_)
  obtain ⟨p2_0, p2_1, p2_2, rfl⟩ := hw
  refine CJ.eq (ws' := [(a, .inr (4, [.ref q7, .int 0, .int 0])), (q7, .inl (X.1.2 5, 10, .inr (.inr (.inr (.inr (va_up (va_up (fun _ => none) 0 (some p0)) 1 (some p1))))))), (p0, .inr (8, [.ref p0_0, .ref p0_1, .ref p0_2, .int 0])), (p0_0, arI X.1 0 40), (p0_1, arI X.1 0 40), (p0_2, arI X.1 0 40), (p1, .inr (8, [.ref p1_0, .ref p1_1, .ref p1_2, .int 0])), (p1_0, arI X.1 0 40), (p1_1, arI X.1 0 40), (p1_2, arI X.1 0 40), (p2, .inr (8, [.ref p2_0, .ref p2_1, .ref p2_2, .int 0])), (p2_0, arI X.1 0 40), (p2_1, arI X.1 0 40), (p2_2, arI X.1 0 40)]) rfl ?_
  refine cj_aast (q0 := 1) (qk := 10) hx dX2_init_43 rfl rfl (by unfold vp_in; decide) ?_
  refine CJ.eq (ws' := [(a, .inr (4, [.ref q7, .int 0, .int 0])), (q7, .inl (X.1.2 5, 10, .inr (.inr (.inr (.inr (va_up (va_up (va_up (fun _ => none) 0 (some p0)) 1 (some p1)) 2 (some p2))))))), (p0, .inr (8, [.ref p0_0, .ref p0_1, .ref p0_2, .int 0])), (p0_0, arI X.1 0 40), (p0_1, arI X.1 0 40), (p0_2, arI X.1 0 40), (p1, .inr (8, [.ref p1_0, .ref p1_1, .ref p1_2, .int 0])), (p1_0, arI X.1 0 40), (p1_1, arI X.1 0 40), (p1_2, arI X.1 0 40), (p2, .inr (8, [.ref p2_0, .ref p2_1, .ref p2_2, .int 0])), (p2_0, arI X.1 0 40), (p2_1, arI X.1 0 40), (p2_2, arI X.1 0 40)]) rfl ?_
  refine cj_iinc (j := 0) (v := 3) hx (by rw [hnL]; decide) dX2_init_44 rfl rfl rfl ?_
  refine cj_goto (tgt := 25) hx dX2_init_47 (by decide) ?_
  refine cj_iload_n (j := 0) hx dX2_init_25 rfl ?_
  refine cj_bipush (v := 10) hx dX2_init_26 rfl ?_
  refine cj_ge_no (tgt := 50) hx dX2_init_28 (by decide) (by decide) ?_
  refine cj_aload_n (j := 1) hx dX2_init_31 rfl ?_
  refine cj_get (q0 := 0) hx flX2_11 dX2_init_32 rfl rfl ?_
  refine cj_iload_n (j := 0) hx dX2_init_35 rfl ?_
  refine cj_new (N := 4) hx nwX2_9 rfl dX2_init_36 ⟨by omega, by omega⟩ (fun p3 => ?_)
  refine CJ.eq (ws' := [(a, .inr (4, [.ref q7, .int 0, .int 0])), (q7, .inl (X.1.2 5, 10, .inr (.inr (.inr (.inr (va_up (va_up (va_up (fun _ => none) 0 (some p0)) 1 (some p1)) 2 (some p2))))))), (p0, .inr (8, [.ref p0_0, .ref p0_1, .ref p0_2, .int 0])), (p0_0, arI X.1 0 40), (p0_1, arI X.1 0 40), (p0_2, arI X.1 0 40), (p1, .inr (8, [.ref p1_0, .ref p1_1, .ref p1_2, .int 0])), (p1_0, arI X.1 0 40), (p1_1, arI X.1 0 40), (p1_2, arI X.1 0 40), (p2, .inr (8, [.ref p2_0, .ref p2_1, .ref p2_2, .int 0])), (p2_0, arI X.1 0 40), (p2_1, arI X.1 0 40), (p2_2, arI X.1 0 40), (p3, .inr (8, [.null, .null, .null, .int 0]))]) rfl ?_
  refine cj_dup hx dX2_init_39 ?_
  refine cj_callN (w0 := [(a, .inr (4, [.ref q7, .int 0, .int 0])), (q7, .inl (X.1.2 5, 10, .inr (.inr (.inr (.inr (va_up (va_up (va_up (fun _ => none) 0 (some p0)) 1 (some p1)) 2 (some p2))))))), (p0, .inr (8, [.ref p0_0, .ref p0_1, .ref p0_2, .int 0])), (p0_0, arI X.1 0 40), (p0_1, arI X.1 0 40), (p0_2, arI X.1 0 40), (p1, .inr (8, [.ref p1_0, .ref p1_1, .ref p1_2, .int 0])), (p1_0, arI X.1 0 40), (p1_1, arI X.1 0 40), (p1_2, arI X.1 0 40), (p2, .inr (8, [.ref p2_0, .ref p2_1, .ref p2_2, .int 0])), (p2_0, arI X.1 0 40), (p2_1, arI X.1 0 40), (p2_2, arI X.1 0 40)]) hx (c_X6_init _ _ p3) (List.mem_of_getElem? (i := 1) rfl) mwX6_ctor dX2_init_40 rfl rfl (Nat.le_of_ble_eq_true rfl) (by decide) ⟨by omega, by omega⟩ rfl (fun w hw => ?_)
  obtain ⟨p3_0, p3_1, p3_2, rfl⟩ := hw
  refine CJ.eq (ws' := [(a, .inr (4, [.ref q7, .int 0, .int 0])), (q7, .inl (X.1.2 5, 10, .inr (.inr (.inr (.inr (va_up (va_up (va_up (fun _ => none) 0 (some p0)) 1 (some p1)) 2 (some p2))))))), (p0, .inr (8, [.ref p0_0, .ref p0_1, .ref p0_2, .int 0])), (p0_0, arI X.1 0 40), (p0_1, arI X.1 0 40), (p0_2, arI X.1 0 40), (p1, .inr (8, [.ref p1_0, .ref p1_1, .ref p1_2, .int 0])), (p1_0, arI X.1 0 40), (p1_1, arI X.1 0 40), (p1_2, arI X.1 0 40), (p2, .inr (8, [.ref p2_0, .ref p2_1, .ref p2_2, .int 0])), (p2_0, arI X.1 0 40), (p2_1, arI X.1 0 40), (p2_2, arI X.1 0 40), (p3, .inr (8, [.ref p3_0, .ref p3_1, .ref p3_2, .int 0])), (p3_0, arI X.1 0 40), (p3_1, arI X.1 0 40), (p3_2, arI X.1 0 40)]) rfl ?_
  refine cj_aast (q0 := 1) (qk := 14) hx dX2_init_43 rfl rfl (by unfold vp_in; decide) ?_
  refine CJ.eq (ws' := [(a, .inr (4, [.ref q7, .int 0, .int 0])), (q7, .inl (X.1.2 5, 10, .inr (.inr (.inr (.inr (va_up (va_up (va_up (va_up (fun _ => none) 0 (some p0)) 1 (some p1)) 2 (some p2)) 3 (some p3))))))), (p0, .inr (8, [.ref p0_0, .ref p0_1, .ref p0_2, .int 0])), (p0_0, arI X.1 0 40), (p0_1, arI X.1 0 40), (p0_2, arI X.1 0 40), (p1, .inr (8, [.ref p1_0, .ref p1_1, .ref p1_2, .int 0])), (p1_0, arI X.1 0 40), (p1_1, arI X.1 0 40), (p1_2, arI X.1 0 40), (p2, .inr (8, [.ref p2_0, .ref p2_1, .ref p2_2, .int 0])), (p2_0, arI X.1 0 40), (p2_1, arI X.1 0 40), (p2_2, arI X.1 0 40), (p3, .inr (8, [.ref p3_0, .ref p3_1, .ref p3_2, .int 0])), (p3_0, arI X.1 0 40), (p3_1, arI X.1 0 40), (p3_2, arI X.1 0 40)]) rfl ?_
  refine cj_iinc (j := 0) (v := 4) hx (by rw [hnL]; decide) dX2_init_44 rfl rfl rfl ?_
  refine cj_goto (tgt := 25) hx dX2_init_47 (by decide) ?_
  refine cj_iload_n (j := 0) hx dX2_init_25 rfl ?_
  refine cj_bipush (v := 10) hx dX2_init_26 rfl ?_
  refine cj_ge_no (tgt := 50) hx dX2_init_28 (by decide) (by decide) ?_
  refine cj_aload_n (j := 1) hx dX2_init_31 rfl ?_
  refine cj_get (q0 := 0) hx flX2_11 dX2_init_32 rfl rfl ?_
  refine cj_iload_n (j := 0) hx dX2_init_35 rfl ?_
  refine cj_new (N := 4) hx nwX2_9 rfl dX2_init_36 ⟨by omega, by omega⟩ (fun p4 => ?_)
  refine CJ.eq (ws' := [(a, .inr (4, [.ref q7, .int 0, .int 0])), (q7, .inl (X.1.2 5, 10, .inr (.inr (.inr (.inr (va_up (va_up (va_up (va_up (fun _ => none) 0 (some p0)) 1 (some p1)) 2 (some p2)) 3 (some p3))))))), (p0, .inr (8, [.ref p0_0, .ref p0_1, .ref p0_2, .int 0])), (p0_0, arI X.1 0 40), (p0_1, arI X.1 0 40), (p0_2, arI X.1 0 40), (p1, .inr (8, [.ref p1_0, .ref p1_1, .ref p1_2, .int 0])), (p1_0, arI X.1 0 40), (p1_1, arI X.1 0 40), (p1_2, arI X.1 0 40), (p2, .inr (8, [.ref p2_0, .ref p2_1, .ref p2_2, .int 0])), (p2_0, arI X.1 0 40), (p2_1, arI X.1 0 40), (p2_2, arI X.1 0 40), (p3, .inr (8, [.ref p3_0, .ref p3_1, .ref p3_2, .int 0])), (p3_0, arI X.1 0 40), (p3_1, arI X.1 0 40), (p3_2, arI X.1 0 40), (p4, .inr (8, [.null, .null, .null, .int 0]))]) rfl ?_
  refine cj_dup hx dX2_init_39 ?_
  refine cj_callN (w0 := [(a, .inr (4, [.ref q7, .int 0, .int 0])), (q7, .inl (X.1.2 5, 10, .inr (.inr (.inr (.inr (va_up (va_up (va_up (va_up (fun _ => none) 0 (some p0)) 1 (some p1)) 2 (some p2)) 3 (some p3))))))), (p0, .inr (8, [.ref p0_0, .ref p0_1, .ref p0_2, .int 0])), (p0_0, arI X.1 0 40), (p0_1, arI X.1 0 40), (p0_2, arI X.1 0 40), (p1, .inr (8, [.ref p1_0, .ref p1_1, .ref p1_2, .int 0])), (p1_0, arI X.1 0 40), (p1_1, arI X.1 0 40), (p1_2, arI X.1 0 40), (p2, .inr (8, [.ref p2_0, .ref p2_1, .ref p2_2, .int 0])), (p2_0, arI X.1 0 40), (p2_1, arI X.1 0 40), (p2_2, arI X.1 0 40), (p3, .inr (8, [.ref p3_0, .ref p3_1, .ref p3_2, .int 0])), (p3_0, arI X.1 0 40), (p3_1, arI X.1 0 40), (p3_2, arI X.1 0 40)]) hx (c_X6_init _ _ p4) (List.mem_of_getElem? (i := 1) rfl) mwX6_ctor dX2_init_40 rfl rfl (Nat.le_of_ble_eq_true rfl) (by decide) ⟨by omega, by omega⟩ rfl (fun w hw => ?_)
  obtain ⟨p4_0, p4_1, p4_2, rfl⟩ := hw
  refine CJ.eq (ws' := [(a, .inr (4, [.ref q7, .int 0, .int 0])), (q7, .inl (X.1.2 5, 10, .inr (.inr (.inr (.inr (va_up (va_up (va_up (va_up (fun _ => none) 0 (some p0)) 1 (some p1)) 2 (some p2)) 3 (some p3))))))), (p0, .inr (8, [.ref p0_0, .ref p0_1, .ref p0_2, .int 0])), (p0_0, arI X.1 0 40), (p0_1, arI X.1 0 40), (p0_2, arI X.1 0 40), (p1, .inr (8, [.ref p1_0, .ref p1_1, .ref p1_2, .int 0])), (p1_0, arI X.1 0 40), (p1_1, arI X.1 0 40), (p1_2, arI X.1 0 40), (p2, .inr (8, [.ref p2_0, .ref p2_1, .ref p2_2, .int 0])), (p2_0, arI X.1 0 40), (p2_1, arI X.1 0 40), (p2_2, arI X.1 0 40), (p3, .inr (8, [.ref p3_0, .ref p3_1, .ref p3_2, .int 0])), (p3_0, arI X.1 0 40), (p3_1, arI X.1 0 40), (p3_2, arI X.1 0 40), (p4, .inr (8, [.ref p4_0, .ref p4_1, .ref p4_2, .int 0])), (p4_0, arI X.1 0 40), (p4_1, arI X.1 0 40), (p4_2, arI X.1 0 40)]) rfl ?_
  refine cj_aast (q0 := 1) (qk := 18) hx dX2_init_43 rfl rfl (by unfold vp_in; decide) ?_
  refine CJ.eq (ws' := [(a, .inr (4, [.ref q7, .int 0, .int 0])), (q7, .inl (X.1.2 5, 10, .inr (.inr (.inr (.inr (va_up (va_up (va_up (va_up (va_up (fun _ => none) 0 (some p0)) 1 (some p1)) 2 (some p2)) 3 (some p3)) 4 (some p4))))))), (p0, .inr (8, [.ref p0_0, .ref p0_1, .ref p0_2, .int 0])), (p0_0, arI X.1 0 40), (p0_1, arI X.1 0 40), (p0_2, arI X.1 0 40), (p1, .inr (8, [.ref p1_0, .ref p1_1, .ref p1_2, .int 0])), (p1_0, arI X.1 0 40), (p1_1, arI X.1 0 40), (p1_2, arI X.1 0 40), (p2, .inr (8, [.ref p2_0, .ref p2_1, .ref p2_2, .int 0])), (p2_0, arI X.1 0 40), (p2_1, arI X.1 0 40), (p2_2, arI X.1 0 40), (p3, .inr (8, [.ref p3_0, .ref p3_1, .ref p3_2, .int 0])), (p3_0, arI X.1 0 40), (p3_1, arI X.1 0 40), (p3_2, arI X.1 0 40), (p4, .inr (8, [.ref p4_0, .ref p4_1, .ref p4_2, .int 0])), (p4_0, arI X.1 0 40), (p4_1, arI X.1 0 40), (p4_2, arI X.1 0 40)]) rfl ?_
  refine cj_iinc (j := 0) (v := 5) hx (by rw [hnL]; decide) dX2_init_44 rfl rfl rfl ?_
  refine cj_goto (tgt := 25) hx dX2_init_47 (by decide) ?_
  refine cj_iload_n (j := 0) hx dX2_init_25 rfl ?_
  refine cj_bipush (v := 10) hx dX2_init_26 rfl ?_
  refine cj_ge_no (tgt := 50) hx dX2_init_28 (by decide) (by decide) ?_
  refine cj_aload_n (j := 1) hx dX2_init_31 rfl ?_
  refine cj_get (q0 := 0) hx flX2_11 dX2_init_32 rfl rfl ?_
  refine cj_iload_n (j := 0) hx dX2_init_35 rfl ?_
  refine cj_new (N := 4) hx nwX2_9 rfl dX2_init_36 ⟨by omega, by omega⟩ (fun p5 => ?_)
  refine CJ.eq (ws' := [(a, .inr (4, [.ref q7, .int 0, .int 0])), (q7, .inl (X.1.2 5, 10, .inr (.inr (.inr (.inr (va_up (va_up (va_up (va_up (va_up (fun _ => none) 0 (some p0)) 1 (some p1)) 2 (some p2)) 3 (some p3)) 4 (some p4))))))), (p0, .inr (8, [.ref p0_0, .ref p0_1, .ref p0_2, .int 0])), (p0_0, arI X.1 0 40), (p0_1, arI X.1 0 40), (p0_2, arI X.1 0 40), (p1, .inr (8, [.ref p1_0, .ref p1_1, .ref p1_2, .int 0])), (p1_0, arI X.1 0 40), (p1_1, arI X.1 0 40), (p1_2, arI X.1 0 40), (p2, .inr (8, [.ref p2_0, .ref p2_1, .ref p2_2, .int 0])), (p2_0, arI X.1 0 40), (p2_1, arI X.1 0 40), (p2_2, arI X.1 0 40), (p3, .inr (8, [.ref p3_0, .ref p3_1, .ref p3_2, .int 0])), (p3_0, arI X.1 0 40), (p3_1, arI X.1 0 40), (p3_2, arI X.1 0 40), (p4, .inr (8, [.ref p4_0, .ref p4_1, .ref p4_2, .int 0])), (p4_0, arI X.1 0 40), (p4_1, arI X.1 0 40), (p4_2, arI X.1 0 40), (p5, .inr (8, [.null, .null, .null, .int 0]))]) rfl ?_
  refine cj_dup hx dX2_init_39 ?_
  refine cj_callN (w0 := [(a, .inr (4, [.ref q7, .int 0, .int 0])), (q7, .inl (X.1.2 5, 10, .inr (.inr (.inr (.inr (va_up (va_up (va_up (va_up (va_up (fun _ => none) 0 (some p0)) 1 (some p1)) 2 (some p2)) 3 (some p3)) 4 (some p4))))))), (p0, .inr (8, [.ref p0_0, .ref p0_1, .ref p0_2, .int 0])), (p0_0, arI X.1 0 40), (p0_1, arI X.1 0 40), (p0_2, arI X.1 0 40), (p1, .inr (8, [.ref p1_0, .ref p1_1, .ref p1_2, .int 0])), (p1_0, arI X.1 0 40), (p1_1, arI X.1 0 40), (p1_2, arI X.1 0 40), (p2, .inr (8, [.ref p2_0, .ref p2_1, .ref p2_2, .int 0])), (p2_0, arI X.1 0 40), (p2_1, arI X.1 0 40), (p2_2, arI X.1 0 40), (p3, .inr (8, [.ref p3_0, .ref p3_1, .ref p3_2, .int 0])), (p3_0, arI X.1 0 40), (p3_1, arI X.1 0 40), (p3_2, arI X.1 0 40), (p4, .inr (8, [.ref p4_0, .ref p4_1, .ref p4_2, .int 0])), (p4_0, arI X.1 0 40), (p4_1, arI X.1 0 40), (p4_2, arI X.1 0 40)]) hx (c_X6_init _ _ p5) (List.mem_of_getElem? (i := 1) rfl) mwX6_ctor dX2_init_40 rfl rfl (Nat.le_of_ble_eq_true rfl) (by decide) ⟨by omega, by omega⟩ rfl (fun w hw => ?_)
  obtain ⟨p5_0, p5_1, p5_2, rfl⟩ := hw
  refine CJ.eq (ws' := [(a, .inr (4, [.ref q7, .int 0, .int 0])), (q7, .inl (X.1.2 5, 10, .inr (.inr (.inr (.inr (va_up (va_up (va_up (va_up (va_up (fun _ => none) 0 (some p0)) 1 (some p1)) 2 (some p2)) 3 (some p3)) 4 (some p4))))))), (p0, .inr (8, [.ref p0_0, .ref p0_1, .ref p0_2, .int 0])), (p0_0, arI X.1 0 40), (p0_1, arI X.1 0 40), (p0_2, arI X.1 0 40), (p1, .inr (8, [.ref p1_0, .ref p1_1, .ref p1_2, .int 0])), (p1_0, arI X.1 0 40), (p1_1, arI X.1 0 40), (p1_2, arI X.1 0 40), (p2, .inr (8, [.ref p2_0, .ref p2_1, .ref p2_2, .int 0])), (p2_0, arI X.1 0 40), (p2_1, arI X.1 0 40), (p2_2, arI X.1 0 40), (p3, .inr (8, [.ref p3_0, .ref p3_1, .ref p3_2, .int 0])), (p3_0, arI X.1 0 40), (p3_1, arI X.1 0 40), (p3_2, arI X.1 0 40), (p4, .inr (8, [.ref p4_0, .ref p4_1, .ref p4_2, .int 0])), (p4_0, arI X.1 0 40), (p4_1, arI X.1 0 40), (p4_2, arI X.1 0 40), (p5, .inr (8, [.ref p5_0, .ref p5_1, .ref p5_2, .int 0])), (p5_0, arI X.1 0 40), (p5_1, arI X.1 0 40), (p5_2, arI X.1 0 40)]) rfl ?_
  refine cj_aast (q0 := 1) (qk := 22) hx dX2_init_43 rfl rfl (by unfold vp_in; decide) ?_
  refine CJ.eq (ws' := [(a, .inr (4, [.ref q7, .int 0, .int 0])), (q7, .inl (X.1.2 5, 10, .inr (.inr (.inr (.inr (va_up (va_up (va_up (va_up (va_up (va_up (fun _ => none) 0 (some p0)) 1 (some p1)) 2 (some p2)) 3 (some p3)) 4 (some p4)) 5 (some p5))))))), (p0, .inr (8, [.ref p0_0, .ref p0_1, .ref p0_2, .int 0])), (p0_0, arI X.1 0 40), (p0_1, arI X.1 0 40), (p0_2, arI X.1 0 40), (p1, .inr (8, [.ref p1_0, .ref p1_1, .ref p1_2, .int 0])), (p1_0, arI X.1 0 40), (p1_1, arI X.1 0 40), (p1_2, arI X.1 0 40), (p2, .inr (8, [.ref p2_0, .ref p2_1, .ref p2_2, .int 0])), (p2_0, arI X.1 0 40), (p2_1, arI X.1 0 40), (p2_2, arI X.1 0 40), (p3, .inr (8, [.ref p3_0, .ref p3_1, .ref p3_2, .int 0])), (p3_0, arI X.1 0 40), (p3_1, arI X.1 0 40), (p3_2, arI X.1 0 40), (p4, .inr (8, [.ref p4_0, .ref p4_1, .ref p4_2, .int 0])), (p4_0, arI X.1 0 40), (p4_1, arI X.1 0 40), (p4_2, arI X.1 0 40), (p5, .inr (8, [.ref p5_0, .ref p5_1, .ref p5_2, .int 0])), (p5_0, arI X.1 0 40), (p5_1, arI X.1 0 40), (p5_2, arI X.1 0 40)]) rfl ?_
  refine cj_iinc (j := 0) (v := 6) hx (by rw [hnL]; decide) dX2_init_44 rfl rfl rfl ?_
  refine cj_goto (tgt := 25) hx dX2_init_47 (by decide) ?_
  refine cj_iload_n (j := 0) hx dX2_init_25 rfl ?_
  refine cj_bipush (v := 10) hx dX2_init_26 rfl ?_
  refine cj_ge_no (tgt := 50) hx dX2_init_28 (by decide) (by decide) ?_
  refine cj_aload_n (j := 1) hx dX2_init_31 rfl ?_
  refine cj_get (q0 := 0) hx flX2_11 dX2_init_32 rfl rfl ?_
  refine cj_iload_n (j := 0) hx dX2_init_35 rfl ?_
  refine cj_new (N := 4) hx nwX2_9 rfl dX2_init_36 ⟨by omega, by omega⟩ (fun p6 => ?_)
  refine CJ.eq (ws' := [(a, .inr (4, [.ref q7, .int 0, .int 0])), (q7, .inl (X.1.2 5, 10, .inr (.inr (.inr (.inr (va_up (va_up (va_up (va_up (va_up (va_up (fun _ => none) 0 (some p0)) 1 (some p1)) 2 (some p2)) 3 (some p3)) 4 (some p4)) 5 (some p5))))))), (p0, .inr (8, [.ref p0_0, .ref p0_1, .ref p0_2, .int 0])), (p0_0, arI X.1 0 40), (p0_1, arI X.1 0 40), (p0_2, arI X.1 0 40), (p1, .inr (8, [.ref p1_0, .ref p1_1, .ref p1_2, .int 0])), (p1_0, arI X.1 0 40), (p1_1, arI X.1 0 40), (p1_2, arI X.1 0 40), (p2, .inr (8, [.ref p2_0, .ref p2_1, .ref p2_2, .int 0])), (p2_0, arI X.1 0 40), (p2_1, arI X.1 0 40), (p2_2, arI X.1 0 40), (p3, .inr (8, [.ref p3_0, .ref p3_1, .ref p3_2, .int 0])), (p3_0, arI X.1 0 40), (p3_1, arI X.1 0 40), (p3_2, arI X.1 0 40), (p4, .inr (8, [.ref p4_0, .ref p4_1, .ref p4_2, .int 0])), (p4_0, arI X.1 0 40), (p4_1, arI X.1 0 40), (p4_2, arI X.1 0 40), (p5, .inr (8, [.ref p5_0, .ref p5_1, .ref p5_2, .int 0])), (p5_0, arI X.1 0 40), (p5_1, arI X.1 0 40), (p5_2, arI X.1 0 40), (p6, .inr (8, [.null, .null, .null, .int 0]))]) rfl ?_
  refine cj_dup hx dX2_init_39 ?_
  refine cj_callN (w0 := [(a, .inr (4, [.ref q7, .int 0, .int 0])), (q7, .inl (X.1.2 5, 10, .inr (.inr (.inr (.inr (va_up (va_up (va_up (va_up (va_up (va_up (fun _ => none) 0 (some p0)) 1 (some p1)) 2 (some p2)) 3 (some p3)) 4 (some p4)) 5 (some p5))))))), (p0, .inr (8, [.ref p0_0, .ref p0_1, .ref p0_2, .int 0])), (p0_0, arI X.1 0 40), (p0_1, arI X.1 0 40), (p0_2, arI X.1 0 40), (p1, .inr (8, [.ref p1_0, .ref p1_1, .ref p1_2, .int 0])), (p1_0, arI X.1 0 40), (p1_1, arI X.1 0 40), (p1_2, arI X.1 0 40), (p2, .inr (8, [.ref p2_0, .ref p2_1, .ref p2_2, .int 0])), (p2_0, arI X.1 0 40), (p2_1, arI X.1 0 40), (p2_2, arI X.1 0 40), (p3, .inr (8, [.ref p3_0, .ref p3_1, .ref p3_2, .int 0])), (p3_0, arI X.1 0 40), (p3_1, arI X.1 0 40), (p3_2, arI X.1 0 40), (p4, .inr (8, [.ref p4_0, .ref p4_1, .ref p4_2, .int 0])), (p4_0, arI X.1 0 40), (p4_1, arI X.1 0 40), (p4_2, arI X.1 0 40), (p5, .inr (8, [.ref p5_0, .ref p5_1, .ref p5_2, .int 0])), (p5_0, arI X.1 0 40), (p5_1, arI X.1 0 40), (p5_2, arI X.1 0 40)]) hx (c_X6_init _ _ p6) (List.mem_of_getElem? (i := 1) rfl) mwX6_ctor dX2_init_40 rfl rfl (Nat.le_of_ble_eq_true rfl) (by decide) ⟨by omega, by omega⟩ rfl (fun w hw => ?_)
  obtain ⟨p6_0, p6_1, p6_2, rfl⟩ := hw
  refine CJ.eq (ws' := [(a, .inr (4, [.ref q7, .int 0, .int 0])), (q7, .inl (X.1.2 5, 10, .inr (.inr (.inr (.inr (va_up (va_up (va_up (va_up (va_up (va_up (fun _ => none) 0 (some p0)) 1 (some p1)) 2 (some p2)) 3 (some p3)) 4 (some p4)) 5 (some p5))))))), (p0, .inr (8, [.ref p0_0, .ref p0_1, .ref p0_2, .int 0])), (p0_0, arI X.1 0 40), (p0_1, arI X.1 0 40), (p0_2, arI X.1 0 40), (p1, .inr (8, [.ref p1_0, .ref p1_1, .ref p1_2, .int 0])), (p1_0, arI X.1 0 40), (p1_1, arI X.1 0 40), (p1_2, arI X.1 0 40), (p2, .inr (8, [.ref p2_0, .ref p2_1, .ref p2_2, .int 0])), (p2_0, arI X.1 0 40), (p2_1, arI X.1 0 40), (p2_2, arI X.1 0 40), (p3, .inr (8, [.ref p3_0, .ref p3_1, .ref p3_2, .int 0])), (p3_0, arI X.1 0 40), (p3_1, arI X.1 0 40), (p3_2, arI X.1 0 40), (p4, .inr (8, [.ref p4_0, .ref p4_1, .ref p4_2, .int 0])), (p4_0, arI X.1 0 40), (p4_1, arI X.1 0 40), (p4_2, arI X.1 0 40), (p5, .inr (8, [.ref p5_0, .ref p5_1, .ref p5_2, .int 0])), (p5_0, arI X.1 0 40), (p5_1, arI X.1 0 40), (p5_2, arI X.1 0 40), (p6, .inr (8, [.ref p6_0, .ref p6_1, .ref p6_2, .int 0])), (p6_0, arI X.1 0 40), (p6_1, arI X.1 0 40), (p6_2, arI X.1 0 40)]) rfl ?_
  refine cj_aast (q0 := 1) (qk := 26) hx dX2_init_43 rfl rfl (by unfold vp_in; decide) ?_
  refine CJ.eq (ws' := [(a, .inr (4, [.ref q7, .int 0, .int 0])), (q7, .inl (X.1.2 5, 10, .inr (.inr (.inr (.inr (va_up (va_up (va_up (va_up (va_up (va_up (va_up (fun _ => none) 0 (some p0)) 1 (some p1)) 2 (some p2)) 3 (some p3)) 4 (some p4)) 5 (some p5)) 6 (some p6))))))), (p0, .inr (8, [.ref p0_0, .ref p0_1, .ref p0_2, .int 0])), (p0_0, arI X.1 0 40), (p0_1, arI X.1 0 40), (p0_2, arI X.1 0 40), (p1, .inr (8, [.ref p1_0, .ref p1_1, .ref p1_2, .int 0])), (p1_0, arI X.1 0 40), (p1_1, arI X.1 0 40), (p1_2, arI X.1 0 40), (p2, .inr (8, [.ref p2_0, .ref p2_1, .ref p2_2, .int 0])), (p2_0, arI X.1 0 40), (p2_1, arI X.1 0 40), (p2_2, arI X.1 0 40), (p3, .inr (8, [.ref p3_0, .ref p3_1, .ref p3_2, .int 0])), (p3_0, arI X.1 0 40), (p3_1, arI X.1 0 40), (p3_2, arI X.1 0 40), (p4, .inr (8, [.ref p4_0, .ref p4_1, .ref p4_2, .int 0])), (p4_0, arI X.1 0 40), (p4_1, arI X.1 0 40), (p4_2, arI X.1 0 40), (p5, .inr (8, [.ref p5_0, .ref p5_1, .ref p5_2, .int 0])), (p5_0, arI X.1 0 40), (p5_1, arI X.1 0 40), (p5_2, arI X.1 0 40), (p6, .inr (8, [.ref p6_0, .ref p6_1, .ref p6_2, .int 0])), (p6_0, arI X.1 0 40), (p6_1, arI X.1 0 40), (p6_2, arI X.1 0 40)]) rfl ?_
  refine cj_iinc (j := 0) (v := 7) hx (by rw [hnL]; decide) dX2_init_44 rfl rfl rfl ?_
  refine cj_goto (tgt := 25) hx dX2_init_47 (by decide) ?_
  refine cj_iload_n (j := 0) hx dX2_init_25 rfl ?_
  refine cj_bipush (v := 10) hx dX2_init_26 rfl ?_
  refine cj_ge_no (tgt := 50) hx dX2_init_28 (by decide) (by decide) ?_
  refine cj_aload_n (j := 1) hx dX2_init_31 rfl ?_
  refine cj_get (q0 := 0) hx flX2_11 dX2_init_32 rfl rfl ?_
  refine cj_iload_n (j := 0) hx dX2_init_35 rfl ?_
  refine cj_new (N := 4) hx nwX2_9 rfl dX2_init_36 ⟨by omega, by omega⟩ (fun p7 => ?_)
  refine CJ.eq (ws' := [(a, .inr (4, [.ref q7, .int 0, .int 0])), (q7, .inl (X.1.2 5, 10, .inr (.inr (.inr (.inr (va_up (va_up (va_up (va_up (va_up (va_up (va_up (fun _ => none) 0 (some p0)) 1 (some p1)) 2 (some p2)) 3 (some p3)) 4 (some p4)) 5 (some p5)) 6 (some p6))))))), (p0, .inr (8, [.ref p0_0, .ref p0_1, .ref p0_2, .int 0])), (p0_0, arI X.1 0 40), (p0_1, arI X.1 0 40), (p0_2, arI X.1 0 40), (p1, .inr (8, [.ref p1_0, .ref p1_1, .ref p1_2, .int 0])), (p1_0, arI X.1 0 40), (p1_1, arI X.1 0 40), (p1_2, arI X.1 0 40), (p2, .inr (8, [.ref p2_0, .ref p2_1, .ref p2_2, .int 0])), (p2_0, arI X.1 0 40), (p2_1, arI X.1 0 40), (p2_2, arI X.1 0 40), (p3, .inr (8, [.ref p3_0, .ref p3_1, .ref p3_2, .int 0])), (p3_0, arI X.1 0 40), (p3_1, arI X.1 0 40), (p3_2, arI X.1 0 40), (p4, .inr (8, [.ref p4_0, .ref p4_1, .ref p4_2, .int 0])), (p4_0, arI X.1 0 40), (p4_1, arI X.1 0 40), (p4_2, arI X.1 0 40), (p5, .inr (8, [.ref p5_0, .ref p5_1, .ref p5_2, .int 0])), (p5_0, arI X.1 0 40), (p5_1, arI X.1 0 40), (p5_2, arI X.1 0 40), (p6, .inr (8, [.ref p6_0, .ref p6_1, .ref p6_2, .int 0])), (p6_0, arI X.1 0 40), (p6_1, arI X.1 0 40), (p6_2, arI X.1 0 40), (p7, .inr (8, [.null, .null, .null, .int 0]))]) rfl ?_
  refine cj_dup hx dX2_init_39 ?_
  refine cj_callN (w0 := [(a, .inr (4, [.ref q7, .int 0, .int 0])), (q7, .inl (X.1.2 5, 10, .inr (.inr (.inr (.inr (va_up (va_up (va_up (va_up (va_up (va_up (va_up (fun _ => none) 0 (some p0)) 1 (some p1)) 2 (some p2)) 3 (some p3)) 4 (some p4)) 5 (some p5)) 6 (some p6))))))), (p0, .inr (8, [.ref p0_0, .ref p0_1, .ref p0_2, .int 0])), (p0_0, arI X.1 0 40), (p0_1, arI X.1 0 40), (p0_2, arI X.1 0 40), (p1, .inr (8, [.ref p1_0, .ref p1_1, .ref p1_2, .int 0])), (p1_0, arI X.1 0 40), (p1_1, arI X.1 0 40), (p1_2, arI X.1 0 40), (p2, .inr (8, [.ref p2_0, .ref p2_1, .ref p2_2, .int 0])), (p2_0, arI X.1 0 40), (p2_1, arI X.1 0 40), (p2_2, arI X.1 0 40), (p3, .inr (8, [.ref p3_0, .ref p3_1, .ref p3_2, .int 0])), (p3_0, arI X.1 0 40), (p3_1, arI X.1 0 40), (p3_2, arI X.1 0 40), (p4, .inr (8, [.ref p4_0, .ref p4_1, .ref p4_2, .int 0])), (p4_0, arI X.1 0 40), (p4_1, arI X.1 0 40), (p4_2, arI X.1 0 40), (p5, .inr (8, [.ref p5_0, .ref p5_1, .ref p5_2, .int 0])), (p5_0, arI X.1 0 40), (p5_1, arI X.1 0 40), (p5_2, arI X.1 0 40), (p6, .inr (8, [.ref p6_0, .ref p6_1, .ref p6_2, .int 0])), (p6_0, arI X.1 0 40), (p6_1, arI X.1 0 40), (p6_2, arI X.1 0 40)]) hx (c_X6_init _ _ p7) (List.mem_of_getElem? (i := 1) rfl) mwX6_ctor dX2_init_40 rfl rfl (Nat.le_of_ble_eq_true rfl) (by decide) ⟨by omega, by omega⟩ rfl (fun w hw => ?_)
  obtain ⟨p7_0, p7_1, p7_2, rfl⟩ := hw
  refine CJ.eq (ws' := [(a, .inr (4, [.ref q7, .int 0, .int 0])), (q7, .inl (X.1.2 5, 10, .inr (.inr (.inr (.inr (va_up (va_up (va_up (va_up (va_up (va_up (va_up (fun _ => none) 0 (some p0)) 1 (some p1)) 2 (some p2)) 3 (some p3)) 4 (some p4)) 5 (some p5)) 6 (some p6))))))), (p0, .inr (8, [.ref p0_0, .ref p0_1, .ref p0_2, .int 0])), (p0_0, arI X.1 0 40), (p0_1, arI X.1 0 40), (p0_2, arI X.1 0 40), (p1, .inr (8, [.ref p1_0, .ref p1_1, .ref p1_2, .int 0])), (p1_0, arI X.1 0 40), (p1_1, arI X.1 0 40), (p1_2, arI X.1 0 40), (p2, .inr (8, [.ref p2_0, .ref p2_1, .ref p2_2, .int 0])), (p2_0, arI X.1 0 40), (p2_1, arI X.1 0 40), (p2_2, arI X.1 0 40), (p3, .inr (8, [.ref p3_0, .ref p3_1, .ref p3_2, .int 0])), (p3_0, arI X.1 0 40), (p3_1, arI X.1 0 40), (p3_2, arI X.1 0 40), (p4, .inr (8, [.ref p4_0, .ref p4_1, .ref p4_2, .int 0])), (p4_0, arI X.1 0 40), (p4_1, arI X.1 0 40), (p4_2, arI X.1 0 40), (p5, .inr (8, [.ref p5_0, .ref p5_1, .ref p5_2, .int 0])), (p5_0, arI X.1 0 40), (p5_1, arI X.1 0 40), (p5_2, arI X.1 0 40), (p6, .inr (8, [.ref p6_0, .ref p6_1, .ref p6_2, .int 0])), (p6_0, arI X.1 0 40), (p6_1, arI X.1 0 40), (p6_2, arI X.1 0 40), (p7, .inr (8, [.ref p7_0, .ref p7_1, .ref p7_2, .int 0])), (p7_0, arI X.1 0 40), (p7_1, arI X.1 0 40), (p7_2, arI X.1 0 40)]) rfl ?_
  refine cj_aast (q0 := 1) (qk := 30) hx dX2_init_43 rfl rfl (by unfold vp_in; decide) ?_
  refine CJ.eq (ws' := [(a, .inr (4, [.ref q7, .int 0, .int 0])), (q7, .inl (X.1.2 5, 10, .inr (.inr (.inr (.inr (va_up (va_up (va_up (va_up (va_up (va_up (va_up (va_up (fun _ => none) 0 (some p0)) 1 (some p1)) 2 (some p2)) 3 (some p3)) 4 (some p4)) 5 (some p5)) 6 (some p6)) 7 (some p7))))))), (p0, .inr (8, [.ref p0_0, .ref p0_1, .ref p0_2, .int 0])), (p0_0, arI X.1 0 40), (p0_1, arI X.1 0 40), (p0_2, arI X.1 0 40), (p1, .inr (8, [.ref p1_0, .ref p1_1, .ref p1_2, .int 0])), (p1_0, arI X.1 0 40), (p1_1, arI X.1 0 40), (p1_2, arI X.1 0 40), (p2, .inr (8, [.ref p2_0, .ref p2_1, .ref p2_2, .int 0])), (p2_0, arI X.1 0 40), (p2_1, arI X.1 0 40), (p2_2, arI X.1 0 40), (p3, .inr (8, [.ref p3_0, .ref p3_1, .ref p3_2, .int 0])), (p3_0, arI X.1 0 40), (p3_1, arI X.1 0 40), (p3_2, arI X.1 0 40), (p4, .inr (8, [.ref p4_0, .ref p4_1, .ref p4_2, .int 0])), (p4_0, arI X.1 0 40), (p4_1, arI X.1 0 40), (p4_2, arI X.1 0 40), (p5, .inr (8, [.ref p5_0, .ref p5_1, .ref p5_2, .int 0])), (p5_0, arI X.1 0 40), (p5_1, arI X.1 0 40), (p5_2, arI X.1 0 40), (p6, .inr (8, [.ref p6_0, .ref p6_1, .ref p6_2, .int 0])), (p6_0, arI X.1 0 40), (p6_1, arI X.1 0 40), (p6_2, arI X.1 0 40), (p7, .inr (8, [.ref p7_0, .ref p7_1, .ref p7_2, .int 0])), (p7_0, arI X.1 0 40), (p7_1, arI X.1 0 40), (p7_2, arI X.1 0 40)]) rfl ?_
  refine cj_iinc (j := 0) (v := 8) hx (by rw [hnL]; decide) dX2_init_44 rfl rfl rfl ?_
  refine cj_goto (tgt := 25) hx dX2_init_47 (by decide) ?_
  refine cj_iload_n (j := 0) hx dX2_init_25 rfl ?_
  refine cj_bipush (v := 10) hx dX2_init_26 rfl ?_
  refine cj_ge_no (tgt := 50) hx dX2_init_28 (by decide) (by decide) ?_
  refine cj_aload_n (j := 1) hx dX2_init_31 rfl ?_
  refine cj_get (q0 := 0) hx flX2_11 dX2_init_32 rfl rfl ?_
  refine cj_iload_n (j := 0) hx dX2_init_35 rfl ?_
  refine cj_new (N := 4) hx nwX2_9 rfl dX2_init_36 ⟨by omega, by omega⟩ (fun p8 => ?_)
  refine CJ.eq (ws' := [(a, .inr (4, [.ref q7, .int 0, .int 0])), (q7, .inl (X.1.2 5, 10, .inr (.inr (.inr (.inr (va_up (va_up (va_up (va_up (va_up (va_up (va_up (va_up (fun _ => none) 0 (some p0)) 1 (some p1)) 2 (some p2)) 3 (some p3)) 4 (some p4)) 5 (some p5)) 6 (some p6)) 7 (some p7))))))), (p0, .inr (8, [.ref p0_0, .ref p0_1, .ref p0_2, .int 0])), (p0_0, arI X.1 0 40), (p0_1, arI X.1 0 40), (p0_2, arI X.1 0 40), (p1, .inr (8, [.ref p1_0, .ref p1_1, .ref p1_2, .int 0])), (p1_0, arI X.1 0 40), (p1_1, arI X.1 0 40), (p1_2, arI X.1 0 40), (p2, .inr (8, [.ref p2_0, .ref p2_1, .ref p2_2, .int 0])), (p2_0, arI X.1 0 40), (p2_1, arI X.1 0 40), (p2_2, arI X.1 0 40), (p3, .inr (8, [.ref p3_0, .ref p3_1, .ref p3_2, .int 0])), (p3_0, arI X.1 0 40), (p3_1, arI X.1 0 40), (p3_2, arI X.1 0 40), (p4, .inr (8, [.ref p4_0, .ref p4_1, .ref p4_2, .int 0])), (p4_0, arI X.1 0 40), (p4_1, arI X.1 0 40), (p4_2, arI X.1 0 40), (p5, .inr (8, [.ref p5_0, .ref p5_1, .ref p5_2, .int 0])), (p5_0, arI X.1 0 40), (p5_1, arI X.1 0 40), (p5_2, arI X.1 0 40), (p6, .inr (8, [.ref p6_0, .ref p6_1, .ref p6_2, .int 0])), (p6_0, arI X.1 0 40), (p6_1, arI X.1 0 40), (p6_2, arI X.1 0 40), (p7, .inr (8, [.ref p7_0, .ref p7_1, .ref p7_2, .int 0])), (p7_0, arI X.1 0 40), (p7_1, arI X.1 0 40), (p7_2, arI X.1 0 40), (p8, .inr (8, [.null, .null, .null, .int 0]))]) rfl ?_
  refine cj_dup hx dX2_init_39 ?_
  refine cj_callN (w0 := [(a, .inr (4, [.ref q7, .int 0, .int 0])), (q7, .inl (X.1.2 5, 10, .inr (.inr (.inr (.inr (va_up (va_up (va_up (va_up (va_up (va_up (va_up (va_up (fun _ => none) 0 (some p0)) 1 (some p1)) 2 (some p2)) 3 (some p3)) 4 (some p4)) 5 (some p5)) 6 (some p6)) 7 (some p7))))))), (p0, .inr (8, [.ref p0_0, .ref p0_1, .ref p0_2, .int 0])), (p0_0, arI X.1 0 40), (p0_1, arI X.1 0 40), (p0_2, arI X.1 0 40), (p1, .inr (8, [.ref p1_0, .ref p1_1, .ref p1_2, .int 0])), (p1_0, arI X.1 0 40), (p1_1, arI X.1 0 40), (p1_2, arI X.1 0 40), (p2, .inr (8, [.ref p2_0, .ref p2_1, .ref p2_2, .int 0])), (p2_0, arI X.1 0 40), (p2_1, arI X.1 0 40), (p2_2, arI X.1 0 40), (p3, .inr (8, [.ref p3_0, .ref p3_1, .ref p3_2, .int 0])), (p3_0, arI X.1 0 40), (p3_1, arI X.1 0 40), (p3_2, arI X.1 0 40), (p4, .inr (8, [.ref p4_0, .ref p4_1, .ref p4_2, .int 0])), (p4_0, arI X.1 0 40), (p4_1, arI X.1 0 40), (p4_2, arI X.1 0 40), (p5, .inr (8, [.ref p5_0, .ref p5_1, .ref p5_2, .int 0])), (p5_0, arI X.1 0 40), (p5_1, arI X.1 0 40), (p5_2, arI X.1 0 40), (p6, .inr (8, [.ref p6_0, .ref p6_1, .ref p6_2, .int 0])), (p6_0, arI X.1 0 40), (p6_1, arI X.1 0 40), (p6_2, arI X.1 0 40), (p7, .inr (8, [.ref p7_0, .ref p7_1, .ref p7_2, .int 0])), (p7_0, arI X.1 0 40), (p7_1, arI X.1 0 40), (p7_2, arI X.1 0 40)]) hx (c_X6_init _ _ p8) (List.mem_of_getElem? (i := 1) rfl) mwX6_ctor dX2_init_40 rfl rfl (Nat.le_of_ble_eq_true rfl) (by decide) ⟨by omega, by omega⟩ rfl (fun w hw => ?_)
  obtain ⟨p8_0, p8_1, p8_2, rfl⟩ := hw
  refine CJ.eq (ws' := [(a, .inr (4, [.ref q7, .int 0, .int 0])), (q7, .inl (X.1.2 5, 10, .inr (.inr (.inr (.inr (va_up (va_up (va_up (va_up (va_up (va_up (va_up (va_up (fun _ => none) 0 (some p0)) 1 (some p1)) 2 (some p2)) 3 (some p3)) 4 (some p4)) 5 (some p5)) 6 (some p6)) 7 (some p7))))))), (p0, .inr (8, [.ref p0_0, .ref p0_1, .ref p0_2, .int 0])), (p0_0, arI X.1 0 40), (p0_1, arI X.1 0 40), (p0_2, arI X.1 0 40), (p1, .inr (8, [.ref p1_0, .ref p1_1, .ref p1_2, .int 0])), (p1_0, arI X.1 0 40), (p1_1, arI X.1 0 40), (p1_2, arI X.1 0 40), (p2, .inr (8, [.ref p2_0, .ref p2_1, .ref p2_2, .int 0])), (p2_0, arI X.1 0 40), (p2_1, arI X.1 0 40), (p2_2, arI X.1 0 40), (p3, .inr (8, [.ref p3_0, .ref p3_1, .ref p3_2, .int 0])), (p3_0, arI X.1 0 40), (p3_1, arI X.1 0 40), (p3_2, arI X.1 0 40), (p4, .inr (8, [.ref p4_0, .ref p4_1, .ref p4_2, .int 0])), (p4_0, arI X.1 0 40), (p4_1, arI X.1 0 40), (p4_2, arI X.1 0 40), (p5, .inr (8, [.ref p5_0, .ref p5_1, .ref p5_2, .int 0])), (p5_0, arI X.1 0 40), (p5_1, arI X.1 0 40), (p5_2, arI X.1 0 40), (p6, .inr (8, [.ref p6_0, .ref p6_1, .ref p6_2, .int 0])), (p6_0, arI X.1 0 40), (p6_1, arI X.1 0 40), (p6_2, arI X.1 0 40), (p7, .inr (8, [.ref p7_0, .ref p7_1, .ref p7_2, .int 0])), (p7_0, arI X.1 0 40), (p7_1, arI X.1 0 40), (p7_2, arI X.1 0 40), (p8, .inr (8, [.ref p8_0, .ref p8_1, .ref p8_2, .int 0])), (p8_0, arI X.1 0 40), (p8_1, arI X.1 0 40), (p8_2, arI X.1 0 40)]) rfl ?_
  refine cj_aast (q0 := 1) (qk := 34) hx dX2_init_43 rfl rfl (by unfold vp_in; decide) ?_
  refine CJ.eq (ws' := [(a, .inr (4, [.ref q7, .int 0, .int 0])), (q7, .inl (X.1.2 5, 10, .inr (.inr (.inr (.inr (va_up (va_up (va_up (va_up (va_up (va_up (va_up (va_up (va_up (fun _ => none) 0 (some p0)) 1 (some p1)) 2 (some p2)) 3 (some p3)) 4 (some p4)) 5 (some p5)) 6 (some p6)) 7 (some p7)) 8 (some p8))))))), (p0, .inr (8, [.ref p0_0, .ref p0_1, .ref p0_2, .int 0])), (p0_0, arI X.1 0 40), (p0_1, arI X.1 0 40), (p0_2, arI X.1 0 40), (p1, .inr (8, [.ref p1_0, .ref p1_1, .ref p1_2, .int 0])), (p1_0, arI X.1 0 40), (p1_1, arI X.1 0 40), (p1_2, arI X.1 0 40), (p2, .inr (8, [.ref p2_0, .ref p2_1, .ref p2_2, .int 0])), (p2_0, arI X.1 0 40), (p2_1, arI X.1 0 40), (p2_2, arI X.1 0 40), (p3, .inr (8, [.ref p3_0, .ref p3_1, .ref p3_2, .int 0])), (p3_0, arI X.1 0 40), (p3_1, arI X.1 0 40), (p3_2, arI X.1 0 40), (p4, .inr (8, [.ref p4_0, .ref p4_1, .ref p4_2, .int 0])), (p4_0, arI X.1 0 40), (p4_1, arI X.1 0 40), (p4_2, arI X.1 0 40), (p5, .inr (8, [.ref p5_0, .ref p5_1, .ref p5_2, .int 0])), (p5_0, arI X.1 0 40), (p5_1, arI X.1 0 40), (p5_2, arI X.1 0 40), (p6, .inr (8, [.ref p6_0, .ref p6_1, .ref p6_2, .int 0])), (p6_0, arI X.1 0 40), (p6_1, arI X.1 0 40), (p6_2, arI X.1 0 40), (p7, .inr (8, [.ref p7_0, .ref p7_1, .ref p7_2, .int 0])), (p7_0, arI X.1 0 40), (p7_1, arI X.1 0 40), (p7_2, arI X.1 0 40), (p8, .inr (8, [.ref p8_0, .ref p8_1, .ref p8_2, .int 0])), (p8_0, arI X.1 0 40), (p8_1, arI X.1 0 40), (p8_2, arI X.1 0 40)]) rfl ?_
  refine cj_iinc (j := 0) (v := 9) hx (by rw [hnL]; decide) dX2_init_44 rfl rfl rfl ?_
  refine cj_goto (tgt := 25) hx dX2_init_47 (by decide) ?_
  refine cj_iload_n (j := 0) hx dX2_init_25 rfl ?_
  refine cj_bipush (v := 10) hx dX2_init_26 rfl ?_
  refine cj_ge_no (tgt := 50) hx dX2_init_28 (by decide) (by decide) ?_
  refine cj_aload_n (j := 1) hx dX2_init_31 rfl ?_
  refine cj_get (q0 := 0) hx flX2_11 dX2_init_32 rfl rfl ?_
  refine cj_iload_n (j := 0) hx dX2_init_35 rfl ?_
  refine cj_new (N := 4) hx nwX2_9 rfl dX2_init_36 ⟨by omega, by omega⟩ (fun p9 => ?_)
  refine CJ.eq (ws' := [(a, .inr (4, [.ref q7, .int 0, .int 0])), (q7, .inl (X.1.2 5, 10, .inr (.inr (.inr (.inr (va_up (va_up (va_up (va_up (va_up (va_up (va_up (va_up (va_up (fun _ => none) 0 (some p0)) 1 (some p1)) 2 (some p2)) 3 (some p3)) 4 (some p4)) 5 (some p5)) 6 (some p6)) 7 (some p7)) 8 (some p8))))))), (p0, .inr (8, [.ref p0_0, .ref p0_1, .ref p0_2, .int 0])), (p0_0, arI X.1 0 40), (p0_1, arI X.1 0 40), (p0_2, arI X.1 0 40), (p1, .inr (8, [.ref p1_0, .ref p1_1, .ref p1_2, .int 0])), (p1_0, arI X.1 0 40), (p1_1, arI X.1 0 40), (p1_2, arI X.1 0 40), (p2, .inr (8, [.ref p2_0, .ref p2_1, .ref p2_2, .int 0])), (p2_0, arI X.1 0 40), (p2_1, arI X.1 0 40), (p2_2, arI X.1 0 40), (p3, .inr (8, [.ref p3_0, .ref p3_1, .ref p3_2, .int 0])), (p3_0, arI X.1 0 40), (p3_1, arI X.1 0 40), (p3_2, arI X.1 0 40), (p4, .inr (8, [.ref p4_0, .ref p4_1, .ref p4_2, .int 0])), (p4_0, arI X.1 0 40), (p4_1, arI X.1 0 40), (p4_2, arI X.1 0 40), (p5, .inr (8, [.ref p5_0, .ref p5_1, .ref p5_2, .int 0])), (p5_0, arI X.1 0 40), (p5_1, arI X.1 0 40), (p5_2, arI X.1 0 40), (p6, .inr (8, [.ref p6_0, .ref p6_1, .ref p6_2, .int 0])), (p6_0, arI X.1 0 40), (p6_1, arI X.1 0 40), (p6_2, arI X.1 0 40), (p7, .inr (8, [.ref p7_0, .ref p7_1, .ref p7_2, .int 0])), (p7_0, arI X.1 0 40), (p7_1, arI X.1 0 40), (p7_2, arI X.1 0 40), (p8, .inr (8, [.ref p8_0, .ref p8_1, .ref p8_2, .int 0])), (p8_0, arI X.1 0 40), (p8_1, arI X.1 0 40), (p8_2, arI X.1 0 40), (p9, .inr (8, [.null, .null, .null, .int 0]))]) rfl ?_
  refine cj_dup hx dX2_init_39 ?_
  refine cj_callN (w0 := [(a, .inr (4, [.ref q7, .int 0, .int 0])), (q7, .inl (X.1.2 5, 10, .inr (.inr (.inr (.inr (va_up (va_up (va_up (va_up (va_up (va_up (va_up (va_up (va_up (fun _ => none) 0 (some p0)) 1 (some p1)) 2 (some p2)) 3 (some p3)) 4 (some p4)) 5 (some p5)) 6 (some p6)) 7 (some p7)) 8 (some p8))))))), (p0, .inr (8, [.ref p0_0, .ref p0_1, .ref p0_2, .int 0])), (p0_0, arI X.1 0 40), (p0_1, arI X.1 0 40), (p0_2, arI X.1 0 40), (p1, .inr (8, [.ref p1_0, .ref p1_1, .ref p1_2, .int 0])), (p1_0, arI X.1 0 40), (p1_1, arI X.1 0 40), (p1_2, arI X.1 0 40), (p2, .inr (8, [.ref p2_0, .ref p2_1, .ref p2_2, .int 0])), (p2_0, arI X.1 0 40), (p2_1, arI X.1 0 40), (p2_2, arI X.1 0 40), (p3, .inr (8, [.ref p3_0, .ref p3_1, .ref p3_2, .int 0])), (p3_0, arI X.1 0 40), (p3_1, arI X.1 0 40), (p3_2, arI X.1 0 40), (p4, .inr (8, [.ref p4_0, .ref p4_1, .ref p4_2, .int 0])), (p4_0, arI X.1 0 40), (p4_1, arI X.1 0 40), (p4_2, arI X.1 0 40), (p5, .inr (8, [.ref p5_0, .ref p5_1, .ref p5_2, .int 0])), (p5_0, arI X.1 0 40), (p5_1, arI X.1 0 40), (p5_2, arI X.1 0 40), (p6, .inr (8, [.ref p6_0, .ref p6_1, .ref p6_2, .int 0])), (p6_0, arI X.1 0 40), (p6_1, arI X.1 0 40), (p6_2, arI X.1 0 40), (p7, .inr (8, [.ref p7_0, .ref p7_1, .ref p7_2, .int 0])), (p7_0, arI X.1 0 40), (p7_1, arI X.1 0 40), (p7_2, arI X.1 0 40), (p8, .inr (8, [.ref p8_0, .ref p8_1, .ref p8_2, .int 0])), (p8_0, arI X.1 0 40), (p8_1, arI X.1 0 40), (p8_2, arI X.1 0 40)]) hx (c_X6_init _ _ p9) (List.mem_of_getElem? (i := 1) rfl) mwX6_ctor dX2_init_40 rfl rfl (Nat.le_of_ble_eq_true rfl) (by decide) ⟨by omega, by omega⟩ rfl (fun w hw => ?_)
  obtain ⟨p9_0, p9_1, p9_2, rfl⟩ := hw
  refine CJ.eq (ws' := [(a, .inr (4, [.ref q7, .int 0, .int 0])), (q7, .inl (X.1.2 5, 10, .inr (.inr (.inr (.inr (va_up (va_up (va_up (va_up (va_up (va_up (va_up (va_up (va_up (fun _ => none) 0 (some p0)) 1 (some p1)) 2 (some p2)) 3 (some p3)) 4 (some p4)) 5 (some p5)) 6 (some p6)) 7 (some p7)) 8 (some p8))))))), (p0, .inr (8, [.ref p0_0, .ref p0_1, .ref p0_2, .int 0])), (p0_0, arI X.1 0 40), (p0_1, arI X.1 0 40), (p0_2, arI X.1 0 40), (p1, .inr (8, [.ref p1_0, .ref p1_1, .ref p1_2, .int 0])), (p1_0, arI X.1 0 40), (p1_1, arI X.1 0 40), (p1_2, arI X.1 0 40), (p2, .inr (8, [.ref p2_0, .ref p2_1, .ref p2_2, .int 0])), (p2_0, arI X.1 0 40), (p2_1, arI X.1 0 40), (p2_2, arI X.1 0 40), (p3, .inr (8, [.ref p3_0, .ref p3_1, .ref p3_2, .int 0])), (p3_0, arI X.1 0 40), (p3_1, arI X.1 0 40), (p3_2, arI X.1 0 40), (p4, .inr (8, [.ref p4_0, .ref p4_1, .ref p4_2, .int 0])), (p4_0, arI X.1 0 40), (p4_1, arI X.1 0 40), (p4_2, arI X.1 0 40), (p5, .inr (8, [.ref p5_0, .ref p5_1, .ref p5_2, .int 0])), (p5_0, arI X.1 0 40), (p5_1, arI X.1 0 40), (p5_2, arI X.1 0 40), (p6, .inr (8, [.ref p6_0, .ref p6_1, .ref p6_2, .int 0])), (p6_0, arI X.1 0 40), (p6_1, arI X.1 0 40), (p6_2, arI X.1 0 40), (p7, .inr (8, [.ref p7_0, .ref p7_1, .ref p7_2, .int 0])), (p7_0, arI X.1 0 40), (p7_1, arI X.1 0 40), (p7_2, arI X.1 0 40), (p8, .inr (8, [.ref p8_0, .ref p8_1, .ref p8_2, .int 0])), (p8_0, arI X.1 0 40), (p8_1, arI X.1 0 40), (p8_2, arI X.1 0 40), (p9, .inr (8, [.ref p9_0, .ref p9_1, .ref p9_2, .int 0])), (p9_0, arI X.1 0 40), (p9_1, arI X.1 0 40), (p9_2, arI X.1 0 40)]) rfl ?_
  refine cj_aast (q0 := 1) (qk := 38) hx dX2_init_43 rfl rfl (by unfold vp_in; decide) ?_
  refine CJ.eq (ws' := [(a, .inr (4, [.ref q7, .int 0, .int 0])), (q7, .inl (X.1.2 5, 10, .inr (.inr (.inr (.inr (va_up (va_up (va_up (va_up (va_up (va_up (va_up (va_up (va_up (va_up (fun _ => none) 0 (some p0)) 1 (some p1)) 2 (some p2)) 3 (some p3)) 4 (some p4)) 5 (some p5)) 6 (some p6)) 7 (some p7)) 8 (some p8)) 9 (some p9))))))), (p0, .inr (8, [.ref p0_0, .ref p0_1, .ref p0_2, .int 0])), (p0_0, arI X.1 0 40), (p0_1, arI X.1 0 40), (p0_2, arI X.1 0 40), (p1, .inr (8, [.ref p1_0, .ref p1_1, .ref p1_2, .int 0])), (p1_0, arI X.1 0 40), (p1_1, arI X.1 0 40), (p1_2, arI X.1 0 40), (p2, .inr (8, [.ref p2_0, .ref p2_1, .ref p2_2, .int 0])), (p2_0, arI X.1 0 40), (p2_1, arI X.1 0 40), (p2_2, arI X.1 0 40), (p3, .inr (8, [.ref p3_0, .ref p3_1, .ref p3_2, .int 0])), (p3_0, arI X.1 0 40), (p3_1, arI X.1 0 40), (p3_2, arI X.1 0 40), (p4, .inr (8, [.ref p4_0, .ref p4_1, .ref p4_2, .int 0])), (p4_0, arI X.1 0 40), (p4_1, arI X.1 0 40), (p4_2, arI X.1 0 40), (p5, .inr (8, [.ref p5_0, .ref p5_1, .ref p5_2, .int 0])), (p5_0, arI X.1 0 40), (p5_1, arI X.1 0 40), (p5_2, arI X.1 0 40), (p6, .inr (8, [.ref p6_0, .ref p6_1, .ref p6_2, .int 0])), (p6_0, arI X.1 0 40), (p6_1, arI X.1 0 40), (p6_2, arI X.1 0 40), (p7, .inr (8, [.ref p7_0, .ref p7_1, .ref p7_2, .int 0])), (p7_0, arI X.1 0 40), (p7_1, arI X.1 0 40), (p7_2, arI X.1 0 40), (p8, .inr (8, [.ref p8_0, .ref p8_1, .ref p8_2, .int 0])), (p8_0, arI X.1 0 40), (p8_1, arI X.1 0 40), (p8_2, arI X.1 0 40), (p9, .inr (8, [.ref p9_0, .ref p9_1, .ref p9_2, .int 0])), (p9_0, arI X.1 0 40), (p9_1, arI X.1 0 40), (p9_2, arI X.1 0 40)]) rfl ?_
  refine cj_iinc (j := 0) (v := 10) hx (by rw [hnL]; decide) dX2_init_44 rfl rfl rfl ?_
  refine cj_goto (tgt := 25) hx dX2_init_47 (by decide) ?_
  refine cj_iload_n (j := 0) hx dX2_init_25 rfl ?_
  refine cj_bipush (v := 10) hx dX2_init_26 rfl ?_
  refine cj_ge_yes (tgt := 50) hx dX2_init_28 (by decide) (by decide) ?_
  refine CJ.cell 1 rfl (v' := (10, .inr (.inr (.inr (.inr (fun i => some ([p0, p1, p2, p3, p4, p5, p6, p7, p8, p9].getD i 0))))))) (by refine vp_refs (fun j hj => ?_); rcases (show j = 0 ∨ j = 1 ∨ j = 2 ∨ j = 3 ∨ j = 4 ∨ j = 5 ∨ j = 6 ∨ j = 7 ∨ j = 8 ∨ j = 9 by omega) with rfl | rfl | rfl | rfl | rfl | rfl | rfl | rfl | rfl | rfl <;> rfl) ?_
  exact ret _ _ _ _ _ (by omega) (by omega) dX2_init_50 ⟨_, _, _, _, _, _, _, _, _, _, _, _, _, _, _, _, _, _, _, _, _, _, _, _, _, _, _, _, _, _, _, _, _, _, _, _, _, _, _, _, _, rfl⟩
set_option maxHeartbeats 4000000 in
set_option maxRecDepth 100000 in
theorem c_X3_init (d : Cg) (l : Launch) (a : Nat) : KC d l yX3_init cX3_init 1 0 1 12 a [] 5 [.null, .int 0, .int 0, .int 0, .int 0] (fun w => ∃ q7 : Nat, w = [(a, .inr (5, [.ref q7, .int 0, .int (-1), .int 0, .int 0])), (q7, arI d 1 12)]) := by
  refine startC (own := RX3) (by decide) rfl rfl (Nat.le_of_ble_eq_true rfl) ?_
  intro X hx hi hd hl hnL ret
  subst hd
  subst hl
  refine cj_aload_n (j := 0) hx dX3_init_0 rfl ?_
  refine cj_objInit hx oi_X3 oi_inst oi_code dX3_init_1 (Nat.le_of_ble_eq_true rfl) ?_
  refine cj_aload_n (j := 0) hx dX3_init_4 rfl ?_
  refine cj_bipush (v := 12) hx dX3_init_5 rfl ?_
  refine cj_newa (t := 1) (N := 12) (ty := .char) (a0 := (12, .inl (fun _ => 0))) hx ac_char rfl rfl (fun _ => rfl) (by decide) (by decide) (Nat.le_of_ble_eq_true rfl) dX3_init_7 ⟨by omega, by omega⟩ (fun q7 => ?_)
  refine CJ.eq (ws' := [(a, .inr (5, [.null, .int 0, .int 0, .int 0, .int 0])), (q7, arI X.1 1 12)]) rfl ?_
  refine cj_putF (q0 := 0) hx hi fqX3_9 dX3_init_9 rfl rfl rfl (Nat.le_of_ble_eq_true rfl) ?_
  refine CJ.eq (ws' := [(a, .inr (5, [.ref q7, .int 0, .int 0, .int 0, .int 0])), (q7, arI X.1 1 12)]) rfl ?_
  refine cj_aload_n (j := 0) hx dX3_init_12 rfl ?_
  refine cj_iconst (v := 0) hx dX3_init_13 rfl ?_
  refine cj_put (q0 := 0) hx fpX3_15 dX3_init_14 rfl rfl rfl (Nat.le_of_ble_eq_true rfl) ?_
  refine CJ.eq (ws' := [(a, .inr (5, [.ref q7, .int 0, .int 0, .int 0, .int 0])), (q7, arI X.1 1 12)]) rfl ?_
  refine cj_aload_n (j := 0) hx dX3_init_17 rfl ?_
  refine cj_iconst (v := (-1)) hx dX3_init_18 rfl ?_
  refine cj_put (q0 := 0) hx fpX3_19 dX3_init_19 rfl rfl rfl (Nat.le_of_ble_eq_true rfl) ?_
  refine CJ.eq (ws' := [(a, .inr (5, [.ref q7, .int 0, .int (-1), .int 0, .int 0])), (q7, arI X.1 1 12)]) rfl ?_
  refine cj_aload_n (j := 0) hx dX3_init_22 rfl ?_
  refine cj_iconst (v := 0) hx dX3_init_23 rfl ?_
  refine cj_put (q0 := 0) hx fpX3_22 dX3_init_24 rfl rfl rfl (Nat.le_of_ble_eq_true rfl) ?_
  refine CJ.eq (ws' := [(a, .inr (5, [.ref q7, .int 0, .int (-1), .int 0, .int 0])), (q7, arI X.1 1 12)]) rfl ?_
  refine cj_aload_n (j := 0) hx dX3_init_27 rfl ?_
  refine cj_iconst (v := 0) hx dX3_init_28 rfl ?_
  refine cj_put (q0 := 0) hx fpX3_25 dX3_init_29 rfl rfl rfl (Nat.le_of_ble_eq_true rfl) ?_
  refine CJ.eq (ws' := [(a, .inr (5, [.ref q7, .int 0, .int (-1), .int 0, .int 0])), (q7, arI X.1 1 12)]) rfl ?_
  exact ret _ _ _ _ _ (by omega) (by omega) dX3_init_32 ⟨_, rfl⟩
set_option maxHeartbeats 4000000 in
set_option maxRecDepth 100000 in
theorem c_X5_init (d : Cg) (l : Launch) (a : Nat) (x0 : Nat) : KC d l yX5_init cX5_init 2 0 7 372 a [.ref x0] 7 [.null, .null, .null, .null, .null, .null, .null, .null, .int 0] (fun w => ∃ q7 q15 q23 q31 q39 q47 q55 : Nat, w = [(a, .inr (7, [.ref x0, .ref q7, .ref q15, .ref q23, .ref q31, .ref q39, .ref q47, .ref q55, .int 0])), (q7, arI d 0 10), (q15, arI d 0 40), (q23, arI d 0 40), (q31, arI d 0 41), (q39, arI d 0 41), (q47, arI d 0 100), (q55, arI d 0 100)]) := by
  refine startC (own := RX5) (by decide) rfl rfl (Nat.le_of_ble_eq_true rfl) ?_
  intro X hx hi hd hl hnL ret
  subst hd
  subst hl
  refine cj_aload_n (j := 0) hx dX5_init_0 rfl ?_
  refine cj_objInit hx oi_X5 oi_inst oi_code dX5_init_1 (Nat.le_of_ble_eq_true rfl) ?_
  refine cj_aload_n (j := 0) hx dX5_init_4 rfl ?_
  refine cj_bipush (v := 10) hx dX5_init_5 rfl ?_
  refine cj_newa (t := 0) (N := 10) (ty := .int) (a0 := (10, .inl (fun _ => 0))) hx ac_int rfl rfl (fun _ => rfl) (by decide) (by decide) (Nat.le_of_ble_eq_true rfl) dX5_init_7 ⟨by omega, by omega⟩ (fun q7 => ?_)
  refine CJ.eq (ws' := [(a, .inr (7, [.null, .null, .null, .null, .null, .null, .null, .null, .int 0])), (q7, arI X.1 0 10)]) rfl ?_
  refine cj_putF (q0 := 0) hx hi fqX5_9 dX5_init_9 rfl rfl rfl (Nat.le_of_ble_eq_true rfl) ?_
  refine CJ.eq (ws' := [(a, .inr (7, [.null, .ref q7, .null, .null, .null, .null, .null, .null, .int 0])), (q7, arI X.1 0 10)]) rfl ?_
  refine cj_aload_n (j := 0) hx dX5_init_12 rfl ?_
  refine cj_bipush (v := 40) hx dX5_init_13 rfl ?_
  refine cj_newa (t := 0) (N := 40) (ty := .int) (a0 := (40, .inl (fun _ => 0))) hx ac_int rfl rfl (fun _ => rfl) (by decide) (by decide) (Nat.le_of_ble_eq_true rfl) dX5_init_15 ⟨by omega, by omega⟩ (fun q15 => ?_)
  refine CJ.eq (ws' := [(a, .inr (7, [.null, .ref q7, .null, .null, .null, .null, .null, .null, .int 0])), (q7, arI X.1 0 10), (q15, arI X.1 0 40)]) rfl ?_
  refine cj_putF (q0 := 0) hx hi fqX5_15 dX5_init_17 rfl rfl rfl (Nat.le_of_ble_eq_true rfl) ?_
  refine CJ.eq (ws' := [(a, .inr (7, [.null, .ref q7, .ref q15, .null, .null, .null, .null, .null, .int 0])), (q7, arI X.1 0 10), (q15, arI X.1 0 40)]) rfl ?_
  refine cj_aload_n (j := 0) hx dX5_init_20 rfl ?_
  refine cj_bipush (v := 40) hx dX5_init_21 rfl ?_
  refine cj_newa (t := 0) (N := 40) (ty := .int) (a0 := (40, .inl (fun _ => 0))) hx ac_int rfl rfl (fun _ => rfl) (by decide) (by decide) (Nat.le_of_ble_eq_true rfl) dX5_init_23 ⟨by omega, by omega⟩ (fun q23 => ?_)
  refine CJ.eq (ws' := [(a, .inr (7, [.null, .ref q7, .ref q15, .null, .null, .null, .null, .null, .int 0])), (q7, arI X.1 0 10), (q15, arI X.1 0 40), (q23, arI X.1 0 40)]) rfl ?_
  refine cj_putF (q0 := 0) hx hi fqX5_18 dX5_init_25 rfl rfl rfl (Nat.le_of_ble_eq_true rfl) ?_
  refine CJ.eq (ws' := [(a, .inr (7, [.null, .ref q7, .ref q15, .ref q23, .null, .null, .null, .null, .int 0])), (q7, arI X.1 0 10), (q15, arI X.1 0 40), (q23, arI X.1 0 40)]) rfl ?_
  refine cj_aload_n (j := 0) hx dX5_init_28 rfl ?_
  refine cj_bipush (v := 41) hx dX5_init_29 rfl ?_
  refine cj_newa (t := 0) (N := 41) (ty := .int) (a0 := (41, .inl (fun _ => 0))) hx ac_int rfl rfl (fun _ => rfl) (by decide) (by decide) (Nat.le_of_ble_eq_true rfl) dX5_init_31 ⟨by omega, by omega⟩ (fun q31 => ?_)
  refine CJ.eq (ws' := [(a, .inr (7, [.null, .ref q7, .ref q15, .ref q23, .null, .null, .null, .null, .int 0])), (q7, arI X.1 0 10), (q15, arI X.1 0 40), (q23, arI X.1 0 40), (q31, arI X.1 0 41)]) rfl ?_
  refine cj_putF (q0 := 0) hx hi fqX5_21 dX5_init_33 rfl rfl rfl (Nat.le_of_ble_eq_true rfl) ?_
  refine CJ.eq (ws' := [(a, .inr (7, [.null, .ref q7, .ref q15, .ref q23, .ref q31, .null, .null, .null, .int 0])), (q7, arI X.1 0 10), (q15, arI X.1 0 40), (q23, arI X.1 0 40), (q31, arI X.1 0 41)]) rfl ?_
  refine cj_aload_n (j := 0) hx dX5_init_36 rfl ?_
  refine cj_bipush (v := 41) hx dX5_init_37 rfl ?_
  refine cj_newa (t := 0) (N := 41) (ty := .int) (a0 := (41, .inl (fun _ => 0))) hx ac_int rfl rfl (fun _ => rfl) (by decide) (by decide) (Nat.le_of_ble_eq_true rfl) dX5_init_39 ⟨by omega, by omega⟩ (fun q39 => ?_)
  refine CJ.eq (ws' := [(a, .inr (7, [.null, .ref q7, .ref q15, .ref q23, .ref q31, .null, .null, .null, .int 0])), (q7, arI X.1 0 10), (q15, arI X.1 0 40), (q23, arI X.1 0 40), (q31, arI X.1 0 41), (q39, arI X.1 0 41)]) rfl ?_
  refine cj_putF (q0 := 0) hx hi fqX5_24 dX5_init_41 rfl rfl rfl (Nat.le_of_ble_eq_true rfl) ?_
  refine CJ.eq (ws' := [(a, .inr (7, [.null, .ref q7, .ref q15, .ref q23, .ref q31, .ref q39, .null, .null, .int 0])), (q7, arI X.1 0 10), (q15, arI X.1 0 40), (q23, arI X.1 0 40), (q31, arI X.1 0 41), (q39, arI X.1 0 41)]) rfl ?_
  refine cj_aload_n (j := 0) hx dX5_init_44 rfl ?_
  refine cj_bipush (v := 100) hx dX5_init_45 rfl ?_
  refine cj_newa (t := 0) (N := 100) (ty := .int) (a0 := (100, .inl (fun _ => 0))) hx ac_int rfl rfl (fun _ => rfl) (by decide) (by decide) (Nat.le_of_ble_eq_true rfl) dX5_init_47 ⟨by omega, by omega⟩ (fun q47 => ?_)
  refine CJ.eq (ws' := [(a, .inr (7, [.null, .ref q7, .ref q15, .ref q23, .ref q31, .ref q39, .null, .null, .int 0])), (q7, arI X.1 0 10), (q15, arI X.1 0 40), (q23, arI X.1 0 40), (q31, arI X.1 0 41), (q39, arI X.1 0 41), (q47, arI X.1 0 100)]) rfl ?_
  refine cj_putF (q0 := 0) hx hi fqX5_27 dX5_init_49 rfl rfl rfl (Nat.le_of_ble_eq_true rfl) ?_
  refine CJ.eq (ws' := [(a, .inr (7, [.null, .ref q7, .ref q15, .ref q23, .ref q31, .ref q39, .ref q47, .null, .int 0])), (q7, arI X.1 0 10), (q15, arI X.1 0 40), (q23, arI X.1 0 40), (q31, arI X.1 0 41), (q39, arI X.1 0 41), (q47, arI X.1 0 100)]) rfl ?_
  refine cj_aload_n (j := 0) hx dX5_init_52 rfl ?_
  refine cj_bipush (v := 100) hx dX5_init_53 rfl ?_
  refine cj_newa (t := 0) (N := 100) (ty := .int) (a0 := (100, .inl (fun _ => 0))) hx ac_int rfl rfl (fun _ => rfl) (by decide) (by decide) (Nat.le_of_ble_eq_true rfl) dX5_init_55 ⟨by omega, by omega⟩ (fun q55 => ?_)
  refine CJ.eq (ws' := [(a, .inr (7, [.null, .ref q7, .ref q15, .ref q23, .ref q31, .ref q39, .ref q47, .null, .int 0])), (q7, arI X.1 0 10), (q15, arI X.1 0 40), (q23, arI X.1 0 40), (q31, arI X.1 0 41), (q39, arI X.1 0 41), (q47, arI X.1 0 100), (q55, arI X.1 0 100)]) rfl ?_
  refine cj_putF (q0 := 0) hx hi fqX5_30 dX5_init_57 rfl rfl rfl (Nat.le_of_ble_eq_true rfl) ?_
  refine CJ.eq (ws' := [(a, .inr (7, [.null, .ref q7, .ref q15, .ref q23, .ref q31, .ref q39, .ref q47, .ref q55, .int 0])), (q7, arI X.1 0 10), (q15, arI X.1 0 40), (q23, arI X.1 0 40), (q31, arI X.1 0 41), (q39, arI X.1 0 41), (q47, arI X.1 0 100), (q55, arI X.1 0 100)]) rfl ?_
  refine cj_aload_n (j := 0) hx dX5_init_60 rfl ?_
  refine cj_iconst (v := 0) hx dX5_init_61 rfl ?_
  refine cj_put (q0 := 0) hx fpX5_33 dX5_init_62 rfl rfl rfl (Nat.le_of_ble_eq_true rfl) ?_
  refine CJ.eq (ws' := [(a, .inr (7, [.null, .ref q7, .ref q15, .ref q23, .ref q31, .ref q39, .ref q47, .ref q55, .int 0])), (q7, arI X.1 0 10), (q15, arI X.1 0 40), (q23, arI X.1 0 40), (q31, arI X.1 0 41), (q39, arI X.1 0 41), (q47, arI X.1 0 100), (q55, arI X.1 0 100)]) rfl ?_
  refine cj_aload_n (j := 0) hx dX5_init_65 rfl ?_
  refine cj_aload_n (j := 1) hx dX5_init_66 rfl ?_
  refine cj_putF (q0 := 0) hx hi fqX5_37 dX5_init_67 rfl rfl rfl (Nat.le_of_ble_eq_true rfl) ?_
  refine CJ.eq (ws' := [(a, .inr (7, [.ref x0, .ref q7, .ref q15, .ref q23, .ref q31, .ref q39, .ref q47, .ref q55, .int 0])), (q7, arI X.1 0 10), (q15, arI X.1 0 40), (q23, arI X.1 0 40), (q31, arI X.1 0 41), (q39, arI X.1 0 41), (q47, arI X.1 0 100), (q55, arI X.1 0 100)]) rfl ?_
  exact ret _ _ _ _ _ (by omega) (by omega) dX5_init_70 ⟨_, _, _, _, _, _, _, rfl⟩
set_option maxHeartbeats 4000000 in
set_option maxRecDepth 100000 in
theorem c_X4_init (d : Cg) (l : Launch) (a : Nat) (x0 : Nat) (x1 : Nat) : KC d l yX4_init cX4_init 3 0 1 41 a [.ref x0, .ref x1] 6 [.null, .null, .null] (fun w => ∃ q7 : Nat, w = [(a, .inr (6, [.ref x0, .ref x1, .ref q7])), (q7, arI d 0 41)]) := by
  refine startC (own := RX4) (by decide) rfl rfl (Nat.le_of_ble_eq_true rfl) ?_
  intro X hx hi hd hl hnL ret
  subst hd
  subst hl
  refine cj_aload_n (j := 0) hx dX4_init_0 rfl ?_
  refine cj_objInit hx oi_X4 oi_inst oi_code dX4_init_1 (Nat.le_of_ble_eq_true rfl) ?_
  refine cj_aload_n (j := 0) hx dX4_init_4 rfl ?_
  refine cj_bipush (v := 41) hx dX4_init_5 rfl ?_
  refine cj_newa (t := 0) (N := 41) (ty := .int) (a0 := (41, .inl (fun _ => 0))) hx ac_int rfl rfl (fun _ => rfl) (by decide) (by decide) (Nat.le_of_ble_eq_true rfl) dX4_init_7 ⟨by omega, by omega⟩ (fun q7 => ?_)
  refine CJ.eq (ws' := [(a, .inr (6, [.null, .null, .null])), (q7, arI X.1 0 41)]) rfl ?_
  refine cj_putF (q0 := 0) hx hi fqX4_9 dX4_init_9 rfl rfl rfl (Nat.le_of_ble_eq_true rfl) ?_
  refine CJ.eq (ws' := [(a, .inr (6, [.null, .null, .ref q7])), (q7, arI X.1 0 41)]) rfl ?_
  refine cj_aload_n (j := 0) hx dX4_init_12 rfl ?_
  refine cj_aload_n (j := 1) hx dX4_init_13 rfl ?_
  refine cj_putF (q0 := 0) hx hi fqX4_15 dX4_init_14 rfl rfl rfl (Nat.le_of_ble_eq_true rfl) ?_
  refine CJ.eq (ws' := [(a, .inr (6, [.ref x0, .null, .ref q7])), (q7, arI X.1 0 41)]) rfl ?_
  refine cj_aload_n (j := 0) hx dX4_init_17 rfl ?_
  refine cj_aload_n (j := 2) hx dX4_init_18 rfl ?_
  refine cj_putF (q0 := 0) hx hi fqX4_19 dX4_init_19 rfl rfl rfl (Nat.le_of_ble_eq_true rfl) ?_
  refine CJ.eq (ws' := [(a, .inr (6, [.ref x0, .ref x1, .ref q7])), (q7, arI X.1 0 41)]) rfl ?_
  exact ret _ _ _ _ _ (by omega) (by omega) dX4_init_22 ⟨_, rfl⟩
set_option maxHeartbeats 4000000 in
set_option maxRecDepth 100000 in
theorem c_X7_init (d : Cg) (l : Launch) (a : Nat) (x0 : Nat) (x1 : Nat) (x2 : Nat) : KC d l yX7_init cX7_init 4 0 0 0 a [.ref x0, .ref x1, .ref x2] 9 [.null, .null, .null] (fun w => w = [(a, .inr (9, [.ref x0, .ref x1, .ref x2]))]) := by
  refine startC (own := RX7) (by decide) rfl rfl (Nat.le_of_ble_eq_true rfl) ?_
  intro X hx hi hd hl hnL ret
  subst hd
  subst hl
  refine cj_aload_n (j := 0) hx dX7_init_0 rfl ?_
  refine cj_objInit hx oi_X7 oi_inst oi_code dX7_init_1 (Nat.le_of_ble_eq_true rfl) ?_
  refine cj_aload_n (j := 0) hx dX7_init_4 rfl ?_
  refine cj_aload_n (j := 1) hx dX7_init_5 rfl ?_
  refine cj_putF (q0 := 0) hx hi fqX7_9 dX7_init_6 rfl rfl rfl (Nat.le_of_ble_eq_true rfl) ?_
  refine CJ.eq (ws' := [(a, .inr (9, [.ref x0, .null, .null]))]) rfl ?_
  refine cj_aload_n (j := 0) hx dX7_init_9 rfl ?_
  refine cj_aload_n (j := 2) hx dX7_init_10 rfl ?_
  refine cj_putF (q0 := 0) hx hi fqX7_15 dX7_init_11 rfl rfl rfl (Nat.le_of_ble_eq_true rfl) ?_
  refine CJ.eq (ws' := [(a, .inr (9, [.ref x0, .ref x1, .null]))]) rfl ?_
  refine cj_aload_n (j := 0) hx dX7_init_14 rfl ?_
  refine cj_aload_n (j := 3) hx dX7_init_15 rfl ?_
  refine cj_putF (q0 := 0) hx hi fqX7_19 dX7_init_16 rfl rfl rfl (Nat.le_of_ble_eq_true rfl) ?_
  refine CJ.eq (ws' := [(a, .inr (9, [.ref x0, .ref x1, .ref x2]))]) rfl ?_
  exact ret _ _ _ _ _ (by omega) (by omega) dX7_init_19 rfl
set_option maxHeartbeats 4000000 in
set_option maxRecDepth 100000 in
theorem c_X1_init (d : Cg) (l : Launch) (a : Nat) (x0 : Nat) (x1 : Nat) (x2 : Nat) : KC d l yX1_init cX1_init 4 0 3 121 a [.ref x0, .ref x1, .ref x2] 3 [.null, .null, .null, .null, .null, .null, .int 0, .int 0] (fun w => ∃ q7 q15 q23 : Nat, w = [(a, .inr (3, [.ref x0, .ref x1, .ref x2, .ref q7, .ref q15, .ref q23, .int 0, .int 0])), (q7, arI d 0 41), (q15, arI d 0 40), (q23, arI d 0 40)]) := by
  refine startC (own := RX1) (by decide) rfl rfl (Nat.le_of_ble_eq_true rfl) ?_
  intro X hx hi hd hl hnL ret
  subst hd
  subst hl
  refine cj_aload_n (j := 0) hx dX1_init_0 rfl ?_
  refine cj_objInit hx oi_X1 oi_inst oi_code dX1_init_1 (Nat.le_of_ble_eq_true rfl) ?_
  refine cj_aload_n (j := 0) hx dX1_init_4 rfl ?_
  refine cj_bipush (v := 41) hx dX1_init_5 rfl ?_
  refine cj_newa (t := 0) (N := 41) (ty := .int) (a0 := (41, .inl (fun _ => 0))) hx ac_int rfl rfl (fun _ => rfl) (by decide) (by decide) (Nat.le_of_ble_eq_true rfl) dX1_init_7 ⟨by omega, by omega⟩ (fun q7 => ?_)
  refine CJ.eq (ws' := [(a, .inr (3, [.null, .null, .null, .null, .null, .null, .int 0, .int 0])), (q7, arI X.1 0 41)]) rfl ?_
  refine cj_putF (q0 := 0) hx hi fqX1_9 dX1_init_9 rfl rfl rfl (Nat.le_of_ble_eq_true rfl) ?_
  refine CJ.eq (ws' := [(a, .inr (3, [.null, .null, .null, .ref q7, .null, .null, .int 0, .int 0])), (q7, arI X.1 0 41)]) rfl ?_
  refine cj_aload_n (j := 0) hx dX1_init_12 rfl ?_
  refine cj_bipush (v := 40) hx dX1_init_13 rfl ?_
  refine cj_newa (t := 0) (N := 40) (ty := .int) (a0 := (40, .inl (fun _ => 0))) hx ac_int rfl rfl (fun _ => rfl) (by decide) (by decide) (Nat.le_of_ble_eq_true rfl) dX1_init_15 ⟨by omega, by omega⟩ (fun q15 => ?_)
  refine CJ.eq (ws' := [(a, .inr (3, [.null, .null, .null, .ref q7, .null, .null, .int 0, .int 0])), (q7, arI X.1 0 41), (q15, arI X.1 0 40)]) rfl ?_
  refine cj_putF (q0 := 0) hx hi fqX1_15 dX1_init_17 rfl rfl rfl (Nat.le_of_ble_eq_true rfl) ?_
  refine CJ.eq (ws' := [(a, .inr (3, [.null, .null, .null, .ref q7, .ref q15, .null, .int 0, .int 0])), (q7, arI X.1 0 41), (q15, arI X.1 0 40)]) rfl ?_
  refine cj_aload_n (j := 0) hx dX1_init_20 rfl ?_
  refine cj_bipush (v := 40) hx dX1_init_21 rfl ?_
  refine cj_newa (t := 0) (N := 40) (ty := .int) (a0 := (40, .inl (fun _ => 0))) hx ac_int rfl rfl (fun _ => rfl) (by decide) (by decide) (Nat.le_of_ble_eq_true rfl) dX1_init_23 ⟨by omega, by omega⟩ (fun q23 => ?_)
  refine CJ.eq (ws' := [(a, .inr (3, [.null, .null, .null, .ref q7, .ref q15, .null, .int 0, .int 0])), (q7, arI X.1 0 41), (q15, arI X.1 0 40), (q23, arI X.1 0 40)]) rfl ?_
  refine cj_putF (q0 := 0) hx hi fqX1_18 dX1_init_25 rfl rfl rfl (Nat.le_of_ble_eq_true rfl) ?_
  refine CJ.eq (ws' := [(a, .inr (3, [.null, .null, .null, .ref q7, .ref q15, .ref q23, .int 0, .int 0])), (q7, arI X.1 0 41), (q15, arI X.1 0 40), (q23, arI X.1 0 40)]) rfl ?_
  refine cj_aload_n (j := 0) hx dX1_init_28 rfl ?_
  refine cj_iconst (v := 0) hx dX1_init_29 rfl ?_
  refine cj_put (q0 := 0) hx fpX1_21 dX1_init_30 rfl rfl rfl (Nat.le_of_ble_eq_true rfl) ?_
  refine CJ.eq (ws' := [(a, .inr (3, [.null, .null, .null, .ref q7, .ref q15, .ref q23, .int 0, .int 0])), (q7, arI X.1 0 41), (q15, arI X.1 0 40), (q23, arI X.1 0 40)]) rfl ?_
  refine cj_aload_n (j := 0) hx dX1_init_33 rfl ?_
  refine cj_iconst (v := 0) hx dX1_init_34 rfl ?_
  refine cj_put (q0 := 0) hx fpX1_25 dX1_init_35 rfl rfl rfl (Nat.le_of_ble_eq_true rfl) ?_
  refine CJ.eq (ws' := [(a, .inr (3, [.null, .null, .null, .ref q7, .ref q15, .ref q23, .int 0, .int 0])), (q7, arI X.1 0 41), (q15, arI X.1 0 40), (q23, arI X.1 0 40)]) rfl ?_
  refine cj_aload_n (j := 0) hx dX1_init_38 rfl ?_
  refine cj_aload_n (j := 1) hx dX1_init_39 rfl ?_
  refine cj_putF (q0 := 0) hx hi fqX1_28 dX1_init_40 rfl rfl rfl (Nat.le_of_ble_eq_true rfl) ?_
  refine CJ.eq (ws' := [(a, .inr (3, [.ref x0, .null, .null, .ref q7, .ref q15, .ref q23, .int 0, .int 0])), (q7, arI X.1 0 41), (q15, arI X.1 0 40), (q23, arI X.1 0 40)]) rfl ?_
  refine cj_aload_n (j := 0) hx dX1_init_43 rfl ?_
  refine cj_aload_n (j := 2) hx dX1_init_44 rfl ?_
  refine cj_putF (q0 := 0) hx hi fqX1_32 dX1_init_45 rfl rfl rfl (Nat.le_of_ble_eq_true rfl) ?_
  refine CJ.eq (ws' := [(a, .inr (3, [.ref x0, .ref x1, .null, .ref q7, .ref q15, .ref q23, .int 0, .int 0])), (q7, arI X.1 0 41), (q15, arI X.1 0 40), (q23, arI X.1 0 40)]) rfl ?_
  refine cj_aload_n (j := 0) hx dX1_init_48 rfl ?_
  refine cj_aload_n (j := 3) hx dX1_init_49 rfl ?_
  refine cj_putF (q0 := 0) hx hi fqX1_36 dX1_init_50 rfl rfl rfl (Nat.le_of_ble_eq_true rfl) ?_
  refine CJ.eq (ws' := [(a, .inr (3, [.ref x0, .ref x1, .ref x2, .ref q7, .ref q15, .ref q23, .int 0, .int 0])), (q7, arI X.1 0 41), (q15, arI X.1 0 40), (q23, arI X.1 0 40)]) rfl ?_
  exact ret _ _ _ _ _ (by omega) (by omega) dX1_init_53 ⟨_, _, _, rfl⟩
set_option maxHeartbeats 4000000 in
set_option maxRecDepth 100000 in
theorem c_X0_init (d : Cg) (l : Launch) (a : Nat) (x0 : Nat) (x1 : Nat) : KC d l yX0_init cX0_init 3 0 1 2048 a [.ref x0, .ref x1] 2 [.null, .null, .null, .int 0, .int 0] (fun w => ∃ q8 : Nat, w = [(a, .inr (2, [.ref x0, .ref x1, .ref q8, .int 0, .int 0])), (q8, arI d 2 2048)]) := by
  refine startC (own := RX0) (by decide) rfl rfl (Nat.le_of_ble_eq_true rfl) ?_
  intro X hx hi hd hl hnL ret
  subst hd
  subst hl
  refine cj_aload_n (j := 0) hx dX0_init_0 rfl ?_
  refine cj_objInit hx oi_X0 oi_inst oi_code dX0_init_1 (Nat.le_of_ble_eq_true rfl) ?_
  refine cj_aload_n (j := 0) hx dX0_init_4 rfl ?_
  refine cj_sipush (v := 2048) hx dX0_init_5 rfl ?_
  refine cj_newa (t := 2) (N := 2048) (ty := .boolean) (a0 := (2048, .inl (fun _ => 0))) hx ac_boolean rfl rfl (fun _ => rfl) (by decide) (by decide) (Nat.le_of_ble_eq_true rfl) dX0_init_8 ⟨by omega, by omega⟩ (fun q8 => ?_)
  refine CJ.eq (ws' := [(a, .inr (2, [.null, .null, .null, .int 0, .int 0])), (q8, arI X.1 2 2048)]) rfl ?_
  refine cj_putF (q0 := 0) hx hi fqX0_9 dX0_init_10 rfl rfl rfl (Nat.le_of_ble_eq_true rfl) ?_
  refine CJ.eq (ws' := [(a, .inr (2, [.null, .null, .ref q8, .int 0, .int 0])), (q8, arI X.1 2 2048)]) rfl ?_
  refine cj_aload_n (j := 0) hx dX0_init_13 rfl ?_
  refine cj_iconst (v := 0) hx dX0_init_14 rfl ?_
  refine cj_put (q0 := 0) hx fpX0_15 dX0_init_15 rfl rfl rfl (Nat.le_of_ble_eq_true rfl) ?_
  refine CJ.eq (ws' := [(a, .inr (2, [.null, .null, .ref q8, .int 0, .int 0])), (q8, arI X.1 2 2048)]) rfl ?_
  refine cj_aload_n (j := 0) hx dX0_init_18 rfl ?_
  refine cj_iconst (v := 0) hx dX0_init_19 rfl ?_
  refine cj_put (q0 := 0) hx fpX0_19 dX0_init_20 rfl rfl rfl (Nat.le_of_ble_eq_true rfl) ?_
  refine CJ.eq (ws' := [(a, .inr (2, [.null, .null, .ref q8, .int 0, .int 0])), (q8, arI X.1 2 2048)]) rfl ?_
  refine cj_aload_n (j := 0) hx dX0_init_23 rfl ?_
  refine cj_aload_n (j := 1) hx dX0_init_24 rfl ?_
  refine cj_putF (q0 := 0) hx hi fqX0_22 dX0_init_25 rfl rfl rfl (Nat.le_of_ble_eq_true rfl) ?_
  refine CJ.eq (ws' := [(a, .inr (2, [.ref x0, .null, .ref q8, .int 0, .int 0])), (q8, arI X.1 2 2048)]) rfl ?_
  refine cj_aload_n (j := 0) hx dX0_init_28 rfl ?_
  refine cj_aload_n (j := 2) hx dX0_init_29 rfl ?_
  refine cj_putF (q0 := 0) hx hi fqX0_26 dX0_init_30 rfl rfl rfl (Nat.le_of_ble_eq_true rfl) ?_
  refine CJ.eq (ws' := [(a, .inr (2, [.ref x0, .ref x1, .ref q8, .int 0, .int 0])), (q8, arI X.1 2 2048)]) rfl ?_
  exact ret _ _ _ _ _ (by omega) (by omega) dX0_init_33 ⟨_, rfl⟩
