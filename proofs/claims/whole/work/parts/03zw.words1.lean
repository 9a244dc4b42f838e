theorem ilX0_0 : u_lay RX0 TX0 0 ∈ BIG := big_of (List.mem_of_getElem? (i := 271) (by decide +kernel)) (by decide +kernel)
theorem ilX0_1 : u_lay RX0 TX0 1 ∈ BIG := big_of (List.mem_of_getElem? (i := 273) (by decide +kernel)) (by decide +kernel)
theorem ilX0_2 : u_lay RX0 TX0 2 ∈ BIG := big_of (List.mem_of_getElem? (i := 275) (by decide +kernel)) (by decide +kernel)
theorem ilX0_3 : u_lay RX0 TX0 3 ∈ BIG := big_of (List.mem_of_getElem? (i := 277) (by decide +kernel)) (by decide +kernel)
theorem ilX0_4 : u_lay RX0 TX0 4 ∈ BIG := big_of (List.mem_of_getElem? (i := 279) (by decide +kernel)) (by decide +kernel)
theorem inBX0 : ∀ w ∈ u_ws RX0 TX0 5, w ∈ BIG := List.forall_mem_cons.mpr ⟨ilX0_0, List.forall_mem_cons.mpr ⟨ilX0_1, List.forall_mem_cons.mpr ⟨ilX0_2, List.forall_mem_cons.mpr ⟨ilX0_3, List.forall_mem_cons.mpr ⟨ilX0_4, fun _ h => absurd h List.not_mem_nil⟩⟩⟩⟩⟩
theorem ilX1_0 : u_lay RX1 TX1 0 ∈ BIG := big_of (List.mem_of_getElem? (i := 243) (by decide +kernel)) (by decide +kernel)
theorem ilX1_1 : u_lay RX1 TX1 1 ∈ BIG := big_of (List.mem_of_getElem? (i := 245) (by decide +kernel)) (by decide +kernel)
theorem ilX1_2 : u_lay RX1 TX1 2 ∈ BIG := big_of (List.mem_of_getElem? (i := 247) (by decide +kernel)) (by decide +kernel)
theorem ilX1_3 : u_lay RX1 TX1 3 ∈ BIG := big_of (List.mem_of_getElem? (i := 249) (by decide +kernel)) (by decide +kernel)
theorem ilX1_4 : u_lay RX1 TX1 4 ∈ BIG := big_of (List.mem_of_getElem? (i := 251) (by decide +kernel)) (by decide +kernel)
theorem ilX1_5 : u_lay RX1 TX1 5 ∈ BIG := big_of (List.mem_of_getElem? (i := 253) (by decide +kernel)) (by decide +kernel)
theorem ilX1_6 : u_lay RX1 TX1 6 ∈ BIG := big_of (List.mem_of_getElem? (i := 255) (by decide +kernel)) (by decide +kernel)
theorem ilX1_7 : u_lay RX1 TX1 7 ∈ BIG := big_of (List.mem_of_getElem? (i := 257) (by decide +kernel)) (by decide +kernel)
theorem inBX1 : ∀ w ∈ u_ws RX1 TX1 8, w ∈ BIG := List.forall_mem_cons.mpr ⟨ilX1_0, List.forall_mem_cons.mpr ⟨ilX1_1, List.forall_mem_cons.mpr ⟨ilX1_2, List.forall_mem_cons.mpr ⟨ilX1_3, List.forall_mem_cons.mpr ⟨ilX1_4, List.forall_mem_cons.mpr ⟨ilX1_5, List.forall_mem_cons.mpr ⟨ilX1_6, List.forall_mem_cons.mpr ⟨ilX1_7, fun _ h => absurd h List.not_mem_nil⟩⟩⟩⟩⟩⟩⟩⟩
theorem ilX2_0 : u_lay RX2 TX2 0 ∈ BIG := big_of (List.mem_of_getElem? (i := 133) (by decide +kernel)) (by decide +kernel)
theorem ilX2_1 : u_lay RX2 TX2 1 ∈ BIG := big_of (List.mem_of_getElem? (i := 135) (by decide +kernel)) (by decide +kernel)
theorem ilX2_2 : u_lay RX2 TX2 2 ∈ BIG := big_of (List.mem_of_getElem? (i := 137) (by decide +kernel)) (by decide +kernel)
theorem inBX2 : ∀ w ∈ u_ws RX2 TX2 3, w ∈ BIG := List.forall_mem_cons.mpr ⟨ilX2_0, List.forall_mem_cons.mpr ⟨ilX2_1, List.forall_mem_cons.mpr ⟨ilX2_2, fun _ h => absurd h List.not_mem_nil⟩⟩⟩
theorem ilX3_0 : u_lay RX3 TX3 0 ∈ BIG := big_of (List.mem_of_getElem? (i := 151) (by decide +kernel)) (by decide +kernel)
theorem ilX3_1 : u_lay RX3 TX3 1 ∈ BIG := big_of (List.mem_of_getElem? (i := 153) (by decide +kernel)) (by decide +kernel)
theorem ilX3_2 : u_lay RX3 TX3 2 ∈ BIG := big_of (List.mem_of_getElem? (i := 155) (by decide +kernel)) (by decide +kernel)
theorem ilX3_3 : u_lay RX3 TX3 3 ∈ BIG := big_of (List.mem_of_getElem? (i := 157) (by decide +kernel)) (by decide +kernel)
theorem ilX3_4 : u_lay RX3 TX3 4 ∈ BIG := big_of (List.mem_of_getElem? (i := 159) (by decide +kernel)) (by decide +kernel)
theorem inBX3 : ∀ w ∈ u_ws RX3 TX3 5, w ∈ BIG := List.forall_mem_cons.mpr ⟨ilX3_0, List.forall_mem_cons.mpr ⟨ilX3_1, List.forall_mem_cons.mpr ⟨ilX3_2, List.forall_mem_cons.mpr ⟨ilX3_3, List.forall_mem_cons.mpr ⟨ilX3_4, fun _ h => absurd h List.not_mem_nil⟩⟩⟩⟩⟩
theorem ilX4_0 : u_lay RX4 TX4 0 ∈ BIG := big_of (List.mem_of_getElem? (i := 206) (by decide +kernel)) (by decide +kernel)
theorem ilX4_1 : u_lay RX4 TX4 1 ∈ BIG := big_of (List.mem_of_getElem? (i := 208) (by decide +kernel)) (by decide +kernel)
theorem ilX4_2 : u_lay RX4 TX4 2 ∈ BIG := big_of (List.mem_of_getElem? (i := 210) (by decide +kernel)) (by decide +kernel)
theorem inBX4 : ∀ w ∈ u_ws RX4 TX4 3, w ∈ BIG := List.forall_mem_cons.mpr ⟨ilX4_0, List.forall_mem_cons.mpr ⟨ilX4_1, List.forall_mem_cons.mpr ⟨ilX4_2, fun _ h => absurd h List.not_mem_nil⟩⟩⟩
theorem ilX5_0 : u_lay RX5 TX5 0 ∈ BIG := big_of (List.mem_of_getElem? (i := 178) (by decide +kernel)) (by decide +kernel)
theorem ilX5_1 : u_lay RX5 TX5 1 ∈ BIG := big_of (List.mem_of_getElem? (i := 180) (by decide +kernel)) (by decide +kernel)
theorem ilX5_2 : u_lay RX5 TX5 2 ∈ BIG := big_of (List.mem_of_getElem? (i := 182) (by decide +kernel)) (by decide +kernel)
theorem ilX5_3 : u_lay RX5 TX5 3 ∈ BIG := big_of (List.mem_of_getElem? (i := 184) (by decide +kernel)) (by decide +kernel)
theorem ilX5_4 : u_lay RX5 TX5 4 ∈ BIG := big_of (List.mem_of_getElem? (i := 186) (by decide +kernel)) (by decide +kernel)
theorem ilX5_5 : u_lay RX5 TX5 5 ∈ BIG := big_of (List.mem_of_getElem? (i := 188) (by decide +kernel)) (by decide +kernel)
theorem ilX5_6 : u_lay RX5 TX5 6 ∈ BIG := big_of (List.mem_of_getElem? (i := 190) (by decide +kernel)) (by decide +kernel)
theorem ilX5_7 : u_lay RX5 TX5 7 ∈ BIG := big_of (List.mem_of_getElem? (i := 192) (by decide +kernel)) (by decide +kernel)
theorem ilX5_8 : u_lay RX5 TX5 8 ∈ BIG := big_of (List.mem_of_getElem? (i := 194) (by decide +kernel)) (by decide +kernel)
theorem inBX5 : ∀ w ∈ u_ws RX5 TX5 9, w ∈ BIG := List.forall_mem_cons.mpr ⟨ilX5_0, List.forall_mem_cons.mpr ⟨ilX5_1, List.forall_mem_cons.mpr ⟨ilX5_2, List.forall_mem_cons.mpr ⟨ilX5_3, List.forall_mem_cons.mpr ⟨ilX5_4, List.forall_mem_cons.mpr ⟨ilX5_5, List.forall_mem_cons.mpr ⟨ilX5_6, List.forall_mem_cons.mpr ⟨ilX5_7, List.forall_mem_cons.mpr ⟨ilX5_8, fun _ h => absurd h List.not_mem_nil⟩⟩⟩⟩⟩⟩⟩⟩⟩
theorem ilX6_0 : u_lay RX6 TX6 0 ∈ BIG := big_of (List.mem_of_getElem? (i := 111) (by decide +kernel)) (by decide +kernel)
theorem ilX6_1 : u_lay RX6 TX6 1 ∈ BIG := big_of (List.mem_of_getElem? (i := 113) (by decide +kernel)) (by decide +kernel)
theorem ilX6_2 : u_lay RX6 TX6 2 ∈ BIG := big_of (List.mem_of_getElem? (i := 115) (by decide +kernel)) (by decide +kernel)
theorem ilX6_3 : u_lay RX6 TX6 3 ∈ BIG := big_of (List.mem_of_getElem? (i := 117) (by decide +kernel)) (by decide +kernel)
theorem inBX6 : ∀ w ∈ u_ws RX6 TX6 4, w ∈ BIG := List.forall_mem_cons.mpr ⟨ilX6_0, List.forall_mem_cons.mpr ⟨ilX6_1, List.forall_mem_cons.mpr ⟨ilX6_2, List.forall_mem_cons.mpr ⟨ilX6_3, fun _ h => absurd h List.not_mem_nil⟩⟩⟩⟩
theorem ilX7_0 : u_lay RX7 TX7 0 ∈ BIG := big_of (List.mem_of_getElem? (i := 222) (by decide +kernel)) (by decide +kernel)
theorem ilX7_1 : u_lay RX7 TX7 1 ∈ BIG := big_of (List.mem_of_getElem? (i := 224) (by decide +kernel)) (by decide +kernel)
theorem ilX7_2 : u_lay RX7 TX7 2 ∈ BIG := big_of (List.mem_of_getElem? (i := 226) (by decide +kernel)) (by decide +kernel)
theorem inBX7 : ∀ w ∈ u_ws RX7 TX7 3, w ∈ BIG := List.forall_mem_cons.mpr ⟨ilX7_0, List.forall_mem_cons.mpr ⟨ilX7_1, List.forall_mem_cons.mpr ⟨ilX7_2, fun _ h => absurd h List.not_mem_nil⟩⟩⟩
theorem ilX8_0 : u_lay RX8 TX8 0 ∈ BIG := big_of (List.mem_of_getElem? (i := 294) (by decide +kernel)) (by decide +kernel)
theorem ilX8_1 : u_lay RX8 TX8 1 ∈ BIG := big_of (List.mem_of_getElem? (i := 296) (by decide +kernel)) (by decide +kernel)
theorem ilX8_2 : u_lay RX8 TX8 2 ∈ BIG := big_of (List.mem_of_getElem? (i := 298) (by decide +kernel)) (by decide +kernel)
theorem ilX8_3 : u_lay RX8 TX8 3 ∈ BIG := big_of (List.mem_of_getElem? (i := 300) (by decide +kernel)) (by decide +kernel)
theorem ilX8_4 : u_lay RX8 TX8 4 ∈ BIG := big_of (List.mem_of_getElem? (i := 302) (by decide +kernel)) (by decide +kernel)
theorem ilX8_5 : u_lay RX8 TX8 5 ∈ BIG := big_of (List.mem_of_getElem? (i := 304) (by decide +kernel)) (by decide +kernel)
theorem ilX8_6 : u_lay RX8 TX8 6 ∈ BIG := big_of (List.mem_of_getElem? (i := 306) (by decide +kernel)) (by decide +kernel)
theorem ilX8_7 : u_lay RX8 TX8 7 ∈ BIG := big_of (List.mem_of_getElem? (i := 308) (by decide +kernel)) (by decide +kernel)
theorem ilX8_8 : u_lay RX8 TX8 8 ∈ BIG := big_of (List.mem_of_getElem? (i := 310) (by decide +kernel)) (by decide +kernel)
theorem ilX8_9 : u_lay RX8 TX8 9 ∈ BIG := big_of (List.mem_of_getElem? (i := 312) (by decide +kernel)) (by decide +kernel)
theorem ilX8_10 : u_lay RX8 TX8 10 ∈ BIG := big_of (List.mem_of_getElem? (i := 314) (by decide +kernel)) (by decide +kernel)
theorem inBX8 : ∀ w ∈ u_ws RX8 TX8 11, w ∈ BIG := List.forall_mem_cons.mpr ⟨ilX8_0, List.forall_mem_cons.mpr ⟨ilX8_1, List.forall_mem_cons.mpr ⟨ilX8_2, List.forall_mem_cons.mpr ⟨ilX8_3, List.forall_mem_cons.mpr ⟨ilX8_4, List.forall_mem_cons.mpr ⟨ilX8_5, List.forall_mem_cons.mpr ⟨ilX8_6, List.forall_mem_cons.mpr ⟨ilX8_7, List.forall_mem_cons.mpr ⟨ilX8_8, List.forall_mem_cons.mpr ⟨ilX8_9, List.forall_mem_cons.mpr ⟨ilX8_10, fun _ h => absurd h List.not_mem_nil⟩⟩⟩⟩⟩⟩⟩⟩⟩⟩⟩
theorem ilX9_0 : u_lay RX9 TX9 0 ∈ BIG := big_of (List.mem_of_getElem? (i := 1281) (by decide +kernel)) (by decide +kernel)
theorem ilX9_1 : u_lay RX9 TX9 1 ∈ BIG := big_of (List.mem_of_getElem? (i := 1283) (by decide +kernel)) (by decide +kernel)
theorem ilX9_2 : u_lay RX9 TX9 2 ∈ BIG := big_of (List.mem_of_getElem? (i := 1285) (by decide +kernel)) (by decide +kernel)
theorem ilX9_3 : u_lay RX9 TX9 3 ∈ BIG := big_of (List.mem_of_getElem? (i := 1287) (by decide +kernel)) (by decide +kernel)
theorem ilX9_4 : u_lay RX9 TX9 4 ∈ BIG := big_of (List.mem_of_getElem? (i := 1289) (by decide +kernel)) (by decide +kernel)
theorem ilX9_5 : u_lay RX9 TX9 5 ∈ BIG := big_of (List.mem_of_getElem? (i := 1291) (by decide +kernel)) (by decide +kernel)
theorem ilX9_6 : u_lay RX9 TX9 6 ∈ BIG := big_of (List.mem_of_getElem? (i := 1293) (by decide +kernel)) (by decide +kernel)
theorem ilX9_7 : u_lay RX9 TX9 7 ∈ BIG := big_of (List.mem_of_getElem? (i := 1295) (by decide +kernel)) (by decide +kernel)
theorem ilX9_8 : u_lay RX9 TX9 8 ∈ BIG := big_of (List.mem_of_getElem? (i := 1297) (by decide +kernel)) (by decide +kernel)
theorem ilX9_9 : u_lay RX9 TX9 9 ∈ BIG := big_of (List.mem_of_getElem? (i := 1299) (by decide +kernel)) (by decide +kernel)
theorem ilX9_10 : u_lay RX9 TX9 10 ∈ BIG := big_of (List.mem_of_getElem? (i := 1301) (by decide +kernel)) (by decide +kernel)
theorem ilX9_11 : u_lay RX9 TX9 11 ∈ BIG := big_of (List.mem_of_getElem? (i := 1303) (by decide +kernel)) (by decide +kernel)
theorem ilX9_12 : u_lay RX9 TX9 12 ∈ BIG := big_of (List.mem_of_getElem? (i := 1305) (by decide +kernel)) (by decide +kernel)
theorem ilX9_13 : u_lay RX9 TX9 13 ∈ BIG := big_of (List.mem_of_getElem? (i := 1307) (by decide +kernel)) (by decide +kernel)
theorem ilX9_14 : u_lay RX9 TX9 14 ∈ BIG := big_of (List.mem_of_getElem? (i := 1309) (by decide +kernel)) (by decide +kernel)
theorem ilX9_15 : u_lay RX9 TX9 15 ∈ BIG := big_of (List.mem_of_getElem? (i := 1311) (by decide +kernel)) (by decide +kernel)
theorem ilX9_16 : u_lay RX9 TX9 16 ∈ BIG := big_of (List.mem_of_getElem? (i := 1313) (by decide +kernel)) (by decide +kernel)
theorem ilX9_17 : u_lay RX9 TX9 17 ∈ BIG := big_of (List.mem_of_getElem? (i := 1315) (by decide +kernel)) (by decide +kernel)
theorem ilX9_18 : u_lay RX9 TX9 18 ∈ BIG := big_of (List.mem_of_getElem? (i := 1317) (by decide +kernel)) (by decide +kernel)
theorem ilX9_19 : u_lay RX9 TX9 19 ∈ BIG := big_of (List.mem_of_getElem? (i := 1319) (by decide +kernel)) (by decide +kernel)
theorem ilX9_20 : u_lay RX9 TX9 20 ∈ BIG := big_of (List.mem_of_getElem? (i := 1321) (by decide +kernel)) (by decide +kernel)
theorem inBX9 : ∀ w ∈ u_ws RX9 TX9 21, w ∈ BIG := List.forall_mem_cons.mpr ⟨ilX9_0, List.forall_mem_cons.mpr ⟨ilX9_1, List.forall_mem_cons.mpr ⟨ilX9_2, List.forall_mem_cons.mpr ⟨ilX9_3, List.forall_mem_cons.mpr ⟨ilX9_4, List.forall_mem_cons.mpr ⟨ilX9_5, List.forall_mem_cons.mpr ⟨ilX9_6, List.forall_mem_cons.mpr ⟨ilX9_7, List.forall_mem_cons.mpr ⟨ilX9_8, List.forall_mem_cons.mpr ⟨ilX9_9, List.forall_mem_cons.mpr ⟨ilX9_10, List.forall_mem_cons.mpr ⟨ilX9_11, List.forall_mem_cons.mpr ⟨ilX9_12, List.forall_mem_cons.mpr ⟨ilX9_13, List.forall_mem_cons.mpr ⟨ilX9_14, List.forall_mem_cons.mpr ⟨ilX9_15, List.forall_mem_cons.mpr ⟨ilX9_16, List.forall_mem_cons.mpr ⟨ilX9_17, List.forall_mem_cons.mpr ⟨ilX9_18, List.forall_mem_cons.mpr ⟨ilX9_19, List.forall_mem_cons.mpr ⟨ilX9_20, fun _ h => absurd h List.not_mem_nil⟩⟩⟩⟩⟩⟩⟩⟩⟩⟩⟩⟩⟩⟩⟩⟩⟩⟩⟩⟩⟩
theorem flX6_9 : FL RX6 9 8 0 := ⟨RX6, TX6, 4, rfl, inBX6, by decide, big_of (List.mem_of_getElem? (i := 107) (by decide +kernel)) (by decide +kernel)⟩
theorem flX6_15 : FL RX6 15 8 1 := ⟨RX6, TX6, 4, rfl, inBX6, by decide, big_of (List.mem_of_getElem? (i := 108) (by decide +kernel)) (by decide +kernel)⟩
theorem flX6_18 : FL RX6 18 8 2 := ⟨RX6, TX6, 4, rfl, inBX6, by decide, big_of (List.mem_of_getElem? (i := 109) (by decide +kernel)) (by decide +kernel)⟩
theorem flX6_21 : FL RX6 21 8 3 := ⟨RX6, TX6, 4, rfl, inBX6, by decide, big_of (List.mem_of_getElem? (i := 110) (by decide +kernel)) (by decide +kernel)⟩
theorem fpX6_21 : FP RX6 21 8 3 .int := ⟨RX6, TX6, 4, tyX6, rfl, inBX6, by decide, big_of (List.mem_of_getElem? (i := 110) (by decide +kernel)) (by decide +kernel), tyX6_ok, nmX6, rfl, rfl⟩
theorem flX2_11 : FL RX2 11 4 0 := ⟨RX2, TX2, 3, rfl, inBX2, by decide, big_of (List.mem_of_getElem? (i := 130) (by decide +kernel)) (by decide +kernel)⟩
theorem flX2_17 : FL RX2 17 4 1 := ⟨RX2, TX2, 3, rfl, inBX2, by decide, big_of (List.mem_of_getElem? (i := 131) (by decide +kernel)) (by decide +kernel)⟩
theorem fpX2_17 : FP RX2 17 4 1 .int := ⟨RX2, TX2, 3, tyX2, rfl, inBX2, by decide, big_of (List.mem_of_getElem? (i := 131) (by decide +kernel)) (by decide +kernel), tyX2_ok, nmX2, rfl, rfl⟩
theorem flX2_21 : FL RX2 21 4 2 := ⟨RX2, TX2, 3, rfl, inBX2, by decide, big_of (List.mem_of_getElem? (i := 132) (by decide +kernel)) (by decide +kernel)⟩
theorem fpX2_21 : FP RX2 21 4 2 .int := ⟨RX2, TX2, 3, tyX2, rfl, inBX2, by decide, big_of (List.mem_of_getElem? (i := 132) (by decide +kernel)) (by decide +kernel), tyX2_ok, nmX2, rfl, rfl⟩
theorem flX3_9 : FL RX3 9 5 0 := ⟨RX3, TX3, 5, rfl, inBX3, by decide, big_of (List.mem_of_getElem? (i := 146) (by decide +kernel)) (by decide +kernel)⟩
theorem flX3_15 : FL RX3 15 5 1 := ⟨RX3, TX3, 5, rfl, inBX3, by decide, big_of (List.mem_of_getElem? (i := 147) (by decide +kernel)) (by decide +kernel)⟩
theorem fpX3_15 : FP RX3 15 5 1 .int := ⟨RX3, TX3, 5, tyX3, rfl, inBX3, by decide, big_of (List.mem_of_getElem? (i := 147) (by decide +kernel)) (by decide +kernel), tyX3_ok, nmX3, rfl, rfl⟩
theorem flX3_19 : FL RX3 19 5 2 := ⟨RX3, TX3, 5, rfl, inBX3, by decide, big_of (List.mem_of_getElem? (i := 148) (by decide +kernel)) (by decide +kernel)⟩
theorem fpX3_19 : FP RX3 19 5 2 .int := ⟨RX3, TX3, 5, tyX3, rfl, inBX3, by decide, big_of (List.mem_of_getElem? (i := 148) (by decide +kernel)) (by decide +kernel), tyX3_ok, nmX3, rfl, rfl⟩
theorem flX3_22 : FL RX3 22 5 3 := ⟨RX3, TX3, 5, rfl, inBX3, by decide, big_of (List.mem_of_getElem? (i := 149) (by decide +kernel)) (by decide +kernel)⟩
theorem fpX3_22 : FP RX3 22 5 3 .int := ⟨RX3, TX3, 5, tyX3, rfl, inBX3, by decide, big_of (List.mem_of_getElem? (i := 149) (by decide +kernel)) (by decide +kernel), tyX3_ok, nmX3, rfl, rfl⟩
theorem flX3_25 : FL RX3 25 5 4 := ⟨RX3, TX3, 5, rfl, inBX3, by decide, big_of (List.mem_of_getElem? (i := 150) (by decide +kernel)) (by decide +kernel)⟩
theorem fpX3_25 : FP RX3 25 5 4 .int := ⟨RX3, TX3, 5, tyX3, rfl, inBX3, by decide, big_of (List.mem_of_getElem? (i := 150) (by decide +kernel)) (by decide +kernel), tyX3_ok, nmX3, rfl, rfl⟩
theorem flX5_37 : FL RX5 37 7 0 := ⟨RX5, TX5, 9, rfl, inBX5, by decide, big_of (List.mem_of_getElem? (i := 169) (by decide +kernel)) (by decide +kernel)⟩
theorem flX5_9 : FL RX5 9 7 1 := ⟨RX5, TX5, 9, rfl, inBX5, by decide, big_of (List.mem_of_getElem? (i := 170) (by decide +kernel)) (by decide +kernel)⟩
theorem flX5_15 : FL RX5 15 7 2 := ⟨RX5, TX5, 9, rfl, inBX5, by decide, big_of (List.mem_of_getElem? (i := 171) (by decide +kernel)) (by decide +kernel)⟩
theorem flX5_18 : FL RX5 18 7 3 := ⟨RX5, TX5, 9, rfl, inBX5, by decide, big_of (List.mem_of_getElem? (i := 172) (by decide +kernel)) (by decide +kernel)⟩
theorem flX5_21 : FL RX5 21 7 4 := ⟨RX5, TX5, 9, rfl, inBX5, by decide, big_of (List.mem_of_getElem? (i := 173) (by decide +kernel)) (by decide +kernel)⟩
theorem flX5_24 : FL RX5 24 7 5 := ⟨RX5, TX5, 9, rfl, inBX5, by decide, big_of (List.mem_of_getElem? (i := 174) (by decide +kernel)) (by decide +kernel)⟩
theorem flX5_27 : FL RX5 27 7 6 := ⟨RX5, TX5, 9, rfl, inBX5, by decide, big_of (List.mem_of_getElem? (i := 175) (by decide +kernel)) (by decide +kernel)⟩
theorem flX5_30 : FL RX5 30 7 7 := ⟨RX5, TX5, 9, rfl, inBX5, by decide, big_of (List.mem_of_getElem? (i := 176) (by decide +kernel)) (by decide +kernel)⟩
theorem flX5_33 : FL RX5 33 7 8 := ⟨RX5, TX5, 9, rfl, inBX5, by decide, big_of (List.mem_of_getElem? (i := 177) (by decide +kernel)) (by decide +kernel)⟩
theorem fpX5_33 : FP RX5 33 7 8 .int := ⟨RX5, TX5, 9, tyX5, rfl, inBX5, by decide, big_of (List.mem_of_getElem? (i := 177) (by decide +kernel)) (by decide +kernel), tyX5_ok, nmX5, rfl, rfl⟩
theorem flX4_15 : FL RX4 15 6 0 := ⟨RX4, TX4, 3, rfl, inBX4, by decide, big_of (List.mem_of_getElem? (i := 203) (by decide +kernel)) (by decide +kernel)⟩
theorem flX4_19 : FL RX4 19 6 1 := ⟨RX4, TX4, 3, rfl, inBX4, by decide, big_of (List.mem_of_getElem? (i := 204) (by decide +kernel)) (by decide +kernel)⟩
theorem flX4_9 : FL RX4 9 6 2 := ⟨RX4, TX4, 3, rfl, inBX4, by decide, big_of (List.mem_of_getElem? (i := 205) (by decide +kernel)) (by decide +kernel)⟩
theorem flX7_9 : FL RX7 9 9 0 := ⟨RX7, TX7, 3, rfl, inBX7, by decide, big_of (List.mem_of_getElem? (i := 219) (by decide +kernel)) (by decide +kernel)⟩
theorem flX7_15 : FL RX7 15 9 1 := ⟨RX7, TX7, 3, rfl, inBX7, by decide, big_of (List.mem_of_getElem? (i := 220) (by decide +kernel)) (by decide +kernel)⟩
theorem flX7_19 : FL RX7 19 9 2 := ⟨RX7, TX7, 3, rfl, inBX7, by decide, big_of (List.mem_of_getElem? (i := 221) (by decide +kernel)) (by decide +kernel)⟩
theorem flX1_28 : FL RX1 28 3 0 := ⟨RX1, TX1, 8, rfl, inBX1, by decide, big_of (List.mem_of_getElem? (i := 235) (by decide +kernel)) (by decide +kernel)⟩
theorem flX1_32 : FL RX1 32 3 1 := ⟨RX1, TX1, 8, rfl, inBX1, by decide, big_of (List.mem_of_getElem? (i := 236) (by decide +kernel)) (by decide +kernel)⟩
theorem flX1_36 : FL RX1 36 3 2 := ⟨RX1, TX1, 8, rfl, inBX1, by decide, big_of (List.mem_of_getElem? (i := 237) (by decide +kernel)) (by decide +kernel)⟩
theorem flX1_9 : FL RX1 9 3 3 := ⟨RX1, TX1, 8, rfl, inBX1, by decide, big_of (List.mem_of_getElem? (i := 238) (by decide +kernel)) (by decide +kernel)⟩
theorem flX1_15 : FL RX1 15 3 4 := ⟨RX1, TX1, 8, rfl, inBX1, by decide, big_of (List.mem_of_getElem? (i := 239) (by decide +kernel)) (by decide +kernel)⟩
theorem flX1_18 : FL RX1 18 3 5 := ⟨RX1, TX1, 8, rfl, inBX1, by decide, big_of (List.mem_of_getElem? (i := 240) (by decide +kernel)) (by decide +kernel)⟩
theorem flX1_21 : FL RX1 21 3 6 := ⟨RX1, TX1, 8, rfl, inBX1, by decide, big_of (List.mem_of_getElem? (i := 241) (by decide +kernel)) (by decide +kernel)⟩
theorem fpX1_21 : FP RX1 21 3 6 .int := ⟨RX1, TX1, 8, tyX1, rfl, inBX1, by decide, big_of (List.mem_of_getElem? (i := 241) (by decide +kernel)) (by decide +kernel), tyX1_ok, nmX1, rfl, rfl⟩
theorem flX1_25 : FL RX1 25 3 7 := ⟨RX1, TX1, 8, rfl, inBX1, by decide, big_of (List.mem_of_getElem? (i := 242) (by decide +kernel)) (by decide +kernel)⟩
theorem fpX1_25 : FP RX1 25 3 7 .int := ⟨RX1, TX1, 8, tyX1, rfl, inBX1, by decide, big_of (List.mem_of_getElem? (i := 242) (by decide +kernel)) (by decide +kernel), tyX1_ok, nmX1, rfl, rfl⟩
theorem flX0_22 : FL RX0 22 2 0 := ⟨RX0, TX0, 5, rfl, inBX0, by decide, big_of (List.mem_of_getElem? (i := 266) (by decide +kernel)) (by decide +kernel)⟩
theorem flX0_26 : FL RX0 26 2 1 := ⟨RX0, TX0, 5, rfl, inBX0, by decide, big_of (List.mem_of_getElem? (i := 267) (by decide +kernel)) (by decide +kernel)⟩
theorem flX0_9 : FL RX0 9 2 2 := ⟨RX0, TX0, 5, rfl, inBX0, by decide, big_of (List.mem_of_getElem? (i := 268) (by decide +kernel)) (by decide +kernel)⟩
theorem flX0_15 : FL RX0 15 2 3 := ⟨RX0, TX0, 5, rfl, inBX0, by decide, big_of (List.mem_of_getElem? (i := 269) (by decide +kernel)) (by decide +kernel)⟩
theorem fpX0_15 : FP RX0 15 2 3 .int := ⟨RX0, TX0, 5, tyX0, rfl, inBX0, by decide, big_of (List.mem_of_getElem? (i := 269) (by decide +kernel)) (by decide +kernel), tyX0_ok, nmX0, rfl, rfl⟩
theorem flX0_19 : FL RX0 19 2 4 := ⟨RX0, TX0, 5, rfl, inBX0, by decide, big_of (List.mem_of_getElem? (i := 270) (by decide +kernel)) (by decide +kernel)⟩
theorem fpX0_19 : FP RX0 19 2 4 .int := ⟨RX0, TX0, 5, tyX0, rfl, inBX0, by decide, big_of (List.mem_of_getElem? (i := 270) (by decide +kernel)) (by decide +kernel), tyX0_ok, nmX0, rfl, rfl⟩
theorem flX8_12 : FL RX8 12 10 0 := ⟨RX8, TX8, 11, rfl, inBX8, by decide, big_of (List.mem_of_getElem? (i := 283) (by decide +kernel)) (by decide +kernel)⟩
theorem flX8_16 : FL RX8 16 10 1 := ⟨RX8, TX8, 11, rfl, inBX8, by decide, big_of (List.mem_of_getElem? (i := 284) (by decide +kernel)) (by decide +kernel)⟩
theorem flX8_22 : FL RX8 22 10 2 := ⟨RX8, TX8, 11, rfl, inBX8, by decide, big_of (List.mem_of_getElem? (i := 285) (by decide +kernel)) (by decide +kernel)⟩
theorem flX8_29 : FL RX8 29 10 3 := ⟨RX8, TX8, 11, rfl, inBX8, by decide, big_of (List.mem_of_getElem? (i := 286) (by decide +kernel)) (by decide +kernel)⟩
theorem flX8_38 : FL RX8 38 10 4 := ⟨RX8, TX8, 11, rfl, inBX8, by decide, big_of (List.mem_of_getElem? (i := 287) (by decide +kernel)) (by decide +kernel)⟩
theorem flX8_47 : FL RX8 47 10 5 := ⟨RX8, TX8, 11, rfl, inBX8, by decide, big_of (List.mem_of_getElem? (i := 288) (by decide +kernel)) (by decide +kernel)⟩
theorem flX8_56 : FL RX8 56 10 6 := ⟨RX8, TX8, 11, rfl, inBX8, by decide, big_of (List.mem_of_getElem? (i := 289) (by decide +kernel)) (by decide +kernel)⟩
theorem flX8_63 : FL RX8 63 10 7 := ⟨RX8, TX8, 11, rfl, inBX8, by decide, big_of (List.mem_of_getElem? (i := 290) (by decide +kernel)) (by decide +kernel)⟩
theorem flX8_72 : FL RX8 72 10 8 := ⟨RX8, TX8, 11, rfl, inBX8, by decide, big_of (List.mem_of_getElem? (i := 291) (by decide +kernel)) (by decide +kernel)⟩
theorem flX8_76 : FL RX8 76 10 9 := ⟨RX8, TX8, 11, rfl, inBX8, by decide, big_of (List.mem_of_getElem? (i := 292) (by decide +kernel)) (by decide +kernel)⟩
theorem fpX8_76 : FP RX8 76 10 9 .boolean := ⟨RX8, TX8, 11, tyX8, rfl, inBX8, by decide, big_of (List.mem_of_getElem? (i := 292) (by decide +kernel)) (by decide +kernel), tyX8_ok, nmX8, rfl, rfl⟩
theorem flX8_80 : FL RX8 80 10 10 := ⟨RX8, TX8, 11, rfl, inBX8, by decide, big_of (List.mem_of_getElem? (i := 293) (by decide +kernel)) (by decide +kernel)⟩
theorem fpX8_80 : FP RX8 80 10 10 .int := ⟨RX8, TX8, 11, tyX8, rfl, inBX8, by decide, big_of (List.mem_of_getElem? (i := 293) (by decide +kernel)) (by decide +kernel), tyX8_ok, nmX8, rfl, rfl⟩
theorem flX9_46 : FL RX9 46 11 0 := ⟨RX9, TX9, 21, rfl, inBX9, by decide, big_of (List.mem_of_getElem? (i := 1260) (by decide +kernel)) (by decide +kernel)⟩
theorem fpX9_46 : FP RX9 46 11 0 .int := ⟨RX9, TX9, 21, tyX9, rfl, inBX9, by decide, big_of (List.mem_of_getElem? (i := 1260) (by decide +kernel)) (by decide +kernel), tyX9_ok, nmX9, rfl, rfl⟩
theorem flX9_7 : FL RX9 7 11 1 := ⟨RX9, TX9, 21, rfl, inBX9, by decide, big_of (List.mem_of_getElem? (i := 1261) (by decide +kernel)) (by decide +kernel)⟩
theorem flX9_13 : FL RX9 13 11 2 := ⟨RX9, TX9, 21, rfl, inBX9, by decide, big_of (List.mem_of_getElem? (i := 1262) (by decide +kernel)) (by decide +kernel)⟩
theorem flX9_57 : FL RX9 57 11 3 := ⟨RX9, TX9, 21, rfl, inBX9, by decide, big_of (List.mem_of_getElem? (i := 1263) (by decide +kernel)) (by decide +kernel)⟩
theorem fpX9_57 : FP RX9 57 11 3 .int := ⟨RX9, TX9, 21, tyX9, rfl, inBX9, by decide, big_of (List.mem_of_getElem? (i := 1263) (by decide +kernel)) (by decide +kernel), tyX9_ok, nmX9, rfl, rfl⟩
theorem flX9_16 : FL RX9 16 11 4 := ⟨RX9, TX9, 21, rfl, inBX9, by decide, big_of (List.mem_of_getElem? (i := 1264) (by decide +kernel)) (by decide +kernel)⟩
theorem flX9_217 : FL RX9 217 11 5 := ⟨RX9, TX9, 21, rfl, inBX9, by decide, big_of (List.mem_of_getElem? (i := 1265) (by decide +kernel)) (by decide +kernel)⟩
theorem fpX9_217 : FP RX9 217 11 5 .boolean := ⟨RX9, TX9, 21, tyX9, rfl, inBX9, by decide, big_of (List.mem_of_getElem? (i := 1265) (by decide +kernel)) (by decide +kernel), tyX9_ok, nmX9, rfl, rfl⟩
theorem flX9_19 : FL RX9 19 11 6 := ⟨RX9, TX9, 21, rfl, inBX9, by decide, big_of (List.mem_of_getElem? (i := 1266) (by decide +kernel)) (by decide +kernel)⟩
theorem flX9_96 : FL RX9 96 11 7 := ⟨RX9, TX9, 21, rfl, inBX9, by decide, big_of (List.mem_of_getElem? (i := 1267) (by decide +kernel)) (by decide +kernel)⟩
theorem fpX9_96 : FP RX9 96 11 7 .int := ⟨RX9, TX9, 21, tyX9, rfl, inBX9, by decide, big_of (List.mem_of_getElem? (i := 1267) (by decide +kernel)) (by decide +kernel), tyX9_ok, nmX9, rfl, rfl⟩
theorem flX9_23 : FL RX9 23 11 8 := ⟨RX9, TX9, 21, rfl, inBX9, by decide, big_of (List.mem_of_getElem? (i := 1268) (by decide +kernel)) (by decide +kernel)⟩
theorem fpX9_23 : FP RX9 23 11 8 .int := ⟨RX9, TX9, 21, tyX9, rfl, inBX9, by decide, big_of (List.mem_of_getElem? (i := 1268) (by decide +kernel)) (by decide +kernel), tyX9_ok, nmX9, rfl, rfl⟩
theorem flX9_27 : FL RX9 27 11 9 := ⟨RX9, TX9, 21, rfl, inBX9, by decide, big_of (List.mem_of_getElem? (i := 1269) (by decide +kernel)) (by decide +kernel)⟩
theorem flX9_30 : FL RX9 30 11 10 := ⟨RX9, TX9, 21, rfl, inBX9, by decide, big_of (List.mem_of_getElem? (i := 1270) (by decide +kernel)) (by decide +kernel)⟩
theorem flX9_60 : FL RX9 60 11 11 := ⟨RX9, TX9, 21, rfl, inBX9, by decide, big_of (List.mem_of_getElem? (i := 1271) (by decide +kernel)) (by decide +kernel)⟩
theorem fpX9_60 : FP RX9 60 11 11 .int := ⟨RX9, TX9, 21, tyX9, rfl, inBX9, by decide, big_of (List.mem_of_getElem? (i := 1271) (by decide +kernel)) (by decide +kernel), tyX9_ok, nmX9, rfl, rfl⟩
theorem flX9_33 : FL RX9 33 11 12 := ⟨RX9, TX9, 21, rfl, inBX9, by decide, big_of (List.mem_of_getElem? (i := 1272) (by decide +kernel)) (by decide +kernel)⟩
theorem flX9_102 : FL RX9 102 11 13 := ⟨RX9, TX9, 21, rfl, inBX9, by decide, big_of (List.mem_of_getElem? (i := 1273) (by decide +kernel)) (by decide +kernel)⟩
theorem fpX9_102 : FP RX9 102 11 13 .boolean := ⟨RX9, TX9, 21, tyX9, rfl, inBX9, by decide, big_of (List.mem_of_getElem? (i := 1273) (by decide +kernel)) (by decide +kernel), tyX9_ok, nmX9, rfl, rfl⟩
theorem flX9_106 : FL RX9 106 11 14 := ⟨RX9, TX9, 21, rfl, inBX9, by decide, big_of (List.mem_of_getElem? (i := 1274) (by decide +kernel)) (by decide +kernel)⟩
theorem fpX9_106 : FP RX9 106 11 14 .int := ⟨RX9, TX9, 21, tyX9, rfl, inBX9, by decide, big_of (List.mem_of_getElem? (i := 1274) (by decide +kernel)) (by decide +kernel), tyX9_ok, nmX9, rfl, rfl⟩
theorem flX9_36 : FL RX9 36 11 15 := ⟨RX9, TX9, 21, rfl, inBX9, by decide, big_of (List.mem_of_getElem? (i := 1275) (by decide +kernel)) (by decide +kernel)⟩
theorem flX9_40 : FL RX9 40 11 16 := ⟨RX9, TX9, 21, rfl, inBX9, by decide, big_of (List.mem_of_getElem? (i := 1276) (by decide +kernel)) (by decide +kernel)⟩
theorem flX9_43 : FL RX9 43 11 17 := ⟨RX9, TX9, 21, rfl, inBX9, by decide, big_of (List.mem_of_getElem? (i := 1277) (by decide +kernel)) (by decide +kernel)⟩
theorem flX9_184 : FL RX9 184 11 18 := ⟨RX9, TX9, 21, rfl, inBX9, by decide, big_of (List.mem_of_getElem? (i := 1278) (by decide +kernel)) (by decide +kernel)⟩
theorem fpX9_184 : FP RX9 184 11 18 .int := ⟨RX9, TX9, 21, tyX9, rfl, inBX9, by decide, big_of (List.mem_of_getElem? (i := 1278) (by decide +kernel)) (by decide +kernel), tyX9_ok, nmX9, rfl, rfl⟩
theorem flX9_193 : FL RX9 193 11 19 := ⟨RX9, TX9, 21, rfl, inBX9, by decide, big_of (List.mem_of_getElem? (i := 1279) (by decide +kernel)) (by decide +kernel)⟩
theorem fpX9_193 : FP RX9 193 11 19 .int := ⟨RX9, TX9, 21, tyX9, rfl, inBX9, by decide, big_of (List.mem_of_getElem? (i := 1279) (by decide +kernel)) (by decide +kernel), tyX9_ok, nmX9, rfl, rfl⟩
theorem flX9_187 : FL RX9 187 11 20 := ⟨RX9, TX9, 21, rfl, inBX9, by decide, big_of (List.mem_of_getElem? (i := 1280) (by decide +kernel)) (by decide +kernel)⟩
theorem fpX9_187 : FP RX9 187 11 20 .int := ⟨RX9, TX9, 21, tyX9, rfl, inBX9, by decide, big_of (List.mem_of_getElem? (i := 1280) (by decide +kernel)) (by decide +kernel), tyX9_ok, nmX9, rfl, rfl⟩
theorem mcX0_init : Cond.code yX0_init cX0_init 3 none ∈ BIG := big_of (List.mem_of_getElem? (i := 264) (by decide +kernel)) (by decide +kernel)
theorem miX0_init : Cond.instanceMethod yX0_init ∈ BIG := big_of (List.mem_of_getElem? (i := 263) (by decide +kernel)) (by decide +kernel)
theorem mcX0_numberAt : Cond.code yX0_numberAt cX0_numberAt 4 (some .int) ∈ BIG := big_of (List.mem_of_getElem? (i := 915) (by decide +kernel)) (by decide +kernel)
theorem miX0_numberAt : Cond.instanceMethod yX0_numberAt ∈ BIG := big_of (List.mem_of_getElem? (i := 913) (by decide +kernel)) (by decide +kernel)
theorem meX0_numberAt : Cond.selects RX0 yX0_numberAt yX0_numberAt ∈ BIG := big_of (List.mem_of_getElem? (i := 914) (by decide +kernel)) (by decide +kernel)
theorem mcX0_startWithZero : Cond.code yX0_startWithZero cX0_startWithZero 2 none ∈ BIG := big_of (List.mem_of_getElem? (i := 919) (by decide +kernel)) (by decide +kernel)
theorem miX0_startWithZero : Cond.instanceMethod yX0_startWithZero ∈ BIG := big_of (List.mem_of_getElem? (i := 918) (by decide +kernel)) (by decide +kernel)
theorem meX0_startWithZero : Cond.selects RX0 yX0_startWithZero yX0_startWithZero ∈ BIG := big_of (List.mem_of_getElem? (i := 9) (by decide +kernel)) (by decide +kernel)
theorem mcX0_passItem : Cond.code yX0_passItem cX0_passItem 7 none ∈ BIG := big_of (List.mem_of_getElem? (i := 924) (by decide +kernel)) (by decide +kernel)
theorem miX0_passItem : Cond.instanceMethod yX0_passItem ∈ BIG := big_of (List.mem_of_getElem? (i := 923) (by decide +kernel)) (by decide +kernel)
theorem meX0_passItem : Cond.selects RX0 yX0_passItem yX0_passItem ∈ BIG := big_of (List.mem_of_getElem? (i := 10) (by decide +kernel)) (by decide +kernel)
theorem mcX0_hold : Cond.code yX0_hold cX0_hold 2 none ∈ BIG := big_of (List.mem_of_getElem? (i := 930) (by decide +kernel)) (by decide +kernel)
theorem miX0_hold : Cond.instanceMethod yX0_hold ∈ BIG := big_of (List.mem_of_getElem? (i := 929) (by decide +kernel)) (by decide +kernel)
theorem meX0_hold : Cond.selects RX0 yX0_hold yX0_hold ∈ BIG := big_of (List.mem_of_getElem? (i := 11) (by decide +kernel)) (by decide +kernel)
theorem mcX1_init : Cond.code yX1_init cX1_init 4 none ∈ BIG := big_of (List.mem_of_getElem? (i := 233) (by decide +kernel)) (by decide +kernel)
theorem miX1_init : Cond.instanceMethod yX1_init ∈ BIG := big_of (List.mem_of_getElem? (i := 232) (by decide +kernel)) (by decide +kernel)
theorem mcX1_choicesFound : Cond.code yX1_choicesFound cX1_choicesFound 1 (some .int) ∈ BIG := big_of (List.mem_of_getElem? (i := 1131) (by decide +kernel)) (by decide +kernel)
theorem miX1_choicesFound : Cond.instanceMethod yX1_choicesFound ∈ BIG := big_of (List.mem_of_getElem? (i := 1129) (by decide +kernel)) (by decide +kernel)
theorem meX1_choicesFound : Cond.selects RX1 yX1_choicesFound yX1_choicesFound ∈ BIG := big_of (List.mem_of_getElem? (i := 1130) (by decide +kernel)) (by decide +kernel)
theorem mcX1_least : Cond.code yX1_least cX1_least 1 (some .int) ∈ BIG := big_of (List.mem_of_getElem? (i := 1108) (by decide +kernel)) (by decide +kernel)
theorem miX1_least : Cond.instanceMethod yX1_least ∈ BIG := big_of (List.mem_of_getElem? (i := 1106) (by decide +kernel)) (by decide +kernel)
theorem meX1_least : Cond.selects RX1 yX1_least yX1_least ∈ BIG := big_of (List.mem_of_getElem? (i := 1107) (by decide +kernel)) (by decide +kernel)
theorem mcX1_takeBest : Cond.code yX1_takeBest cX1_takeBest 2 none ∈ BIG := big_of (List.mem_of_getElem? (i := 1119) (by decide +kernel)) (by decide +kernel)
theorem miX1_takeBest : Cond.instanceMethod yX1_takeBest ∈ BIG := big_of (List.mem_of_getElem? (i := 1117) (by decide +kernel)) (by decide +kernel)
theorem meX1_takeBest : Cond.selects RX1 yX1_takeBest yX1_takeBest ∈ BIG := big_of (List.mem_of_getElem? (i := 1118) (by decide +kernel)) (by decide +kernel)
theorem mcX1_run : Cond.code yX1_run cX1_run 1 none ∈ BIG := big_of (List.mem_of_getElem? (i := 1067) (by decide +kernel)) (by decide +kernel)
theorem miX1_run : Cond.instanceMethod yX1_run ∈ BIG := big_of (List.mem_of_getElem? (i := 1065) (by decide +kernel)) (by decide +kernel)
theorem meX1_run : Cond.selects RX1 yX1_run yX1_run ∈ BIG := big_of (List.mem_of_getElem? (i := 1066) (by decide +kernel)) (by decide +kernel)
theorem mcX1_tryFrom : Cond.code yX1_tryFrom cX1_tryFrom 5 none ∈ BIG := big_of (List.mem_of_getElem? (i := 1072) (by decide +kernel)) (by decide +kernel)
theorem miX1_tryFrom : Cond.instanceMethod yX1_tryFrom ∈ BIG := big_of (List.mem_of_getElem? (i := 1071) (by decide +kernel)) (by decide +kernel)
theorem meX1_tryFrom : Cond.selects RX1 yX1_tryFrom yX1_tryFrom ∈ BIG := big_of (List.mem_of_getElem? (i := 17) (by decide +kernel)) (by decide +kernel)
theorem mcX1_tryForms : Cond.code yX1_tryForms cX1_tryForms 6 none ∈ BIG := big_of (List.mem_of_getElem? (i := 1099) (by decide +kernel)) (by decide +kernel)
theorem miX1_tryForms : Cond.instanceMethod yX1_tryForms ∈ BIG := big_of (List.mem_of_getElem? (i := 1098) (by decide +kernel)) (by decide +kernel)
theorem meX1_tryForms : Cond.selects RX1 yX1_tryForms yX1_tryForms ∈ BIG := big_of (List.mem_of_getElem? (i := 21) (by decide +kernel)) (by decide +kernel)
theorem mcX1_placeUpToTransfer : Cond.code yX1_placeUpToTransfer cX1_placeUpToTransfer 6 (some .int) ∈ BIG := big_of (List.mem_of_getElem? (i := 1076) (by decide +kernel)) (by decide +kernel)
theorem miX1_placeUpToTransfer : Cond.instanceMethod yX1_placeUpToTransfer ∈ BIG := big_of (List.mem_of_getElem? (i := 1075) (by decide +kernel)) (by decide +kernel)
theorem meX1_placeUpToTransfer : Cond.selects RX1 yX1_placeUpToTransfer yX1_placeUpToTransfer ∈ BIG := big_of (List.mem_of_getElem? (i := 18) (by decide +kernel)) (by decide +kernel)
theorem mcX1_fitsBackward : Cond.code yX1_fitsBackward cX1_fitsBackward 5 (some .boolean) ∈ BIG := big_of (List.mem_of_getElem? (i := 1103) (by decide +kernel)) (by decide +kernel)
theorem miX1_fitsBackward : Cond.instanceMethod yX1_fitsBackward ∈ BIG := big_of (List.mem_of_getElem? (i := 1102) (by decide +kernel)) (by decide +kernel)
theorem meX1_fitsBackward : Cond.selects RX1 yX1_fitsBackward yX1_fitsBackward ∈ BIG := big_of (List.mem_of_getElem? (i := 22) (by decide +kernel)) (by decide +kernel)
theorem mcX1_allFitForward : Cond.code yX1_allFitForward cX1_allFitForward 4 (some .boolean) ∈ BIG := big_of (List.mem_of_getElem? (i := 1083) (by decide +kernel)) (by decide +kernel)
theorem miX1_allFitForward : Cond.instanceMethod yX1_allFitForward ∈ BIG := big_of (List.mem_of_getElem? (i := 1082) (by decide +kernel)) (by decide +kernel)
theorem meX1_allFitForward : Cond.selects RX1 yX1_allFitForward yX1_allFitForward ∈ BIG := big_of (List.mem_of_getElem? (i := 19) (by decide +kernel)) (by decide +kernel)
theorem mcX1_keep : Cond.code yX1_keep cX1_keep 3 none ∈ BIG := big_of (List.mem_of_getElem? (i := 1090) (by decide +kernel)) (by decide +kernel)
theorem miX1_keep : Cond.instanceMethod yX1_keep ∈ BIG := big_of (List.mem_of_getElem? (i := 1089) (by decide +kernel)) (by decide +kernel)
theorem meX1_keep : Cond.selects RX1 yX1_keep yX1_keep ∈ BIG := big_of (List.mem_of_getElem? (i := 20) (by decide +kernel)) (by decide +kernel)
theorem mcX2_init : Cond.code yX2_init cX2_init 2 none ∈ BIG := big_of (List.mem_of_getElem? (i := 125) (by decide +kernel)) (by decide +kernel)
theorem miX2_init : Cond.instanceMethod yX2_init ∈ BIG := big_of (List.mem_of_getElem? (i := 124) (by decide +kernel)) (by decide +kernel)
theorem mcX2_isEmpty : Cond.code yX2_isEmpty cX2_isEmpty 1 (some .boolean) ∈ BIG := big_of (List.mem_of_getElem? (i := 1240) (by decide +kernel)) (by decide +kernel)
theorem miX2_isEmpty : Cond.instanceMethod yX2_isEmpty ∈ BIG := big_of (List.mem_of_getElem? (i := 1238) (by decide +kernel)) (by decide +kernel)
theorem meX2_isEmpty : Cond.selects RX2 yX2_isEmpty yX2_isEmpty ∈ BIG := big_of (List.mem_of_getElem? (i := 1239) (by decide +kernel)) (by decide +kernel)
theorem mcX2_remember : Cond.code yX2_remember cX2_remember 2 none ∈ BIG := big_of (List.mem_of_getElem? (i := 769) (by decide +kernel)) (by decide +kernel)
theorem miX2_remember : Cond.instanceMethod yX2_remember ∈ BIG := big_of (List.mem_of_getElem? (i := 767) (by decide +kernel)) (by decide +kernel)
theorem meX2_remember : Cond.selects RX2 yX2_remember yX2_remember ∈ BIG := big_of (List.mem_of_getElem? (i := 768) (by decide +kernel)) (by decide +kernel)
theorem mcX2_takeBack : Cond.code yX2_takeBack cX2_takeBack 2 (some .int) ∈ BIG := big_of (List.mem_of_getElem? (i := 1245) (by decide +kernel)) (by decide +kernel)
theorem miX2_takeBack : Cond.instanceMethod yX2_takeBack ∈ BIG := big_of (List.mem_of_getElem? (i := 1243) (by decide +kernel)) (by decide +kernel)
theorem meX2_takeBack : Cond.selects RX2 yX2_takeBack yX2_takeBack ∈ BIG := big_of (List.mem_of_getElem? (i := 1244) (by decide +kernel)) (by decide +kernel)
theorem mcX2_forget : Cond.code yX2_forget cX2_forget 1 none ∈ BIG := big_of (List.mem_of_getElem? (i := 332) (by decide +kernel)) (by decide +kernel)
theorem miX2_forget : Cond.instanceMethod yX2_forget ∈ BIG := big_of (List.mem_of_getElem? (i := 330) (by decide +kernel)) (by decide +kernel)
theorem meX2_forget : Cond.selects RX2 yX2_forget yX2_forget ∈ BIG := big_of (List.mem_of_getElem? (i := 331) (by decide +kernel)) (by decide +kernel)
theorem mcX3_init : Cond.code yX3_init cX3_init 1 none ∈ BIG := big_of (List.mem_of_getElem? (i := 144) (by decide +kernel)) (by decide +kernel)
theorem miX3_init : Cond.instanceMethod yX3_init ∈ BIG := big_of (List.mem_of_getElem? (i := 143) (by decide +kernel)) (by decide +kernel)
theorem mcX3_isFull : Cond.code yX3_isFull cX3_isFull 1 (some .boolean) ∈ BIG := big_of (List.mem_of_getElem? (i := 589) (by decide +kernel)) (by decide +kernel)
theorem miX3_isFull : Cond.instanceMethod yX3_isFull ∈ BIG := big_of (List.mem_of_getElem? (i := 587) (by decide +kernel)) (by decide +kernel)
theorem meX3_isFull : Cond.selects RX3 yX3_isFull yX3_isFull ∈ BIG := big_of (List.mem_of_getElem? (i := 588) (by decide +kernel)) (by decide +kernel)
theorem mcX3_add : Cond.code yX3_add cX3_add 2 (some .int) ∈ BIG := big_of (List.mem_of_getElem? (i := 609) (by decide +kernel)) (by decide +kernel)
theorem miX3_add : Cond.instanceMethod yX3_add ∈ BIG := big_of (List.mem_of_getElem? (i := 607) (by decide +kernel)) (by decide +kernel)
theorem meX3_add : Cond.selects RX3 yX3_add yX3_add ∈ BIG := big_of (List.mem_of_getElem? (i := 608) (by decide +kernel)) (by decide +kernel)
theorem mcX3_read : Cond.code yX3_read cX3_read 3 none ∈ BIG := big_of (List.mem_of_getElem? (i := 645) (by decide +kernel)) (by decide +kernel)
theorem miX3_read : Cond.instanceMethod yX3_read ∈ BIG := big_of (List.mem_of_getElem? (i := 643) (by decide +kernel)) (by decide +kernel)
theorem meX3_read : Cond.selects RX3 yX3_read yX3_read ∈ BIG := big_of (List.mem_of_getElem? (i := 644) (by decide +kernel)) (by decide +kernel)
theorem mcX3_isItem : Cond.code yX3_isItem cX3_isItem 1 (some .boolean) ∈ BIG := big_of (List.mem_of_getElem? (i := 739) (by decide +kernel)) (by decide +kernel)
theorem miX3_isItem : Cond.instanceMethod yX3_isItem ∈ BIG := big_of (List.mem_of_getElem? (i := 737) (by decide +kernel)) (by decide +kernel)
theorem meX3_isItem : Cond.selects RX3 yX3_isItem yX3_isItem ∈ BIG := big_of (List.mem_of_getElem? (i := 738) (by decide +kernel)) (by decide +kernel)
theorem mcX3_kindRead : Cond.code yX3_kindRead cX3_kindRead 1 (some .int) ∈ BIG := big_of (List.mem_of_getElem? (i := 748) (by decide +kernel)) (by decide +kernel)
theorem miX3_kindRead : Cond.instanceMethod yX3_kindRead ∈ BIG := big_of (List.mem_of_getElem? (i := 746) (by decide +kernel)) (by decide +kernel)
theorem meX3_kindRead : Cond.selects RX3 yX3_kindRead yX3_kindRead ∈ BIG := big_of (List.mem_of_getElem? (i := 747) (by decide +kernel)) (by decide +kernel)
theorem mcX3_operandRead : Cond.code yX3_operandRead cX3_operandRead 1 (some .int) ∈ BIG := big_of (List.mem_of_getElem? (i := 752) (by decide +kernel)) (by decide +kernel)
theorem miX3_operandRead : Cond.instanceMethod yX3_operandRead ∈ BIG := big_of (List.mem_of_getElem? (i := 750) (by decide +kernel)) (by decide +kernel)
theorem meX3_operandRead : Cond.selects RX3 yX3_operandRead yX3_operandRead ∈ BIG := big_of (List.mem_of_getElem? (i := 751) (by decide +kernel)) (by decide +kernel)
theorem mcX3_errorIndex : Cond.code yX3_errorIndex cX3_errorIndex 1 (some .int) ∈ BIG := big_of (List.mem_of_getElem? (i := 743) (by decide +kernel)) (by decide +kernel)
theorem miX3_errorIndex : Cond.instanceMethod yX3_errorIndex ∈ BIG := big_of (List.mem_of_getElem? (i := 741) (by decide +kernel)) (by decide +kernel)
theorem meX3_errorIndex : Cond.selects RX3 yX3_errorIndex yX3_errorIndex ∈ BIG := big_of (List.mem_of_getElem? (i := 742) (by decide +kernel)) (by decide +kernel)
theorem mcX3_leastLength : Cond.code yX3_leastLength cX3_leastLength 2 (some .int) ∈ BIG := big_of (List.mem_of_getElem? (i := 718) (by decide +kernel)) (by decide +kernel)
theorem msX3_leastLength : Cond.static yX3_leastLength ∈ BIG := big_of (List.mem_of_getElem? (i := 717) (by decide +kernel)) (by decide +kernel)
theorem mcX3_matchedBy : Cond.code yX3_matchedBy cX3_matchedBy 5 (some .int) ∈ BIG := big_of (List.mem_of_getElem? (i := 649) (by decide +kernel)) (by decide +kernel)
theorem miX3_matchedBy : Cond.instanceMethod yX3_matchedBy ∈ BIG := big_of (List.mem_of_getElem? (i := 648) (by decide +kernel)) (by decide +kernel)
theorem meX3_matchedBy : Cond.selects RX3 yX3_matchedBy yX3_matchedBy ∈ BIG := big_of (List.mem_of_getElem? (i := 4) (by decide +kernel)) (by decide +kernel)
theorem mcX3_numberFrom : Cond.code yX3_numberFrom cX3_numberFrom 4 (some .int) ∈ BIG := big_of (List.mem_of_getElem? (i := 722) (by decide +kernel)) (by decide +kernel)
theorem miX3_numberFrom : Cond.instanceMethod yX3_numberFrom ∈ BIG := big_of (List.mem_of_getElem? (i := 721) (by decide +kernel)) (by decide +kernel)
theorem meX3_numberFrom : Cond.selects RX3 yX3_numberFrom yX3_numberFrom ∈ BIG := big_of (List.mem_of_getElem? (i := 5) (by decide +kernel)) (by decide +kernel)
theorem mcX4_init : Cond.code yX4_init cX4_init 3 none ∈ BIG := big_of (List.mem_of_getElem? (i := 201) (by decide +kernel)) (by decide +kernel)
theorem miX4_init : Cond.instanceMethod yX4_init ∈ BIG := big_of (List.mem_of_getElem? (i := 200) (by decide +kernel)) (by decide +kernel)
theorem mcX4_compute : Cond.code yX4_compute cX4_compute 4 none ∈ BIG := big_of (List.mem_of_getElem? (i := 372) (by decide +kernel)) (by decide +kernel)
theorem miX4_compute : Cond.instanceMethod yX4_compute ∈ BIG := big_of (List.mem_of_getElem? (i := 370) (by decide +kernel)) (by decide +kernel)
theorem meX4_compute : Cond.selects RX4 yX4_compute yX4_compute ∈ BIG := big_of (List.mem_of_getElem? (i := 371) (by decide +kernel)) (by decide +kernel)
theorem mcX4_sizeWith : Cond.code yX4_sizeWith cX4_sizeWith 4 (some .int) ∈ BIG := big_of (List.mem_of_getElem? (i := 381) (by decide +kernel)) (by decide +kernel)
theorem miX4_sizeWith : Cond.instanceMethod yX4_sizeWith ∈ BIG := big_of (List.mem_of_getElem? (i := 379) (by decide +kernel)) (by decide +kernel)
theorem meX4_sizeWith : Cond.selects RX4 yX4_sizeWith yX4_sizeWith ∈ BIG := big_of (List.mem_of_getElem? (i := 380) (by decide +kernel)) (by decide +kernel)
theorem mcX4_poolSize : Cond.code yX4_poolSize cX4_poolSize 4 (some .int) ∈ BIG := big_of (List.mem_of_getElem? (i := 404) (by decide +kernel)) (by decide +kernel)
theorem miX4_poolSize : Cond.instanceMethod yX4_poolSize ∈ BIG := big_of (List.mem_of_getElem? (i := 402) (by decide +kernel)) (by decide +kernel)
theorem meX4_poolSize : Cond.selects RX4 yX4_poolSize yX4_poolSize ∈ BIG := big_of (List.mem_of_getElem? (i := 403) (by decide +kernel)) (by decide +kernel)
theorem mcX4_addressAt : Cond.code yX4_addressAt cX4_addressAt 2 (some .int) ∈ BIG := big_of (List.mem_of_getElem? (i := 420) (by decide +kernel)) (by decide +kernel)
theorem miX4_addressAt : Cond.instanceMethod yX4_addressAt ∈ BIG := big_of (List.mem_of_getElem? (i := 418) (by decide +kernel)) (by decide +kernel)
theorem meX4_addressAt : Cond.selects RX4 yX4_addressAt yX4_addressAt ∈ BIG := big_of (List.mem_of_getElem? (i := 419) (by decide +kernel)) (by decide +kernel)
theorem mcX4_sizeAt : Cond.code yX4_sizeAt cX4_sizeAt 2 (some .int) ∈ BIG := big_of (List.mem_of_getElem? (i := 436) (by decide +kernel)) (by decide +kernel)
theorem miX4_sizeAt : Cond.instanceMethod yX4_sizeAt ∈ BIG := big_of (List.mem_of_getElem? (i := 434) (by decide +kernel)) (by decide +kernel)
theorem meX4_sizeAt : Cond.selects RX4 yX4_sizeAt yX4_sizeAt ∈ BIG := big_of (List.mem_of_getElem? (i := 435) (by decide +kernel)) (by decide +kernel)
theorem mcX4_sizeOfItems : Cond.code yX4_sizeOfItems cX4_sizeOfItems 1 (some .int) ∈ BIG := big_of (List.mem_of_getElem? (i := 416) (by decide +kernel)) (by decide +kernel)
theorem miX4_sizeOfItems : Cond.instanceMethod yX4_sizeOfItems ∈ BIG := big_of (List.mem_of_getElem? (i := 414) (by decide +kernel)) (by decide +kernel)
theorem meX4_sizeOfItems : Cond.selects RX4 yX4_sizeOfItems yX4_sizeOfItems ∈ BIG := big_of (List.mem_of_getElem? (i := 415) (by decide +kernel)) (by decide +kernel)
theorem mcX4_sizeWithEndPool : Cond.code yX4_sizeWithEndPool cX4_sizeWithEndPool 1 (some .int) ∈ BIG := big_of (List.mem_of_getElem? (i := 412) (by decide +kernel)) (by decide +kernel)
theorem miX4_sizeWithEndPool : Cond.instanceMethod yX4_sizeWithEndPool ∈ BIG := big_of (List.mem_of_getElem? (i := 410) (by decide +kernel)) (by decide +kernel)
theorem meX4_sizeWithEndPool : Cond.selects RX4 yX4_sizeWithEndPool yX4_sizeWithEndPool ∈ BIG := big_of (List.mem_of_getElem? (i := 411) (by decide +kernel)) (by decide +kernel)
theorem mcX4_paddingBytes : Cond.code yX4_paddingBytes cX4_paddingBytes 4 (some .int) ∈ BIG := big_of (List.mem_of_getElem? (i := 432) (by decide +kernel)) (by decide +kernel)
theorem miX4_paddingBytes : Cond.instanceMethod yX4_paddingBytes ∈ BIG := big_of (List.mem_of_getElem? (i := 430) (by decide +kernel)) (by decide +kernel)
theorem meX4_paddingBytes : Cond.selects RX4 yX4_paddingBytes yX4_paddingBytes ∈ BIG := big_of (List.mem_of_getElem? (i := 431) (by decide +kernel)) (by decide +kernel)
theorem mcX4_lastItemUpTo : Cond.code yX4_lastItemUpTo cX4_lastItemUpTo 4 (some .int) ∈ BIG := big_of (List.mem_of_getElem? (i := 893) (by decide +kernel)) (by decide +kernel)
theorem miX4_lastItemUpTo : Cond.instanceMethod yX4_lastItemUpTo ∈ BIG := big_of (List.mem_of_getElem? (i := 891) (by decide +kernel)) (by decide +kernel)
theorem meX4_lastItemUpTo : Cond.selects RX4 yX4_lastItemUpTo yX4_lastItemUpTo ∈ BIG := big_of (List.mem_of_getElem? (i := 892) (by decide +kernel)) (by decide +kernel)
theorem mcX4_addressWith : Cond.code yX4_addressWith cX4_addressWith 5 (some .int) ∈ BIG := big_of (List.mem_of_getElem? (i := 904) (by decide +kernel)) (by decide +kernel)
theorem miX4_addressWith : Cond.instanceMethod yX4_addressWith ∈ BIG := big_of (List.mem_of_getElem? (i := 902) (by decide +kernel)) (by decide +kernel)
theorem meX4_addressWith : Cond.selects RX4 yX4_addressWith yX4_addressWith ∈ BIG := big_of (List.mem_of_getElem? (i := 903) (by decide +kernel)) (by decide +kernel)
theorem mcX4_addressOfLiteral : Cond.code yX4_addressOfLiteral cX4_addressOfLiteral 5 (some .int) ∈ BIG := big_of (List.mem_of_getElem? (i := 496) (by decide +kernel)) (by decide +kernel)
theorem miX4_addressOfLiteral : Cond.instanceMethod yX4_addressOfLiteral ∈ BIG := big_of (List.mem_of_getElem? (i := 494) (by decide +kernel)) (by decide +kernel)
theorem meX4_addressOfLiteral : Cond.selects RX4 yX4_addressOfLiteral yX4_addressOfLiteral ∈ BIG := big_of (List.mem_of_getElem? (i := 495) (by decide +kernel)) (by decide +kernel)
theorem mcX4_distanceWith : Cond.code yX4_distanceWith cX4_distanceWith 4 (some .int) ∈ BIG := big_of (List.mem_of_getElem? (i := 488) (by decide +kernel)) (by decide +kernel)
theorem miX4_distanceWith : Cond.instanceMethod yX4_distanceWith ∈ BIG := big_of (List.mem_of_getElem? (i := 486) (by decide +kernel)) (by decide +kernel)
theorem meX4_distanceWith : Cond.selects RX4 yX4_distanceWith yX4_distanceWith ∈ BIG := big_of (List.mem_of_getElem? (i := 487) (by decide +kernel)) (by decide +kernel)
theorem mcX4_loadsBeyondReach : Cond.code yX4_loadsBeyondReach cX4_loadsBeyondReach 3 (some .int) ∈ BIG := big_of (List.mem_of_getElem? (i := 484) (by decide +kernel)) (by decide +kernel)
theorem miX4_loadsBeyondReach : Cond.instanceMethod yX4_loadsBeyondReach ∈ BIG := big_of (List.mem_of_getElem? (i := 482) (by decide +kernel)) (by decide +kernel)
theorem meX4_loadsBeyondReach : Cond.selects RX4 yX4_loadsBeyondReach yX4_loadsBeyondReach ∈ BIG := big_of (List.mem_of_getElem? (i := 483) (by decide +kernel)) (by decide +kernel)
theorem mcX4_slackOf : Cond.code yX4_slackOf cX4_slackOf 3 (some .int) ∈ BIG := big_of (List.mem_of_getElem? (i := 1229) (by decide +kernel)) (by decide +kernel)
theorem miX4_slackOf : Cond.instanceMethod yX4_slackOf ∈ BIG := big_of (List.mem_of_getElem? (i := 1227) (by decide +kernel)) (by decide +kernel)
theorem meX4_slackOf : Cond.selects RX4 yX4_slackOf yX4_slackOf ∈ BIG := big_of (List.mem_of_getElem? (i := 1228) (by decide +kernel)) (by decide +kernel)
theorem mcX5_init : Cond.code yX5_init cX5_init 2 none ∈ BIG := big_of (List.mem_of_getElem? (i := 167) (by decide +kernel)) (by decide +kernel)
theorem miX5_init : Cond.instanceMethod yX5_init ∈ BIG := big_of (List.mem_of_getElem? (i := 166) (by decide +kernel)) (by decide +kernel)
theorem mcX5_read : Cond.code yX5_read cX5_read 2 none ∈ BIG := big_of (List.mem_of_getElem? (i := 348) (by decide +kernel)) (by decide +kernel)
theorem miX5_read : Cond.instanceMethod yX5_read ∈ BIG := big_of (List.mem_of_getElem? (i := 346) (by decide +kernel)) (by decide +kernel)
theorem meX5_read : Cond.selects RX5 yX5_read yX5_read ∈ BIG := big_of (List.mem_of_getElem? (i := 347) (by decide +kernel)) (by decide +kernel)
theorem mcX5_readItem : Cond.code yX5_readItem cX5_readItem 3 none ∈ BIG := big_of (List.mem_of_getElem? (i := 356) (by decide +kernel)) (by decide +kernel)
theorem miX5_readItem : Cond.instanceMethod yX5_readItem ∈ BIG := big_of (List.mem_of_getElem? (i := 355) (by decide +kernel)) (by decide +kernel)
theorem meX5_readItem : Cond.selects RX5 yX5_readItem yX5_readItem ∈ BIG := big_of (List.mem_of_getElem? (i := 1) (by decide +kernel)) (by decide +kernel)
theorem mcX5_readLoad : Cond.code yX5_readLoad cX5_readLoad 3 none ∈ BIG := big_of (List.mem_of_getElem? (i := 368) (by decide +kernel)) (by decide +kernel)
theorem miX5_readLoad : Cond.instanceMethod yX5_readLoad ∈ BIG := big_of (List.mem_of_getElem? (i := 367) (by decide +kernel)) (by decide +kernel)
theorem meX5_readLoad : Cond.selects RX5 yX5_readLoad yX5_readLoad ∈ BIG := big_of (List.mem_of_getElem? (i := 2) (by decide +kernel)) (by decide +kernel)
theorem mcX5_definerOf : Cond.code yX5_definerOf cX5_definerOf 2 (some .int) ∈ BIG := big_of (List.mem_of_getElem? (i := 471) (by decide +kernel)) (by decide +kernel)
theorem miX5_definerOf : Cond.instanceMethod yX5_definerOf ∈ BIG := big_of (List.mem_of_getElem? (i := 469) (by decide +kernel)) (by decide +kernel)
theorem meX5_definerOf : Cond.selects RX5 yX5_definerOf yX5_definerOf ∈ BIG := big_of (List.mem_of_getElem? (i := 470) (by decide +kernel)) (by decide +kernel)
theorem mcX5_endPoolNumber : Cond.code yX5_endPoolNumber cX5_endPoolNumber 1 (some .int) ∈ BIG := big_of (List.mem_of_getElem? (i := 424) (by decide +kernel)) (by decide +kernel)
theorem miX5_endPoolNumber : Cond.instanceMethod yX5_endPoolNumber ∈ BIG := big_of (List.mem_of_getElem? (i := 422) (by decide +kernel)) (by decide +kernel)
theorem meX5_endPoolNumber : Cond.selects RX5 yX5_endPoolNumber yX5_endPoolNumber ∈ BIG := big_of (List.mem_of_getElem? (i := 423) (by decide +kernel)) (by decide +kernel)
theorem mcX5_poolAt : Cond.code yX5_poolAt cX5_poolAt 2 (some .int) ∈ BIG := big_of (List.mem_of_getElem? (i := 396) (by decide +kernel)) (by decide +kernel)
theorem miX5_poolAt : Cond.instanceMethod yX5_poolAt ∈ BIG := big_of (List.mem_of_getElem? (i := 394) (by decide +kernel)) (by decide +kernel)
theorem meX5_poolAt : Cond.selects RX5 yX5_poolAt yX5_poolAt ∈ BIG := big_of (List.mem_of_getElem? (i := 395) (by decide +kernel)) (by decide +kernel)
theorem mcX5_literalIndexAt : Cond.code yX5_literalIndexAt cX5_literalIndexAt 2 (some .int) ∈ BIG := big_of (List.mem_of_getElem? (i := 492) (by decide +kernel)) (by decide +kernel)
theorem miX5_literalIndexAt : Cond.instanceMethod yX5_literalIndexAt ∈ BIG := big_of (List.mem_of_getElem? (i := 490) (by decide +kernel)) (by decide +kernel)
theorem meX5_literalIndexAt : Cond.selects RX5 yX5_literalIndexAt yX5_literalIndexAt ∈ BIG := big_of (List.mem_of_getElem? (i := 491) (by decide +kernel)) (by decide +kernel)
theorem mcX5_literalsIn : Cond.code yX5_literalsIn cX5_literalsIn 2 (some .int) ∈ BIG := big_of (List.mem_of_getElem? (i := 408) (by decide +kernel)) (by decide +kernel)
theorem miX5_literalsIn : Cond.instanceMethod yX5_literalsIn ∈ BIG := big_of (List.mem_of_getElem? (i := 406) (by decide +kernel)) (by decide +kernel)
theorem meX5_literalsIn : Cond.selects RX5 yX5_literalsIn yX5_literalsIn ∈ BIG := big_of (List.mem_of_getElem? (i := 407) (by decide +kernel)) (by decide +kernel)
theorem mcX5_itemOfPool : Cond.code yX5_itemOfPool cX5_itemOfPool 2 (some .int) ∈ BIG := big_of (List.mem_of_getElem? (i := 440) (by decide +kernel)) (by decide +kernel)
theorem miX5_itemOfPool : Cond.instanceMethod yX5_itemOfPool ∈ BIG := big_of (List.mem_of_getElem? (i := 438) (by decide +kernel)) (by decide +kernel)
theorem meX5_itemOfPool : Cond.selects RX5 yX5_itemOfPool yX5_itemOfPool ∈ BIG := big_of (List.mem_of_getElem? (i := 439) (by decide +kernel)) (by decide +kernel)
theorem mcX5_valueOf : Cond.code yX5_valueOf cX5_valueOf 4 (some .int) ∈ BIG := big_of (List.mem_of_getElem? (i := 1189) (by decide +kernel)) (by decide +kernel)
theorem miX5_valueOf : Cond.instanceMethod yX5_valueOf ∈ BIG := big_of (List.mem_of_getElem? (i := 1187) (by decide +kernel)) (by decide +kernel)
theorem meX5_valueOf : Cond.selects RX5 yX5_valueOf yX5_valueOf ∈ BIG := big_of (List.mem_of_getElem? (i := 1188) (by decide +kernel)) (by decide +kernel)
theorem mcX6_init : Cond.code yX6_init cX6_init 1 none ∈ BIG := big_of (List.mem_of_getElem? (i := 105) (by decide +kernel)) (by decide +kernel)
theorem miX6_init : Cond.instanceMethod yX6_init ∈ BIG := big_of (List.mem_of_getElem? (i := 104) (by decide +kernel)) (by decide +kernel)
theorem mcX6_count : Cond.code yX6_count cX6_count 1 (some .int) ∈ BIG := big_of (List.mem_of_getElem? (i := 324) (by decide +kernel)) (by decide +kernel)
theorem miX6_count : Cond.instanceMethod yX6_count ∈ BIG := big_of (List.mem_of_getElem? (i := 322) (by decide +kernel)) (by decide +kernel)
theorem meX6_count : Cond.selects RX6 yX6_count yX6_count ∈ BIG := big_of (List.mem_of_getElem? (i := 323) (by decide +kernel)) (by decide +kernel)
theorem mcX6_isFull : Cond.code yX6_isFull cX6_isFull 1 (some .boolean) ∈ BIG := big_of (List.mem_of_getElem? (i := 760) (by decide +kernel)) (by decide +kernel)
theorem miX6_isFull : Cond.instanceMethod yX6_isFull ∈ BIG := big_of (List.mem_of_getElem? (i := 758) (by decide +kernel)) (by decide +kernel)
theorem meX6_isFull : Cond.selects RX6 yX6_isFull yX6_isFull ∈ BIG := big_of (List.mem_of_getElem? (i := 759) (by decide +kernel)) (by decide +kernel)
theorem mcX6_has : Cond.code yX6_has cX6_has 2 (some .boolean) ∈ BIG := big_of (List.mem_of_getElem? (i := 400) (by decide +kernel)) (by decide +kernel)
theorem miX6_has : Cond.instanceMethod yX6_has ∈ BIG := big_of (List.mem_of_getElem? (i := 398) (by decide +kernel)) (by decide +kernel)
theorem meX6_has : Cond.selects RX6 yX6_has yX6_has ∈ BIG := big_of (List.mem_of_getElem? (i := 399) (by decide +kernel)) (by decide +kernel)
theorem mcX6_kindAt : Cond.code yX6_kindAt cX6_kindAt 2 (some .int) ∈ BIG := big_of (List.mem_of_getElem? (i := 364) (by decide +kernel)) (by decide +kernel)
theorem miX6_kindAt : Cond.instanceMethod yX6_kindAt ∈ BIG := big_of (List.mem_of_getElem? (i := 362) (by decide +kernel)) (by decide +kernel)
theorem meX6_kindAt : Cond.selects RX6 yX6_kindAt yX6_kindAt ∈ BIG := big_of (List.mem_of_getElem? (i := 363) (by decide +kernel)) (by decide +kernel)
theorem mcX6_operandAt : Cond.code yX6_operandAt cX6_operandAt 2 (some .int) ∈ BIG := big_of (List.mem_of_getElem? (i := 360) (by decide +kernel)) (by decide +kernel)
theorem miX6_operandAt : Cond.instanceMethod yX6_operandAt ∈ BIG := big_of (List.mem_of_getElem? (i := 358) (by decide +kernel)) (by decide +kernel)
theorem meX6_operandAt : Cond.selects RX6 yX6_operandAt yX6_operandAt ∈ BIG := big_of (List.mem_of_getElem? (i := 359) (by decide +kernel)) (by decide +kernel)
theorem mcX6_formAt : Cond.code yX6_formAt cX6_formAt 2 (some .int) ∈ BIG := big_of (List.mem_of_getElem? (i := 377) (by decide +kernel)) (by decide +kernel)
theorem miX6_formAt : Cond.instanceMethod yX6_formAt ∈ BIG := big_of (List.mem_of_getElem? (i := 375) (by decide +kernel)) (by decide +kernel)
theorem meX6_formAt : Cond.selects RX6 yX6_formAt yX6_formAt ∈ BIG := big_of (List.mem_of_getElem? (i := 376) (by decide +kernel)) (by decide +kernel)
theorem mcX6_isTransfer : Cond.code yX6_isTransfer cX6_isTransfer 3 (some .boolean) ∈ BIG := big_of (List.mem_of_getElem? (i := 453) (by decide +kernel)) (by decide +kernel)
theorem miX6_isTransfer : Cond.instanceMethod yX6_isTransfer ∈ BIG := big_of (List.mem_of_getElem? (i := 451) (by decide +kernel)) (by decide +kernel)
theorem meX6_isTransfer : Cond.selects RX6 yX6_isTransfer yX6_isTransfer ∈ BIG := big_of (List.mem_of_getElem? (i := 452) (by decide +kernel)) (by decide +kernel)
theorem mcX6_defines : Cond.code yX6_defines cX6_defines 3 (some .boolean) ∈ BIG := big_of (List.mem_of_getElem? (i := 764) (by decide +kernel)) (by decide +kernel)
theorem miX6_defines : Cond.instanceMethod yX6_defines ∈ BIG := big_of (List.mem_of_getElem? (i := 762) (by decide +kernel)) (by decide +kernel)
theorem meX6_defines : Cond.selects RX6 yX6_defines yX6_defines ∈ BIG := big_of (List.mem_of_getElem? (i := 763) (by decide +kernel)) (by decide +kernel)
theorem mcX6_clear : Cond.code yX6_clear cX6_clear 1 none ∈ BIG := big_of (List.mem_of_getElem? (i := 328) (by decide +kernel)) (by decide +kernel)
theorem miX6_clear : Cond.instanceMethod yX6_clear ∈ BIG := big_of (List.mem_of_getElem? (i := 326) (by decide +kernel)) (by decide +kernel)
theorem meX6_clear : Cond.selects RX6 yX6_clear yX6_clear ∈ BIG := big_of (List.mem_of_getElem? (i := 327) (by decide +kernel)) (by decide +kernel)
theorem mcX6_putForm : Cond.code yX6_putForm cX6_putForm 3 none ∈ BIG := big_of (List.mem_of_getElem? (i := 870) (by decide +kernel)) (by decide +kernel)
theorem miX6_putForm : Cond.instanceMethod yX6_putForm ∈ BIG := big_of (List.mem_of_getElem? (i := 868) (by decide +kernel)) (by decide +kernel)
theorem meX6_putForm : Cond.selects RX6 yX6_putForm yX6_putForm ∈ BIG := big_of (List.mem_of_getElem? (i := 869) (by decide +kernel)) (by decide +kernel)
theorem mcX6_putAt : Cond.code yX6_putAt cX6_putAt 6 none ∈ BIG := big_of (List.mem_of_getElem? (i := 774) (by decide +kernel)) (by decide +kernel)
theorem miX6_putAt : Cond.instanceMethod yX6_putAt ∈ BIG := big_of (List.mem_of_getElem? (i := 772) (by decide +kernel)) (by decide +kernel)
theorem meX6_putAt : Cond.selects RX6 yX6_putAt yX6_putAt ∈ BIG := big_of (List.mem_of_getElem? (i := 773) (by decide +kernel)) (by decide +kernel)
theorem mcX6_takeOut : Cond.code yX6_takeOut cX6_takeOut 3 none ∈ BIG := big_of (List.mem_of_getElem? (i := 816) (by decide +kernel)) (by decide +kernel)
theorem miX6_takeOut : Cond.instanceMethod yX6_takeOut ∈ BIG := big_of (List.mem_of_getElem? (i := 814) (by decide +kernel)) (by decide +kernel)
theorem meX6_takeOut : Cond.selects RX6 yX6_takeOut yX6_takeOut ∈ BIG := big_of (List.mem_of_getElem? (i := 815) (by decide +kernel)) (by decide +kernel)
theorem mcX6_copyFrom : Cond.code yX6_copyFrom cX6_copyFrom 3 none ∈ BIG := big_of (List.mem_of_getElem? (i := 504) (by decide +kernel)) (by decide +kernel)
theorem miX6_copyFrom : Cond.instanceMethod yX6_copyFrom ∈ BIG := big_of (List.mem_of_getElem? (i := 502) (by decide +kernel)) (by decide +kernel)
theorem meX6_copyFrom : Cond.selects RX6 yX6_copyFrom yX6_copyFrom ∈ BIG := big_of (List.mem_of_getElem? (i := 503) (by decide +kernel)) (by decide +kernel)
theorem mcX7_init : Cond.code yX7_init cX7_init 4 none ∈ BIG := big_of (List.mem_of_getElem? (i := 217) (by decide +kernel)) (by decide +kernel)
theorem miX7_init : Cond.instanceMethod yX7_init ∈ BIG := big_of (List.mem_of_getElem? (i := 216) (by decide +kernel)) (by decide +kernel)
theorem mcX7_number : Cond.code yX7_number cX7_number 3 (some .int) ∈ BIG := big_of (List.mem_of_getElem? (i := 448) (by decide +kernel)) (by decide +kernel)
theorem miX7_number : Cond.instanceMethod yX7_number ∈ BIG := big_of (List.mem_of_getElem? (i := 446) (by decide +kernel)) (by decide +kernel)
theorem meX7_number : Cond.selects RX7 yX7_number yX7_number ∈ BIG := big_of (List.mem_of_getElem? (i := 447) (by decide +kernel)) (by decide +kernel)
theorem mcX7_numberWith : Cond.code yX7_numberWith cX7_numberWith 4 (some .int) ∈ BIG := big_of (List.mem_of_getElem? (i := 943) (by decide +kernel)) (by decide +kernel)
theorem miX7_numberWith : Cond.instanceMethod yX7_numberWith ∈ BIG := big_of (List.mem_of_getElem? (i := 941) (by decide +kernel)) (by decide +kernel)
theorem meX7_numberWith : Cond.selects RX7 yX7_numberWith yX7_numberWith ∈ BIG := big_of (List.mem_of_getElem? (i := 942) (by decide +kernel)) (by decide +kernel)
theorem mcX7_sumOfForms : Cond.code yX7_sumOfForms cX7_sumOfForms 1 (some .int) ∈ BIG := big_of (List.mem_of_getElem? (i := 1159) (by decide +kernel)) (by decide +kernel)
theorem miX7_sumOfForms : Cond.instanceMethod yX7_sumOfForms ∈ BIG := big_of (List.mem_of_getElem? (i := 1157) (by decide +kernel)) (by decide +kernel)
theorem meX7_sumOfForms : Cond.selects RX7 yX7_sumOfForms yX7_sumOfForms ∈ BIG := big_of (List.mem_of_getElem? (i := 1158) (by decide +kernel)) (by decide +kernel)
theorem mcX7_isDefined : Cond.code yX7_isDefined cX7_isDefined 2 (some .boolean) ∈ BIG := big_of (List.mem_of_getElem? (i := 466) (by decide +kernel)) (by decide +kernel)
theorem miX7_isDefined : Cond.instanceMethod yX7_isDefined ∈ BIG := big_of (List.mem_of_getElem? (i := 464) (by decide +kernel)) (by decide +kernel)
theorem meX7_isDefined : Cond.selects RX7 yX7_isDefined yX7_isDefined ∈ BIG := big_of (List.mem_of_getElem? (i := 465) (by decide +kernel)) (by decide +kernel)
theorem mcX7_numberUndefined : Cond.code yX7_numberUndefined cX7_numberUndefined 3 (some .int) ∈ BIG := big_of (List.mem_of_getElem? (i := 462) (by decide +kernel)) (by decide +kernel)
theorem miX7_numberUndefined : Cond.instanceMethod yX7_numberUndefined ∈ BIG := big_of (List.mem_of_getElem? (i := 460) (by decide +kernel)) (by decide +kernel)
theorem meX7_numberUndefined : Cond.selects RX7 yX7_numberUndefined yX7_numberUndefined ∈ BIG := big_of (List.mem_of_getElem? (i := 461) (by decide +kernel)) (by decide +kernel)
theorem mcX7_displacementAt : Cond.code yX7_displacementAt cX7_displacementAt 3 (some .int) ∈ BIG := big_of (List.mem_of_getElem? (i := 960) (by decide +kernel)) (by decide +kernel)
theorem miX7_displacementAt : Cond.instanceMethod yX7_displacementAt ∈ BIG := big_of (List.mem_of_getElem? (i := 958) (by decide +kernel)) (by decide +kernel)
theorem meX7_displacementAt : Cond.selects RX7 yX7_displacementAt yX7_displacementAt ∈ BIG := big_of (List.mem_of_getElem? (i := 959) (by decide +kernel)) (by decide +kernel)
theorem mcX7_isFitting : Cond.code yX7_isFitting cX7_isFitting 2 (some .boolean) ∈ BIG := big_of (List.mem_of_getElem? (i := 972) (by decide +kernel)) (by decide +kernel)
theorem miX7_isFitting : Cond.instanceMethod yX7_isFitting ∈ BIG := big_of (List.mem_of_getElem? (i := 970) (by decide +kernel)) (by decide +kernel)
theorem meX7_isFitting : Cond.selects RX7 yX7_isFitting yX7_isFitting ∈ BIG := big_of (List.mem_of_getElem? (i := 971) (by decide +kernel)) (by decide +kernel)
theorem mcX7_numberMisfitting : Cond.code yX7_numberMisfitting cX7_numberMisfitting 3 (some .int) ∈ BIG := big_of (List.mem_of_getElem? (i := 992) (by decide +kernel)) (by decide +kernel)
theorem miX7_numberMisfitting : Cond.instanceMethod yX7_numberMisfitting ∈ BIG := big_of (List.mem_of_getElem? (i := 990) (by decide +kernel)) (by decide +kernel)
theorem meX7_numberMisfitting : Cond.selects RX7 yX7_numberMisfitting yX7_numberMisfitting ∈ BIG := big_of (List.mem_of_getElem? (i := 991) (by decide +kernel)) (by decide +kernel)
theorem mcX7_growAll : Cond.code yX7_growAll cX7_growAll 2 (some .int) ∈ BIG := big_of (List.mem_of_getElem? (i := 1012) (by decide +kernel)) (by decide +kernel)
theorem miX7_growAll : Cond.instanceMethod yX7_growAll ∈ BIG := big_of (List.mem_of_getElem? (i := 1010) (by decide +kernel)) (by decide +kernel)
theorem meX7_growAll : Cond.selects RX7 yX7_growAll yX7_growAll ∈ BIG := big_of (List.mem_of_getElem? (i := 1011) (by decide +kernel)) (by decide +kernel)
theorem mcX7_growMisfits : Cond.code yX7_growMisfits cX7_growMisfits 3 (some .boolean) ∈ BIG := big_of (List.mem_of_getElem? (i := 1017) (by decide +kernel)) (by decide +kernel)
theorem miX7_growMisfits : Cond.instanceMethod yX7_growMisfits ∈ BIG := big_of (List.mem_of_getElem? (i := 1016) (by decide +kernel)) (by decide +kernel)
theorem meX7_growMisfits : Cond.selects RX7 yX7_growMisfits yX7_growMisfits ∈ BIG := big_of (List.mem_of_getElem? (i := 14) (by decide +kernel)) (by decide +kernel)
theorem mcX7_shrinkAll : Cond.code yX7_shrinkAll cX7_shrinkAll 5 (some .int) ∈ BIG := big_of (List.mem_of_getElem? (i := 1030) (by decide +kernel)) (by decide +kernel)
theorem miX7_shrinkAll : Cond.instanceMethod yX7_shrinkAll ∈ BIG := big_of (List.mem_of_getElem? (i := 1028) (by decide +kernel)) (by decide +kernel)
theorem meX7_shrinkAll : Cond.selects RX7 yX7_shrinkAll yX7_shrinkAll ∈ BIG := big_of (List.mem_of_getElem? (i := 1029) (by decide +kernel)) (by decide +kernel)
theorem mcX7_shrinkIfAllFit : Cond.code yX7_shrinkIfAllFit cX7_shrinkIfAllFit 3 (some .boolean) ∈ BIG := big_of (List.mem_of_getElem? (i := 1034) (by decide +kernel)) (by decide +kernel)
theorem miX7_shrinkIfAllFit : Cond.instanceMethod yX7_shrinkIfAllFit ∈ BIG := big_of (List.mem_of_getElem? (i := 1033) (by decide +kernel)) (by decide +kernel)
theorem meX7_shrinkIfAllFit : Cond.selects RX7 yX7_shrinkIfAllFit yX7_shrinkIfAllFit ∈ BIG := big_of (List.mem_of_getElem? (i := 15) (by decide +kernel)) (by decide +kernel)
theorem mcX8_init : Cond.code yX8_init cX8_init 1 none ∈ BIG := big_of (List.mem_of_getElem? (i := 97) (by decide +kernel)) (by decide +kernel)
theorem miX8_init : Cond.instanceMethod yX8_init ∈ BIG := big_of (List.mem_of_getElem? (i := 96) (by decide +kernel)) (by decide +kernel)
theorem mcX8_reset : Cond.code yX8_reset cX8_reset 2 (some .int) ∈ BIG := big_of (List.mem_of_getElem? (i := 320) (by decide +kernel)) (by decide +kernel)
theorem miX8_reset : Cond.instanceMethod yX8_reset ∈ BIG := big_of (List.mem_of_getElem? (i := 318) (by decide +kernel)) (by decide +kernel)
theorem meX8_reset : Cond.selects RX8 yX8_reset yX8_reset ∈ BIG := big_of (List.mem_of_getElem? (i := 319) (by decide +kernel)) (by decide +kernel)
theorem mcX8_itemCount : Cond.code yX8_itemCount cX8_itemCount 1 (some .int) ∈ BIG := big_of (List.mem_of_getElem? (i := 336) (by decide +kernel)) (by decide +kernel)
theorem miX8_itemCount : Cond.instanceMethod yX8_itemCount ∈ BIG := big_of (List.mem_of_getElem? (i := 334) (by decide +kernel)) (by decide +kernel)
theorem meX8_itemCount : Cond.selects RX8 yX8_itemCount yX8_itemCount ∈ BIG := big_of (List.mem_of_getElem? (i := 335) (by decide +kernel)) (by decide +kernel)
theorem mcX8_append : Cond.code yX8_append cX8_append 2 (some .int) ∈ BIG := big_of (List.mem_of_getElem? (i := 513) (by decide +kernel)) (by decide +kernel)
theorem miX8_append : Cond.instanceMethod yX8_append ∈ BIG := big_of (List.mem_of_getElem? (i := 511) (by decide +kernel)) (by decide +kernel)
theorem meX8_append : Cond.selects RX8 yX8_append yX8_append ∈ BIG := big_of (List.mem_of_getElem? (i := 512) (by decide +kernel)) (by decide +kernel)
theorem mcX8_insert : Cond.code yX8_insert cX8_insert 4 (some .int) ∈ BIG := big_of (List.mem_of_getElem? (i := 641) (by decide +kernel)) (by decide +kernel)
theorem miX8_insert : Cond.instanceMethod yX8_insert ∈ BIG := big_of (List.mem_of_getElem? (i := 639) (by decide +kernel)) (by decide +kernel)
theorem meX8_insert : Cond.selects RX8 yX8_insert yX8_insert ∈ BIG := big_of (List.mem_of_getElem? (i := 640) (by decide +kernel)) (by decide +kernel)
theorem mcX8_errorPosition : Cond.code yX8_errorPosition cX8_errorPosition 1 (some .int) ∈ BIG := big_of (List.mem_of_getElem? (i := 783) (by decide +kernel)) (by decide +kernel)
theorem miX8_errorPosition : Cond.instanceMethod yX8_errorPosition ∈ BIG := big_of (List.mem_of_getElem? (i := 781) (by decide +kernel)) (by decide +kernel)
theorem meX8_errorPosition : Cond.selects RX8 yX8_errorPosition yX8_errorPosition ∈ BIG := big_of (List.mem_of_getElem? (i := 782) (by decide +kernel)) (by decide +kernel)
theorem mcX8_remove : Cond.code yX8_remove cX8_remove 2 (some .int) ∈ BIG := big_of (List.mem_of_getElem? (i := 806) (by decide +kernel)) (by decide +kernel)
theorem miX8_remove : Cond.instanceMethod yX8_remove ∈ BIG := big_of (List.mem_of_getElem? (i := 804) (by decide +kernel)) (by decide +kernel)
theorem meX8_remove : Cond.selects RX8 yX8_remove yX8_remove ∈ BIG := big_of (List.mem_of_getElem? (i := 805) (by decide +kernel)) (by decide +kernel)
theorem mcX8_move : Cond.code yX8_move cX8_move 6 (some .int) ∈ BIG := big_of (List.mem_of_getElem? (i := 824) (by decide +kernel)) (by decide +kernel)
theorem miX8_move : Cond.instanceMethod yX8_move ∈ BIG := big_of (List.mem_of_getElem? (i := 822) (by decide +kernel)) (by decide +kernel)
theorem meX8_move : Cond.selects RX8 yX8_move yX8_move ∈ BIG := big_of (List.mem_of_getElem? (i := 823) (by decide +kernel)) (by decide +kernel)
theorem mcX8_item : Cond.code yX8_item cX8_item 3 (some .int) ∈ BIG := big_of (List.mem_of_getElem? (i := 834) (by decide +kernel)) (by decide +kernel)
theorem miX8_item : Cond.instanceMethod yX8_item ∈ BIG := big_of (List.mem_of_getElem? (i := 832) (by decide +kernel)) (by decide +kernel)
theorem meX8_item : Cond.selects RX8 yX8_item yX8_item ∈ BIG := big_of (List.mem_of_getElem? (i := 833) (by decide +kernel)) (by decide +kernel)
theorem mcX8_nameCharacter : Cond.code yX8_nameCharacter cX8_nameCharacter 4 (some .char) ∈ BIG := big_of (List.mem_of_getElem? (i := 844) (by decide +kernel)) (by decide +kernel)
theorem miX8_nameCharacter : Cond.instanceMethod yX8_nameCharacter ∈ BIG := big_of (List.mem_of_getElem? (i := 842) (by decide +kernel)) (by decide +kernel)
theorem meX8_nameCharacter : Cond.selects RX8 yX8_nameCharacter yX8_nameCharacter ∈ BIG := big_of (List.mem_of_getElem? (i := 843) (by decide +kernel)) (by decide +kernel)
theorem mcX8_setForm : Cond.code yX8_setForm cX8_setForm 4 (some .int) ∈ BIG := big_of (List.mem_of_getElem? (i := 855) (by decide +kernel)) (by decide +kernel)
theorem miX8_setForm : Cond.instanceMethod yX8_setForm ∈ BIG := big_of (List.mem_of_getElem? (i := 853) (by decide +kernel)) (by decide +kernel)
theorem meX8_setForm : Cond.selects RX8 yX8_setForm yX8_setForm ∈ BIG := big_of (List.mem_of_getElem? (i := 854) (by decide +kernel)) (by decide +kernel)
theorem mcX8_totalSize : Cond.code yX8_totalSize cX8_totalSize 1 (some .int) ∈ BIG := big_of (List.mem_of_getElem? (i := 340) (by decide +kernel)) (by decide +kernel)
theorem miX8_totalSize : Cond.instanceMethod yX8_totalSize ∈ BIG := big_of (List.mem_of_getElem? (i := 338) (by decide +kernel)) (by decide +kernel)
theorem meX8_totalSize : Cond.selects RX8 yX8_totalSize yX8_totalSize ∈ BIG := big_of (List.mem_of_getElem? (i := 339) (by decide +kernel)) (by decide +kernel)
theorem mcX8_padding : Cond.code yX8_padding cX8_padding 1 (some .int) ∈ BIG := big_of (List.mem_of_getElem? (i := 428) (by decide +kernel)) (by decide +kernel)
theorem miX8_padding : Cond.instanceMethod yX8_padding ∈ BIG := big_of (List.mem_of_getElem? (i := 426) (by decide +kernel)) (by decide +kernel)
theorem meX8_padding : Cond.selects RX8 yX8_padding yX8_padding ∈ BIG := big_of (List.mem_of_getElem? (i := 427) (by decide +kernel)) (by decide +kernel)
theorem mcX8_labelAddress : Cond.code yX8_labelAddress cX8_labelAddress 3 (some .int) ∈ BIG := big_of (List.mem_of_getElem? (i := 877) (by decide +kernel)) (by decide +kernel)
theorem miX8_labelAddress : Cond.instanceMethod yX8_labelAddress ∈ BIG := big_of (List.mem_of_getElem? (i := 875) (by decide +kernel)) (by decide +kernel)
theorem meX8_labelAddress : Cond.selects RX8 yX8_labelAddress yX8_labelAddress ∈ BIG := big_of (List.mem_of_getElem? (i := 876) (by decide +kernel)) (by decide +kernel)
theorem mcX8_itemAt : Cond.code yX8_itemAt cX8_itemAt 2 (some .int) ∈ BIG := big_of (List.mem_of_getElem? (i := 887) (by decide +kernel)) (by decide +kernel)
theorem miX8_itemAt : Cond.instanceMethod yX8_itemAt ∈ BIG := big_of (List.mem_of_getElem? (i := 885) (by decide +kernel)) (by decide +kernel)
theorem meX8_itemAt : Cond.selects RX8 yX8_itemAt yX8_itemAt ∈ BIG := big_of (List.mem_of_getElem? (i := 886) (by decide +kernel)) (by decide +kernel)
theorem mcX8_addressIf : Cond.code yX8_addressIf cX8_addressIf 3 (some .int) ∈ BIG := big_of (List.mem_of_getElem? (i := 900) (by decide +kernel)) (by decide +kernel)
theorem miX8_addressIf : Cond.instanceMethod yX8_addressIf ∈ BIG := big_of (List.mem_of_getElem? (i := 898) (by decide +kernel)) (by decide +kernel)
theorem meX8_addressIf : Cond.selects RX8 yX8_addressIf yX8_addressIf ∈ BIG := big_of (List.mem_of_getElem? (i := 899) (by decide +kernel)) (by decide +kernel)
theorem mcX8_possibleAddresses : Cond.code yX8_possibleAddresses cX8_possibleAddresses 2 (some .int) ∈ BIG := big_of (List.mem_of_getElem? (i := 911) (by decide +kernel)) (by decide +kernel)
theorem miX8_possibleAddresses : Cond.instanceMethod yX8_possibleAddresses ∈ BIG := big_of (List.mem_of_getElem? (i := 909) (by decide +kernel)) (by decide +kernel)
theorem meX8_possibleAddresses : Cond.selects RX8 yX8_possibleAddresses yX8_possibleAddresses ∈ BIG := big_of (List.mem_of_getElem? (i := 910) (by decide +kernel)) (by decide +kernel)
theorem mcX8_transferCount : Cond.code yX8_transferCount cX8_transferCount 1 (some .int) ∈ BIG := big_of (List.mem_of_getElem? (i := 444) (by decide +kernel)) (by decide +kernel)
theorem miX8_transferCount : Cond.instanceMethod yX8_transferCount ∈ BIG := big_of (List.mem_of_getElem? (i := 442) (by decide +kernel)) (by decide +kernel)
theorem meX8_transferCount : Cond.selects RX8 yX8_transferCount yX8_transferCount ∈ BIG := big_of (List.mem_of_getElem? (i := 443) (by decide +kernel)) (by decide +kernel)
theorem mcX8_formCount : Cond.code yX8_formCount cX8_formCount 2 (some .int) ∈ BIG := big_of (List.mem_of_getElem? (i := 939) (by decide +kernel)) (by decide +kernel)
theorem miX8_formCount : Cond.instanceMethod yX8_formCount ∈ BIG := big_of (List.mem_of_getElem? (i := 937) (by decide +kernel)) (by decide +kernel)
theorem meX8_formCount : Cond.selects RX8 yX8_formCount yX8_formCount ∈ BIG := big_of (List.mem_of_getElem? (i := 938) (by decide +kernel)) (by decide +kernel)
theorem mcX8_undefinedCount : Cond.code yX8_undefinedCount cX8_undefinedCount 1 (some .int) ∈ BIG := big_of (List.mem_of_getElem? (i := 458) (by decide +kernel)) (by decide +kernel)
theorem miX8_undefinedCount : Cond.instanceMethod yX8_undefinedCount ∈ BIG := big_of (List.mem_of_getElem? (i := 456) (by decide +kernel)) (by decide +kernel)
theorem meX8_undefinedCount : Cond.selects RX8 yX8_undefinedCount yX8_undefinedCount ∈ BIG := big_of (List.mem_of_getElem? (i := 457) (by decide +kernel)) (by decide +kernel)
theorem mcX8_displacement : Cond.code yX8_displacement cX8_displacement 2 (some .int) ∈ BIG := big_of (List.mem_of_getElem? (i := 951) (by decide +kernel)) (by decide +kernel)
theorem miX8_displacement : Cond.instanceMethod yX8_displacement ∈ BIG := big_of (List.mem_of_getElem? (i := 949) (by decide +kernel)) (by decide +kernel)
theorem meX8_displacement : Cond.selects RX8 yX8_displacement yX8_displacement ∈ BIG := big_of (List.mem_of_getElem? (i := 950) (by decide +kernel)) (by decide +kernel)
theorem mcX8_fits : Cond.code yX8_fits cX8_fits 2 (some .boolean) ∈ BIG := big_of (List.mem_of_getElem? (i := 968) (by decide +kernel)) (by decide +kernel)
theorem miX8_fits : Cond.instanceMethod yX8_fits ∈ BIG := big_of (List.mem_of_getElem? (i := 966) (by decide +kernel)) (by decide +kernel)
theorem meX8_fits : Cond.selects RX8 yX8_fits yX8_fits ∈ BIG := big_of (List.mem_of_getElem? (i := 967) (by decide +kernel)) (by decide +kernel)
theorem mcX8_misfits : Cond.code yX8_misfits cX8_misfits 1 (some .int) ∈ BIG := big_of (List.mem_of_getElem? (i := 983) (by decide +kernel)) (by decide +kernel)
theorem miX8_misfits : Cond.instanceMethod yX8_misfits ∈ BIG := big_of (List.mem_of_getElem? (i := 981) (by decide +kernel)) (by decide +kernel)
theorem meX8_misfits : Cond.selects RX8 yX8_misfits yX8_misfits ∈ BIG := big_of (List.mem_of_getElem? (i := 982) (by decide +kernel)) (by decide +kernel)
theorem mcX8_neededForm : Cond.code yX8_neededForm cX8_neededForm 2 (some .int) ∈ BIG := big_of (List.mem_of_getElem? (i := 1000) (by decide +kernel)) (by decide +kernel)
theorem miX8_neededForm : Cond.instanceMethod yX8_neededForm ∈ BIG := big_of (List.mem_of_getElem? (i := 998) (by decide +kernel)) (by decide +kernel)
theorem meX8_neededForm : Cond.selects RX8 yX8_neededForm yX8_neededForm ∈ BIG := big_of (List.mem_of_getElem? (i := 999) (by decide +kernel)) (by decide +kernel)
theorem mcX8_relax : Cond.code yX8_relax cX8_relax 1 (some .int) ∈ BIG := big_of (List.mem_of_getElem? (i := 1008) (by decide +kernel)) (by decide +kernel)
theorem miX8_relax : Cond.instanceMethod yX8_relax ∈ BIG := big_of (List.mem_of_getElem? (i := 1006) (by decide +kernel)) (by decide +kernel)
theorem meX8_relax : Cond.selects RX8 yX8_relax yX8_relax ∈ BIG := big_of (List.mem_of_getElem? (i := 1007) (by decide +kernel)) (by decide +kernel)
theorem mcX8_shrink : Cond.code yX8_shrink cX8_shrink 1 (some .int) ∈ BIG := big_of (List.mem_of_getElem? (i := 1025) (by decide +kernel)) (by decide +kernel)
