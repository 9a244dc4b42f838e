/-! Constructors: words -/
theorem oi_inst : Cond.instanceMethod Lib.objectInit ∈ BIG := big_of (List.mem_of_getElem? (i := 99) (by decide +kernel)) (by decide +kernel)
theorem oi_code : Cond.code Lib.objectInit ⟨#[0xb1]⟩ 1 none ∈ BIG := big_of (List.mem_of_getElem? (i := 100) (by decide +kernel)) (by decide +kernel)
theorem ac_int : Cond.arrayClass .int ∈ BIG := big_of (List.mem_of_getElem? (i := 120) (by decide +kernel)) (by decide +kernel)
theorem ac_char : Cond.arrayClass .char ∈ BIG := big_of (List.mem_of_getElem? (i := 162) (by decide +kernel)) (by decide +kernel)
theorem ac_boolean : Cond.arrayClass .boolean ∈ BIG := big_of (List.mem_of_getElem? (i := 282) (by decide +kernel)) (by decide +kernel)
theorem ac_long : Cond.arrayClass .long ∈ BIG := big_of (List.mem_of_getElem? (i := 1659) (by decide +kernel)) (by decide +kernel)
theorem ac_double : Cond.arrayClass .double ∈ BIG := big_of (List.mem_of_getElem? (i := 1660) (by decide +kernel)) (by decide +kernel)
theorem oi_X8 : Cond.methodLink RX8 3 Lib.objectInit ∈ BIG := big_of (List.mem_of_getElem? (i := 98) (by decide +kernel)) (by decide +kernel)
theorem oi_X6 : Cond.methodLink RX6 3 Lib.objectInit ∈ BIG := big_of (List.mem_of_getElem? (i := 106) (by decide +kernel)) (by decide +kernel)
theorem oi_X2 : Cond.methodLink RX2 3 Lib.objectInit ∈ BIG := big_of (List.mem_of_getElem? (i := 126) (by decide +kernel)) (by decide +kernel)
theorem oi_X3 : Cond.methodLink RX3 3 Lib.objectInit ∈ BIG := big_of (List.mem_of_getElem? (i := 145) (by decide +kernel)) (by decide +kernel)
theorem oi_X5 : Cond.methodLink RX5 3 Lib.objectInit ∈ BIG := big_of (List.mem_of_getElem? (i := 168) (by decide +kernel)) (by decide +kernel)
theorem oi_X4 : Cond.methodLink RX4 3 Lib.objectInit ∈ BIG := big_of (List.mem_of_getElem? (i := 202) (by decide +kernel)) (by decide +kernel)
theorem oi_X7 : Cond.methodLink RX7 3 Lib.objectInit ∈ BIG := big_of (List.mem_of_getElem? (i := 218) (by decide +kernel)) (by decide +kernel)
theorem oi_X1 : Cond.methodLink RX1 3 Lib.objectInit ∈ BIG := big_of (List.mem_of_getElem? (i := 234) (by decide +kernel)) (by decide +kernel)
theorem oi_X0 : Cond.methodLink RX0 3 Lib.objectInit ∈ BIG := big_of (List.mem_of_getElem? (i := 265) (by decide +kernel)) (by decide +kernel)
theorem oi_X9 : Cond.methodLink RX9 1 Lib.objectInit ∈ BIG := big_of (List.mem_of_getElem? (i := 1259) (by decide +kernel)) (by decide +kernel)
theorem nwL_8 : NW RL 8 10 [.null, .null, .null, .null, .null, .null, .null, .null, .null, .int 0, .int 0] := ⟨RX8, TX8, tyX8, rfl, inBX8, tyX8_ok, big_of (List.mem_of_getElem? (i := 93) (by decide +kernel)) (by decide +kernel), big_of (List.mem_of_getElem? (i := 94) (by decide +kernel)) (by decide +kernel), iniRX8, by decide +kernel⟩
theorem nwX8_9 : NW RX8 9 8 [.null, .null, .null, .int 0] := ⟨RX6, TX6, tyX6, rfl, inBX6, tyX6_ok, big_of (List.mem_of_getElem? (i := 101) (by decide +kernel)) (by decide +kernel), big_of (List.mem_of_getElem? (i := 102) (by decide +kernel)) (by decide +kernel), iniRX6, by decide +kernel⟩
theorem nwX8_19 : NW RX8 19 4 [.null, .int 0, .int 0] := ⟨RX2, TX2, tyX2, rfl, inBX2, tyX2_ok, big_of (List.mem_of_getElem? (i := 121) (by decide +kernel)) (by decide +kernel), big_of (List.mem_of_getElem? (i := 122) (by decide +kernel)) (by decide +kernel), iniRX2, by decide +kernel⟩
theorem nwX2_9 : NW RX2 9 8 [.null, .null, .null, .int 0] := ⟨RX6, TX6, tyX6, rfl, inBX6, tyX6_ok, big_of (List.mem_of_getElem? (i := 127) (by decide +kernel)) (by decide +kernel), big_of (List.mem_of_getElem? (i := 102) (by decide +kernel)) (by decide +kernel), iniRX6, by decide +kernel⟩
theorem nwX8_26 : NW RX8 26 5 [.null, .int 0, .int 0, .int 0, .int 0] := ⟨RX3, TX3, tyX3, rfl, inBX3, tyX3_ok, big_of (List.mem_of_getElem? (i := 140) (by decide +kernel)) (by decide +kernel), big_of (List.mem_of_getElem? (i := 141) (by decide +kernel)) (by decide +kernel), iniRX3, by decide +kernel⟩
theorem nwX8_33 : NW RX8 33 7 [.null, .null, .null, .null, .null, .null, .null, .null, .int 0] := ⟨RX5, TX5, tyX5, rfl, inBX5, tyX5_ok, big_of (List.mem_of_getElem? (i := 163) (by decide +kernel)) (by decide +kernel), big_of (List.mem_of_getElem? (i := 164) (by decide +kernel)) (by decide +kernel), iniRX5, by decide +kernel⟩
theorem nwX8_42 : NW RX8 42 6 [.null, .null, .null] := ⟨RX4, TX4, tyX4, rfl, inBX4, tyX4_ok, big_of (List.mem_of_getElem? (i := 197) (by decide +kernel)) (by decide +kernel), big_of (List.mem_of_getElem? (i := 198) (by decide +kernel)) (by decide +kernel), iniRX4, by decide +kernel⟩
theorem nwX8_51 : NW RX8 51 9 [.null, .null, .null] := ⟨RX7, TX7, tyX7, rfl, inBX7, tyX7_ok, big_of (List.mem_of_getElem? (i := 213) (by decide +kernel)) (by decide +kernel), big_of (List.mem_of_getElem? (i := 214) (by decide +kernel)) (by decide +kernel), iniRX7, by decide +kernel⟩
theorem nwX8_60 : NW RX8 60 3 [.null, .null, .null, .null, .null, .null, .int 0, .int 0] := ⟨RX1, TX1, tyX1, rfl, inBX1, tyX1_ok, big_of (List.mem_of_getElem? (i := 229) (by decide +kernel)) (by decide +kernel), big_of (List.mem_of_getElem? (i := 230) (by decide +kernel)) (by decide +kernel), iniRX1, by decide +kernel⟩
theorem nwX8_67 : NW RX8 67 2 [.null, .null, .null, .int 0, .int 0] := ⟨RX0, TX0, tyX0, rfl, inBX0, tyX0_ok, big_of (List.mem_of_getElem? (i := 260) (by decide +kernel)) (by decide +kernel), big_of (List.mem_of_getElem? (i := 261) (by decide +kernel)) (by decide +kernel), iniRX0, by decide +kernel⟩
theorem nwL_122 : NW RL 122 11 [.int 0, .null, .null, .int 0, .null, .int 0, .null, .int 0, .int 0, .null, .null, .int 0, .null, .int 0, .int 0, .null, .null, .null, .int 0, .int 0, .int 0] := ⟨RX9, TX9, tyX9, rfl, inBX9, tyX9_ok, big_of (List.mem_of_getElem? (i := 1254) (by decide +kernel)) (by decide +kernel), big_of (List.mem_of_getElem? (i := 1255) (by decide +kernel)) (by decide +kernel), iniRX9, by decide +kernel⟩
theorem fqX0_9 : FPQ RX0 9 2 2 (.array (.boolean)) := ⟨RX0, TX0, 5, tyX0, rfl, inBX0, by decide, big_of (List.mem_of_getElem? (i := 268) (by decide +kernel)) (by decide +kernel), tyX0_ok, nmX0, rfl, rfl, rfl⟩
theorem fqX0_22 : FPQ RX0 22 2 0 (.object "BranchRelaxer$Program") := ⟨RX0, TX0, 5, tyX0, rfl, inBX0, by decide, big_of (List.mem_of_getElem? (i := 266) (by decide +kernel)) (by decide +kernel), tyX0_ok, nmX0, rfl, rfl, rfl⟩
theorem fqX0_26 : FPQ RX0 26 2 1 (.object "BranchRelaxer$Layout") := ⟨RX0, TX0, 5, tyX0, rfl, inBX0, by decide, big_of (List.mem_of_getElem? (i := 267) (by decide +kernel)) (by decide +kernel), tyX0_ok, nmX0, rfl, rfl, rfl⟩
theorem fqX1_9 : FPQ RX1 9 3 3 (.array (.int)) := ⟨RX1, TX1, 8, tyX1, rfl, inBX1, by decide, big_of (List.mem_of_getElem? (i := 238) (by decide +kernel)) (by decide +kernel), tyX1_ok, nmX1, rfl, rfl, rfl⟩
theorem fqX1_15 : FPQ RX1 15 3 4 (.array (.int)) := ⟨RX1, TX1, 8, tyX1, rfl, inBX1, by decide, big_of (List.mem_of_getElem? (i := 239) (by decide +kernel)) (by decide +kernel), tyX1_ok, nmX1, rfl, rfl, rfl⟩
theorem fqX1_18 : FPQ RX1 18 3 5 (.array (.int)) := ⟨RX1, TX1, 8, tyX1, rfl, inBX1, by decide, big_of (List.mem_of_getElem? (i := 240) (by decide +kernel)) (by decide +kernel), tyX1_ok, nmX1, rfl, rfl, rfl⟩
theorem fqX1_28 : FPQ RX1 28 3 0 (.object "BranchRelaxer$Program") := ⟨RX1, TX1, 8, tyX1, rfl, inBX1, by decide, big_of (List.mem_of_getElem? (i := 235) (by decide +kernel)) (by decide +kernel), tyX1_ok, nmX1, rfl, rfl, rfl⟩
theorem fqX1_32 : FPQ RX1 32 3 1 (.object "BranchRelaxer$Links") := ⟨RX1, TX1, 8, tyX1, rfl, inBX1, by decide, big_of (List.mem_of_getElem? (i := 236) (by decide +kernel)) (by decide +kernel), tyX1_ok, nmX1, rfl, rfl, rfl⟩
theorem fqX1_36 : FPQ RX1 36 3 2 (.object "BranchRelaxer$Layout") := ⟨RX1, TX1, 8, tyX1, rfl, inBX1, by decide, big_of (List.mem_of_getElem? (i := 237) (by decide +kernel)) (by decide +kernel), tyX1_ok, nmX1, rfl, rfl, rfl⟩
theorem fqX2_11 : FPQ RX2 11 4 0 (.array (.object "BranchRelaxer$Program")) := ⟨RX2, TX2, 3, tyX2, rfl, inBX2, by decide, big_of (List.mem_of_getElem? (i := 130) (by decide +kernel)) (by decide +kernel), tyX2_ok, nmX2, rfl, rfl, rfl⟩
theorem fqX3_9 : FPQ RX3 9 5 0 (.array (.char)) := ⟨RX3, TX3, 5, tyX3, rfl, inBX3, by decide, big_of (List.mem_of_getElem? (i := 146) (by decide +kernel)) (by decide +kernel), tyX3_ok, nmX3, rfl, rfl, rfl⟩
theorem fqX4_9 : FPQ RX4 9 6 2 (.array (.int)) := ⟨RX4, TX4, 3, tyX4, rfl, inBX4, by decide, big_of (List.mem_of_getElem? (i := 205) (by decide +kernel)) (by decide +kernel), tyX4_ok, nmX4, rfl, rfl, rfl⟩
theorem fqX4_15 : FPQ RX4 15 6 0 (.object "BranchRelaxer$Program") := ⟨RX4, TX4, 3, tyX4, rfl, inBX4, by decide, big_of (List.mem_of_getElem? (i := 203) (by decide +kernel)) (by decide +kernel), tyX4_ok, nmX4, rfl, rfl, rfl⟩
theorem fqX4_19 : FPQ RX4 19 6 1 (.object "BranchRelaxer$Links") := ⟨RX4, TX4, 3, tyX4, rfl, inBX4, by decide, big_of (List.mem_of_getElem? (i := 204) (by decide +kernel)) (by decide +kernel), tyX4_ok, nmX4, rfl, rfl, rfl⟩
theorem fqX5_9 : FPQ RX5 9 7 1 (.array (.int)) := ⟨RX5, TX5, 9, tyX5, rfl, inBX5, by decide, big_of (List.mem_of_getElem? (i := 170) (by decide +kernel)) (by decide +kernel), tyX5_ok, nmX5, rfl, rfl, rfl⟩
theorem fqX5_15 : FPQ RX5 15 7 2 (.array (.int)) := ⟨RX5, TX5, 9, tyX5, rfl, inBX5, by decide, big_of (List.mem_of_getElem? (i := 171) (by decide +kernel)) (by decide +kernel), tyX5_ok, nmX5, rfl, rfl, rfl⟩
theorem fqX5_18 : FPQ RX5 18 7 3 (.array (.int)) := ⟨RX5, TX5, 9, tyX5, rfl, inBX5, by decide, big_of (List.mem_of_getElem? (i := 172) (by decide +kernel)) (by decide +kernel), tyX5_ok, nmX5, rfl, rfl, rfl⟩
theorem fqX5_21 : FPQ RX5 21 7 4 (.array (.int)) := ⟨RX5, TX5, 9, tyX5, rfl, inBX5, by decide, big_of (List.mem_of_getElem? (i := 173) (by decide +kernel)) (by decide +kernel), tyX5_ok, nmX5, rfl, rfl, rfl⟩
theorem fqX5_24 : FPQ RX5 24 7 5 (.array (.int)) := ⟨RX5, TX5, 9, tyX5, rfl, inBX5, by decide, big_of (List.mem_of_getElem? (i := 174) (by decide +kernel)) (by decide +kernel), tyX5_ok, nmX5, rfl, rfl, rfl⟩
theorem fqX5_27 : FPQ RX5 27 7 6 (.array (.int)) := ⟨RX5, TX5, 9, tyX5, rfl, inBX5, by decide, big_of (List.mem_of_getElem? (i := 175) (by decide +kernel)) (by decide +kernel), tyX5_ok, nmX5, rfl, rfl, rfl⟩
theorem fqX5_30 : FPQ RX5 30 7 7 (.array (.int)) := ⟨RX5, TX5, 9, tyX5, rfl, inBX5, by decide, big_of (List.mem_of_getElem? (i := 176) (by decide +kernel)) (by decide +kernel), tyX5_ok, nmX5, rfl, rfl, rfl⟩
theorem fqX5_37 : FPQ RX5 37 7 0 (.object "BranchRelaxer$Program") := ⟨RX5, TX5, 9, tyX5, rfl, inBX5, by decide, big_of (List.mem_of_getElem? (i := 169) (by decide +kernel)) (by decide +kernel), tyX5_ok, nmX5, rfl, rfl, rfl⟩
theorem fqX6_9 : FPQ RX6 9 8 0 (.array (.int)) := ⟨RX6, TX6, 4, tyX6, rfl, inBX6, by decide, big_of (List.mem_of_getElem? (i := 107) (by decide +kernel)) (by decide +kernel), tyX6_ok, nmX6, rfl, rfl, rfl⟩
theorem fqX6_15 : FPQ RX6 15 8 1 (.array (.int)) := ⟨RX6, TX6, 4, tyX6, rfl, inBX6, by decide, big_of (List.mem_of_getElem? (i := 108) (by decide +kernel)) (by decide +kernel), tyX6_ok, nmX6, rfl, rfl, rfl⟩
theorem fqX6_18 : FPQ RX6 18 8 2 (.array (.int)) := ⟨RX6, TX6, 4, tyX6, rfl, inBX6, by decide, big_of (List.mem_of_getElem? (i := 109) (by decide +kernel)) (by decide +kernel), tyX6_ok, nmX6, rfl, rfl, rfl⟩
theorem fqX7_9 : FPQ RX7 9 9 0 (.object "BranchRelaxer$Program") := ⟨RX7, TX7, 3, tyX7, rfl, inBX7, by decide, big_of (List.mem_of_getElem? (i := 219) (by decide +kernel)) (by decide +kernel), tyX7_ok, nmX7, rfl, rfl, rfl⟩
theorem fqX7_15 : FPQ RX7 15 9 1 (.object "BranchRelaxer$Links") := ⟨RX7, TX7, 3, tyX7, rfl, inBX7, by decide, big_of (List.mem_of_getElem? (i := 220) (by decide +kernel)) (by decide +kernel), tyX7_ok, nmX7, rfl, rfl, rfl⟩
theorem fqX7_19 : FPQ RX7 19 9 2 (.object "BranchRelaxer$Layout") := ⟨RX7, TX7, 3, tyX7, rfl, inBX7, by decide, big_of (List.mem_of_getElem? (i := 221) (by decide +kernel)) (by decide +kernel), tyX7_ok, nmX7, rfl, rfl, rfl⟩
theorem fqX8_12 : FPQ RX8 12 10 0 (.object "BranchRelaxer$Program") := ⟨RX8, TX8, 11, tyX8, rfl, inBX8, by decide, big_of (List.mem_of_getElem? (i := 283) (by decide +kernel)) (by decide +kernel), tyX8_ok, nmX8, rfl, rfl, rfl⟩
theorem fqX8_16 : FPQ RX8 16 10 1 (.object "BranchRelaxer$Program") := ⟨RX8, TX8, 11, tyX8, rfl, inBX8, by decide, big_of (List.mem_of_getElem? (i := 284) (by decide +kernel)) (by decide +kernel), tyX8_ok, nmX8, rfl, rfl, rfl⟩
theorem fqX8_22 : FPQ RX8 22 10 2 (.object "BranchRelaxer$History") := ⟨RX8, TX8, 11, tyX8, rfl, inBX8, by decide, big_of (List.mem_of_getElem? (i := 285) (by decide +kernel)) (by decide +kernel), tyX8_ok, nmX8, rfl, rfl, rfl⟩
theorem fqX8_29 : FPQ RX8 29 10 3 (.object "BranchRelaxer$ItemText") := ⟨RX8, TX8, 11, tyX8, rfl, inBX8, by decide, big_of (List.mem_of_getElem? (i := 286) (by decide +kernel)) (by decide +kernel), tyX8_ok, nmX8, rfl, rfl, rfl⟩
theorem fqX8_38 : FPQ RX8 38 10 4 (.object "BranchRelaxer$Links") := ⟨RX8, TX8, 11, tyX8, rfl, inBX8, by decide, big_of (List.mem_of_getElem? (i := 287) (by decide +kernel)) (by decide +kernel), tyX8_ok, nmX8, rfl, rfl, rfl⟩
theorem fqX8_47 : FPQ RX8 47 10 5 (.object "BranchRelaxer$Layout") := ⟨RX8, TX8, 11, tyX8, rfl, inBX8, by decide, big_of (List.mem_of_getElem? (i := 288) (by decide +kernel)) (by decide +kernel), tyX8_ok, nmX8, rfl, rfl, rfl⟩
theorem fqX8_56 : FPQ RX8 56 10 6 (.object "BranchRelaxer$Transfers") := ⟨RX8, TX8, 11, tyX8, rfl, inBX8, by decide, big_of (List.mem_of_getElem? (i := 289) (by decide +kernel)) (by decide +kernel), tyX8_ok, nmX8, rfl, rfl, rfl⟩
theorem fqX8_63 : FPQ RX8 63 10 7 (.object "BranchRelaxer$FormSearch") := ⟨RX8, TX8, 11, tyX8, rfl, inBX8, by decide, big_of (List.mem_of_getElem? (i := 290) (by decide +kernel)) (by decide +kernel), tyX8_ok, nmX8, rfl, rfl, rfl⟩
theorem fqX8_72 : FPQ RX8 72 10 8 (.object "BranchRelaxer$AddressSet") := ⟨RX8, TX8, 11, tyX8, rfl, inBX8, by decide, big_of (List.mem_of_getElem? (i := 291) (by decide +kernel)) (by decide +kernel), tyX8_ok, nmX8, rfl, rfl, rfl⟩
theorem fqX9_7 : FPQ RX9 7 11 1 (.array (.int)) := ⟨RX9, TX9, 21, tyX9, rfl, inBX9, by decide, big_of (List.mem_of_getElem? (i := 1261) (by decide +kernel)) (by decide +kernel), tyX9_ok, nmX9, rfl, rfl, rfl⟩
theorem fqX9_13 : FPQ RX9 13 11 2 (.array (.int)) := ⟨RX9, TX9, 21, tyX9, rfl, inBX9, by decide, big_of (List.mem_of_getElem? (i := 1262) (by decide +kernel)) (by decide +kernel), tyX9_ok, nmX9, rfl, rfl, rfl⟩
theorem fqX9_16 : FPQ RX9 16 11 4 (.array (.int)) := ⟨RX9, TX9, 21, tyX9, rfl, inBX9, by decide, big_of (List.mem_of_getElem? (i := 1264) (by decide +kernel)) (by decide +kernel), tyX9_ok, nmX9, rfl, rfl, rfl⟩
theorem fqX9_19 : FPQ RX9 19 11 6 (.array (.char)) := ⟨RX9, TX9, 21, tyX9, rfl, inBX9, by decide, big_of (List.mem_of_getElem? (i := 1266) (by decide +kernel)) (by decide +kernel), tyX9_ok, nmX9, rfl, rfl, rfl⟩
theorem fqX9_27 : FPQ RX9 27 11 9 (.array (.int)) := ⟨RX9, TX9, 21, tyX9, rfl, inBX9, by decide, big_of (List.mem_of_getElem? (i := 1269) (by decide +kernel)) (by decide +kernel), tyX9_ok, nmX9, rfl, rfl, rfl⟩
theorem fqX9_30 : FPQ RX9 30 11 10 (.array (.int)) := ⟨RX9, TX9, 21, tyX9, rfl, inBX9, by decide, big_of (List.mem_of_getElem? (i := 1270) (by decide +kernel)) (by decide +kernel), tyX9_ok, nmX9, rfl, rfl, rfl⟩
theorem fqX9_33 : FPQ RX9 33 11 12 (.array (.int)) := ⟨RX9, TX9, 21, tyX9, rfl, inBX9, by decide, big_of (List.mem_of_getElem? (i := 1272) (by decide +kernel)) (by decide +kernel), tyX9_ok, nmX9, rfl, rfl, rfl⟩
theorem fqX9_36 : FPQ RX9 36 11 15 (.array (.boolean)) := ⟨RX9, TX9, 21, tyX9, rfl, inBX9, by decide, big_of (List.mem_of_getElem? (i := 1275) (by decide +kernel)) (by decide +kernel), tyX9_ok, nmX9, rfl, rfl, rfl⟩
theorem fqX9_40 : FPQ RX9 40 11 16 (.array (.boolean)) := ⟨RX9, TX9, 21, tyX9, rfl, inBX9, by decide, big_of (List.mem_of_getElem? (i := 1276) (by decide +kernel)) (by decide +kernel), tyX9_ok, nmX9, rfl, rfl, rfl⟩
theorem fqX9_43 : FPQ RX9 43 11 17 (.array (.int)) := ⟨RX9, TX9, 21, tyX9, rfl, inBX9, by decide, big_of (List.mem_of_getElem? (i := 1277) (by decide +kernel)) (by decide +kernel), tyX9_ok, nmX9, rfl, rfl, rfl⟩
theorem mwX0_ctor : MWI yX0_init cX0_init 3 2 := ⟨mcX0_init, miX0_init, iniRX0, rfl, by decide +kernel, by decide⟩
theorem mwX1_ctor : MWI yX1_init cX1_init 4 3 := ⟨mcX1_init, miX1_init, iniRX1, rfl, by decide +kernel, by decide⟩
theorem mwX2_ctor : MWI yX2_init cX2_init 2 0 := ⟨mcX2_init, miX2_init, iniRX2, rfl, by decide +kernel, by decide⟩
theorem mwX3_ctor : MWI yX3_init cX3_init 1 0 := ⟨mcX3_init, miX3_init, iniRX3, rfl, by decide +kernel, by decide⟩
theorem mwX4_ctor : MWI yX4_init cX4_init 3 2 := ⟨mcX4_init, miX4_init, iniRX4, rfl, by decide +kernel, by decide⟩
theorem mwX5_ctor : MWI yX5_init cX5_init 2 1 := ⟨mcX5_init, miX5_init, iniRX5, rfl, by decide +kernel, by decide⟩
theorem mwX6_ctor : MWI yX6_init cX6_init 1 0 := ⟨mcX6_init, miX6_init, iniRX6, rfl, by decide +kernel, by decide⟩
theorem mwX7_ctor : MWI yX7_init cX7_init 4 3 := ⟨mcX7_init, miX7_init, iniRX7, rfl, by decide +kernel, by decide⟩
theorem mwX8_ctor : MWI yX8_init cX8_init 1 0 := ⟨mcX8_init, miX8_init, iniRX8, rfl, by decide +kernel, by decide⟩
theorem mwX9_ctor : MWI yX9_init cX9_init 1 0 := ⟨mcX9_init, miX9_init, iniRX9, rfl, by decide +kernel, by decide⟩
