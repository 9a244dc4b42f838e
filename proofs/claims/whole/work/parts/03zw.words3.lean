theorem lkL_36 : Cond.methodLink RL 36 yX8_item ∈ BIG := big_of (List.mem_of_getElem? (i := 831) (by decide +kernel)) (by decide +kernel)
theorem lkX8_182 : Cond.methodLink RX8 182 yX4_sizeAt ∈ BIG := big_of (List.mem_of_getElem? (i := 835) (by decide +kernel)) (by decide +kernel)
theorem lkX8_185 : Cond.methodLink RX8 185 yX4_addressAt ∈ BIG := big_of (List.mem_of_getElem? (i := 836) (by decide +kernel)) (by decide +kernel)
theorem lkL_160 : Cond.methodLink RL 160 yL_nameCharacter ∈ BIG := big_of (List.mem_of_getElem? (i := 838) (by decide +kernel)) (by decide +kernel)
theorem lkL_39 : Cond.methodLink RL 39 yX8_nameCharacter ∈ BIG := big_of (List.mem_of_getElem? (i := 841) (by decide +kernel)) (by decide +kernel)
theorem lkX8_190 : Cond.methodLink RX8 190 yX8_nameOf ∈ BIG := big_of (List.mem_of_getElem? (i := 845) (by decide +kernel)) (by decide +kernel)
theorem lkX8_194 : Cond.methodLink RX8 194 yJ0_length_8abf5 ∈ BIG := big_of (List.mem_of_getElem? (i := 846) (by decide +kernel)) (by decide +kernel)
theorem lkX8_201 : Cond.methodLink RX8 201 yJ0_charAt_5068e ∈ BIG := big_of (List.mem_of_getElem? (i := 848) (by decide +kernel)) (by decide +kernel)
theorem lkL_163 : Cond.methodLink RL 163 yL_setForm ∈ BIG := big_of (List.mem_of_getElem? (i := 849) (by decide +kernel)) (by decide +kernel)
theorem lkL_43 : Cond.methodLink RL 43 yX8_setForm ∈ BIG := big_of (List.mem_of_getElem? (i := 852) (by decide +kernel)) (by decide +kernel)
theorem lkX8_205 : Cond.methodLink RX8 205 yX8_requireTransfer ∈ BIG := big_of (List.mem_of_getElem? (i := 856) (by decide +kernel)) (by decide +kernel)
theorem lkX8_358 : Cond.methodLink RX8 358 yX6_isTransfer ∈ BIG := big_of (List.mem_of_getElem? (i := 860) (by decide +kernel)) (by decide +kernel)
theorem lkX8_208 : Cond.methodLink RX8 208 yX8_requireForm ∈ BIG := big_of (List.mem_of_getElem? (i := 862) (by decide +kernel)) (by decide +kernel)
theorem lkX8_211 : Cond.methodLink RX8 211 yX6_putForm ∈ BIG := big_of (List.mem_of_getElem? (i := 867) (by decide +kernel)) (by decide +kernel)
theorem lkL_174 : Cond.methodLink RL 174 yL_labelAddress ∈ BIG := big_of (List.mem_of_getElem? (i := 871) (by decide +kernel)) (by decide +kernel)
theorem lkL_46 : Cond.methodLink RL 46 yX8_labelAddress ∈ BIG := big_of (List.mem_of_getElem? (i := 874) (by decide +kernel)) (by decide +kernel)
theorem lkX8_223 : Cond.methodLink RX8 223 yX5_definerOf ∈ BIG := big_of (List.mem_of_getElem? (i := 879) (by decide +kernel)) (by decide +kernel)
theorem lkL_177 : Cond.methodLink RL 177 yL_itemAt ∈ BIG := big_of (List.mem_of_getElem? (i := 881) (by decide +kernel)) (by decide +kernel)
theorem lkL_49 : Cond.methodLink RL 49 yX8_itemAt ∈ BIG := big_of (List.mem_of_getElem? (i := 884) (by decide +kernel)) (by decide +kernel)
theorem lkX8_228 : Cond.methodLink RX8 228 yX4_sizeOfItems ∈ BIG := big_of (List.mem_of_getElem? (i := 888) (by decide +kernel)) (by decide +kernel)
theorem lkX8_233 : Cond.methodLink RX8 233 yX4_lastItemUpTo ∈ BIG := big_of (List.mem_of_getElem? (i := 890) (by decide +kernel)) (by decide +kernel)
theorem lkL_180 : Cond.methodLink RL 180 yL_addressIf ∈ BIG := big_of (List.mem_of_getElem? (i := 894) (by decide +kernel)) (by decide +kernel)
theorem lkL_52 : Cond.methodLink RL 52 yX8_addressIf ∈ BIG := big_of (List.mem_of_getElem? (i := 897) (by decide +kernel)) (by decide +kernel)
theorem lkX8_237 : Cond.methodLink RX8 237 yX4_addressWith ∈ BIG := big_of (List.mem_of_getElem? (i := 901) (by decide +kernel)) (by decide +kernel)
theorem lkL_183 : Cond.methodLink RL 183 yL_possibleAddresses ∈ BIG := big_of (List.mem_of_getElem? (i := 905) (by decide +kernel)) (by decide +kernel)
theorem lkL_55 : Cond.methodLink RL 55 yX8_possibleAddresses ∈ BIG := big_of (List.mem_of_getElem? (i := 908) (by decide +kernel)) (by decide +kernel)
theorem lkX8_241 : Cond.methodLink RX8 241 yX0_numberAt ∈ BIG := big_of (List.mem_of_getElem? (i := 912) (by decide +kernel)) (by decide +kernel)
theorem lkX0_30 : Cond.methodLink RX0 30 yX0_startWithZero ∈ BIG := big_of (List.mem_of_getElem? (i := 916) (by decide +kernel)) (by decide +kernel)
theorem lkX0_33 : Cond.methodLink RX0 33 yX6_count ∈ BIG := big_of (List.mem_of_getElem? (i := 920) (by decide +kernel)) (by decide +kernel)
theorem lkX0_39 : Cond.methodLink RX0 39 yX0_passItem ∈ BIG := big_of (List.mem_of_getElem? (i := 921) (by decide +kernel)) (by decide +kernel)
theorem lkX0_43 : Cond.methodLink RX0 43 yX6_isTransfer ∈ BIG := big_of (List.mem_of_getElem? (i := 925) (by decide +kernel)) (by decide +kernel)
theorem lkX0_47 : Cond.methodLink RX0 47 yX4_sizeWith ∈ BIG := big_of (List.mem_of_getElem? (i := 926) (by decide +kernel)) (by decide +kernel)
theorem lkX0_53 : Cond.methodLink RX0 53 yX0_hold ∈ BIG := big_of (List.mem_of_getElem? (i := 927) (by decide +kernel)) (by decide +kernel)
theorem lkX0_56 : Cond.methodLink RX0 56 yJ9_min_7cf53 ∈ BIG := big_of (List.mem_of_getElem? (i := 931) (by decide +kernel)) (by decide +kernel)
theorem lkX0_62 : Cond.methodLink RX0 62 yJ9_max_7cf53 ∈ BIG := big_of (List.mem_of_getElem? (i := 932) (by decide +kernel)) (by decide +kernel)
theorem lkL_190 : Cond.methodLink RL 190 yL_formCount ∈ BIG := big_of (List.mem_of_getElem? (i := 933) (by decide +kernel)) (by decide +kernel)
theorem lkL_58 : Cond.methodLink RL 58 yX8_formCount ∈ BIG := big_of (List.mem_of_getElem? (i := 936) (by decide +kernel)) (by decide +kernel)
theorem lkX8_247 : Cond.methodLink RX8 247 yX7_numberWith ∈ BIG := big_of (List.mem_of_getElem? (i := 940) (by decide +kernel)) (by decide +kernel)
theorem lkX7_33 : Cond.methodLink RX7 33 yX6_formAt ∈ BIG := big_of (List.mem_of_getElem? (i := 944) (by decide +kernel)) (by decide +kernel)
theorem lkL_197 : Cond.methodLink RL 197 yL_displacement ∈ BIG := big_of (List.mem_of_getElem? (i := 945) (by decide +kernel)) (by decide +kernel)
theorem lkL_61 : Cond.methodLink RL 61 yX8_displacement ∈ BIG := big_of (List.mem_of_getElem? (i := 948) (by decide +kernel)) (by decide +kernel)
theorem lkX8_253 : Cond.methodLink RX8 253 yX8_requireTarget ∈ BIG := big_of (List.mem_of_getElem? (i := 952) (by decide +kernel)) (by decide +kernel)
theorem lkX8_367 : Cond.methodLink RX8 367 yX7_isDefined ∈ BIG := big_of (List.mem_of_getElem? (i := 956) (by decide +kernel)) (by decide +kernel)
theorem lkX8_256 : Cond.methodLink RX8 256 yX7_displacementAt ∈ BIG := big_of (List.mem_of_getElem? (i := 957) (by decide +kernel)) (by decide +kernel)
theorem lkX7_51 : Cond.methodLink RX7 51 yX4_addressAt ∈ BIG := big_of (List.mem_of_getElem? (i := 961) (by decide +kernel)) (by decide +kernel)
theorem lkL_200 : Cond.methodLink RL 200 yL_fits ∈ BIG := big_of (List.mem_of_getElem? (i := 962) (by decide +kernel)) (by decide +kernel)
theorem lkL_64 : Cond.methodLink RL 64 yX8_fits ∈ BIG := big_of (List.mem_of_getElem? (i := 965) (by decide +kernel)) (by decide +kernel)
theorem lkX8_259 : Cond.methodLink RX8 259 yX7_isFitting ∈ BIG := big_of (List.mem_of_getElem? (i := 969) (by decide +kernel)) (by decide +kernel)
theorem lkX7_56 : Cond.methodLink RX7 56 yX7_displacementAt ∈ BIG := big_of (List.mem_of_getElem? (i := 973) (by decide +kernel)) (by decide +kernel)
theorem lkL_203 : Cond.methodLink RL 203 yL_misfits ∈ BIG := big_of (List.mem_of_getElem? (i := 977) (by decide +kernel)) (by decide +kernel)
theorem lkL_68 : Cond.methodLink RL 68 yX8_misfits ∈ BIG := big_of (List.mem_of_getElem? (i := 980) (by decide +kernel)) (by decide +kernel)
theorem lkX8_262 : Cond.methodLink RX8 262 yX8_requireAllDefined ∈ BIG := big_of (List.mem_of_getElem? (i := 984) (by decide +kernel)) (by decide +kernel)
theorem lkX8_268 : Cond.methodLink RX8 268 yX7_numberMisfitting ∈ BIG := big_of (List.mem_of_getElem? (i := 989) (by decide +kernel)) (by decide +kernel)
theorem lkX7_62 : Cond.methodLink RX7 62 yX7_isFitting ∈ BIG := big_of (List.mem_of_getElem? (i := 993) (by decide +kernel)) (by decide +kernel)
theorem lkL_206 : Cond.methodLink RL 206 yL_neededForm ∈ BIG := big_of (List.mem_of_getElem? (i := 994) (by decide +kernel)) (by decide +kernel)
theorem lkL_71 : Cond.methodLink RL 71 yX8_neededForm ∈ BIG := big_of (List.mem_of_getElem? (i := 997) (by decide +kernel)) (by decide +kernel)
theorem lkX8_271 : Cond.methodLink RX8 271 yX8_formFor ∈ BIG := big_of (List.mem_of_getElem? (i := 1001) (by decide +kernel)) (by decide +kernel)
theorem lkL_209 : Cond.methodLink RL 209 yL_relax ∈ BIG := big_of (List.mem_of_getElem? (i := 1002) (by decide +kernel)) (by decide +kernel)
theorem lkL_74 : Cond.methodLink RL 74 yX8_relax ∈ BIG := big_of (List.mem_of_getElem? (i := 1005) (by decide +kernel)) (by decide +kernel)
theorem lkX8_274 : Cond.methodLink RX8 274 yX7_growAll ∈ BIG := big_of (List.mem_of_getElem? (i := 1009) (by decide +kernel)) (by decide +kernel)
theorem lkX7_65 : Cond.methodLink RX7 65 yX6_putForm ∈ BIG := big_of (List.mem_of_getElem? (i := 1013) (by decide +kernel)) (by decide +kernel)
theorem lkX7_69 : Cond.methodLink RX7 69 yX7_growMisfits ∈ BIG := big_of (List.mem_of_getElem? (i := 1014) (by decide +kernel)) (by decide +kernel)
theorem lkX7_73 : Cond.methodLink RX7 73 yX4_compute ∈ BIG := big_of (List.mem_of_getElem? (i := 1018) (by decide +kernel)) (by decide +kernel)
theorem lkL_212 : Cond.methodLink RL 212 yL_shrink ∈ BIG := big_of (List.mem_of_getElem? (i := 1019) (by decide +kernel)) (by decide +kernel)
theorem lkL_77 : Cond.methodLink RL 77 yX8_shrink ∈ BIG := big_of (List.mem_of_getElem? (i := 1022) (by decide +kernel)) (by decide +kernel)
theorem lkX8_279 : Cond.methodLink RX8 279 yX7_shrinkAll ∈ BIG := big_of (List.mem_of_getElem? (i := 1027) (by decide +kernel)) (by decide +kernel)
theorem lkX7_76 : Cond.methodLink RX7 76 yX7_shrinkIfAllFit ∈ BIG := big_of (List.mem_of_getElem? (i := 1031) (by decide +kernel)) (by decide +kernel)
theorem lkX7_79 : Cond.methodLink RX7 79 yX7_numberMisfitting ∈ BIG := big_of (List.mem_of_getElem? (i := 1035) (by decide +kernel)) (by decide +kernel)
theorem lkL_215 : Cond.methodLink RL 215 yL_leastSize ∈ BIG := big_of (List.mem_of_getElem? (i := 1036) (by decide +kernel)) (by decide +kernel)
theorem lkL_80 : Cond.methodLink RL 80 yX8_leastSize ∈ BIG := big_of (List.mem_of_getElem? (i := 1040) (by decide +kernel)) (by decide +kernel)
theorem lkX8_282 : Cond.methodLink RX8 282 yX8_requireSearchable ∈ BIG := big_of (List.mem_of_getElem? (i := 1044) (by decide +kernel)) (by decide +kernel)
theorem lkX8_285 : Cond.methodLink RX8 285 yX1_run ∈ BIG := big_of (List.mem_of_getElem? (i := 1064) (by decide +kernel)) (by decide +kernel)
theorem lkX1_50 : Cond.methodLink RX1 50 yJ7_fill_53178 ∈ BIG := big_of (List.mem_of_getElem? (i := 1068) (by decide +kernel)) (by decide +kernel)
theorem lkX1_56 : Cond.methodLink RX1 56 yX1_tryFrom ∈ BIG := big_of (List.mem_of_getElem? (i := 1069) (by decide +kernel)) (by decide +kernel)
theorem lkX1_60 : Cond.methodLink RX1 60 yX1_placeUpToTransfer ∈ BIG := big_of (List.mem_of_getElem? (i := 1073) (by decide +kernel)) (by decide +kernel)
theorem lkX1_40 : Cond.methodLink RX1 40 yX6_count ∈ BIG := big_of (List.mem_of_getElem? (i := 1077) (by decide +kernel)) (by decide +kernel)
theorem lkX1_81 : Cond.methodLink RX1 81 yX6_isTransfer ∈ BIG := big_of (List.mem_of_getElem? (i := 1078) (by decide +kernel)) (by decide +kernel)
theorem lkX1_85 : Cond.methodLink RX1 85 yX6_kindAt ∈ BIG := big_of (List.mem_of_getElem? (i := 1079) (by decide +kernel)) (by decide +kernel)
theorem lkX1_89 : Cond.methodLink RX1 89 yX1_allFitForward ∈ BIG := big_of (List.mem_of_getElem? (i := 1080) (by decide +kernel)) (by decide +kernel)
theorem lkX1_92 : Cond.methodLink RX1 92 yX6_operandAt ∈ BIG := big_of (List.mem_of_getElem? (i := 1084) (by decide +kernel)) (by decide +kernel)
theorem lkX1_71 : Cond.methodLink RX1 71 yX4_sizeWith ∈ BIG := big_of (List.mem_of_getElem? (i := 1086) (by decide +kernel)) (by decide +kernel)
theorem lkX1_64 : Cond.methodLink RX1 64 yX1_keep ∈ BIG := big_of (List.mem_of_getElem? (i := 1087) (by decide +kernel)) (by decide +kernel)
theorem lkX1_103 : Cond.methodLink RX1 103 yX5_endPoolNumber ∈ BIG := big_of (List.mem_of_getElem? (i := 1091) (by decide +kernel)) (by decide +kernel)
theorem lkX1_106 : Cond.methodLink RX1 106 yX4_poolSize ∈ BIG := big_of (List.mem_of_getElem? (i := 1092) (by decide +kernel)) (by decide +kernel)
theorem lkX1_68 : Cond.methodLink RX1 68 yX1_tryForms ∈ BIG := big_of (List.mem_of_getElem? (i := 1096) (by decide +kernel)) (by decide +kernel)
theorem lkX1_77 : Cond.methodLink RX1 77 yX1_fitsBackward ∈ BIG := big_of (List.mem_of_getElem? (i := 1100) (by decide +kernel)) (by decide +kernel)
theorem lkX1_95 : Cond.methodLink RX1 95 yX5_definerOf ∈ BIG := big_of (List.mem_of_getElem? (i := 1104) (by decide +kernel)) (by decide +kernel)
theorem lkX8_288 : Cond.methodLink RX8 288 yX1_least ∈ BIG := big_of (List.mem_of_getElem? (i := 1105) (by decide +kernel)) (by decide +kernel)
theorem lkL_218 : Cond.methodLink RL 218 yL_optimize ∈ BIG := big_of (List.mem_of_getElem? (i := 1109) (by decide +kernel)) (by decide +kernel)
theorem lkL_85 : Cond.methodLink RL 85 yX8_optimize ∈ BIG := big_of (List.mem_of_getElem? (i := 1112) (by decide +kernel)) (by decide +kernel)
theorem lkX8_291 : Cond.methodLink RX8 291 yX1_takeBest ∈ BIG := big_of (List.mem_of_getElem? (i := 1116) (by decide +kernel)) (by decide +kernel)
theorem lkX1_46 : Cond.methodLink RX1 46 yX6_putForm ∈ BIG := big_of (List.mem_of_getElem? (i := 1120) (by decide +kernel)) (by decide +kernel)
theorem lkL_221 : Cond.methodLink RL 221 yL_consistentChoices ∈ BIG := big_of (List.mem_of_getElem? (i := 1121) (by decide +kernel)) (by decide +kernel)
theorem lkL_88 : Cond.methodLink RL 88 yX8_consistentChoices ∈ BIG := big_of (List.mem_of_getElem? (i := 1124) (by decide +kernel)) (by decide +kernel)
theorem lkX8_294 : Cond.methodLink RX8 294 yX1_choicesFound ∈ BIG := big_of (List.mem_of_getElem? (i := 1128) (by decide +kernel)) (by decide +kernel)
theorem lkL_224 : Cond.methodLink RL 224 yL_averageForm ∈ BIG := big_of (List.mem_of_getElem? (i := 1132) (by decide +kernel)) (by decide +kernel)
theorem lkL_91 : Cond.methodLink RL 91 yX8_averageForm ∈ BIG := big_of (List.mem_of_getElem? (i := 1149) (by decide +kernel)) (by decide +kernel)
theorem lkX8_302 : Cond.methodLink RX8 302 yX7_sumOfForms ∈ BIG := big_of (List.mem_of_getElem? (i := 1156) (by decide +kernel)) (by decide +kernel)
theorem lkX7_37 : Cond.methodLink RX7 37 yX7_numberWith ∈ BIG := big_of (List.mem_of_getElem? (i := 1160) (by decide +kernel)) (by decide +kernel)
theorem lkL_232 : Cond.methodLink RL 232 yL_literalCount ∈ BIG := big_of (List.mem_of_getElem? (i := 1161) (by decide +kernel)) (by decide +kernel)
theorem lkL_97 : Cond.methodLink RL 97 yX8_literalCount ∈ BIG := big_of (List.mem_of_getElem? (i := 1164) (by decide +kernel)) (by decide +kernel)
theorem lkX8_308 : Cond.methodLink RX8 308 yX8_requirePool ∈ BIG := big_of (List.mem_of_getElem? (i := 1168) (by decide +kernel)) (by decide +kernel)
theorem lkX8_311 : Cond.methodLink RX8 311 yX5_literalsIn ∈ BIG := big_of (List.mem_of_getElem? (i := 1173) (by decide +kernel)) (by decide +kernel)
theorem lkL_235 : Cond.methodLink RL 235 yL_literal ∈ BIG := big_of (List.mem_of_getElem? (i := 1174) (by decide +kernel)) (by decide +kernel)
theorem lkL_100 : Cond.methodLink RL 100 yX8_literal ∈ BIG := big_of (List.mem_of_getElem? (i := 1177) (by decide +kernel)) (by decide +kernel)
theorem lkX8_314 : Cond.methodLink RX8 314 yX8_requireLiteral ∈ BIG := big_of (List.mem_of_getElem? (i := 1181) (by decide +kernel)) (by decide +kernel)
theorem lkX8_317 : Cond.methodLink RX8 317 yX5_valueOf ∈ BIG := big_of (List.mem_of_getElem? (i := 1186) (by decide +kernel)) (by decide +kernel)
theorem lkL_238 : Cond.methodLink RL 238 yL_literalAddress ∈ BIG := big_of (List.mem_of_getElem? (i := 1190) (by decide +kernel)) (by decide +kernel)
theorem lkL_103 : Cond.methodLink RL 103 yX8_literalAddress ∈ BIG := big_of (List.mem_of_getElem? (i := 1193) (by decide +kernel)) (by decide +kernel)
theorem lkX8_320 : Cond.methodLink RX8 320 yX4_addressOfLiteral ∈ BIG := big_of (List.mem_of_getElem? (i := 1197) (by decide +kernel)) (by decide +kernel)
theorem lkL_241 : Cond.methodLink RL 241 yL_poolOf ∈ BIG := big_of (List.mem_of_getElem? (i := 1198) (by decide +kernel)) (by decide +kernel)
theorem lkL_106 : Cond.methodLink RL 106 yX8_poolOf ∈ BIG := big_of (List.mem_of_getElem? (i := 1201) (by decide +kernel)) (by decide +kernel)
theorem lkX8_324 : Cond.methodLink RX8 324 yX8_requireLoad ∈ BIG := big_of (List.mem_of_getElem? (i := 1205) (by decide +kernel)) (by decide +kernel)
theorem lkX8_327 : Cond.methodLink RX8 327 yX5_poolAt ∈ BIG := big_of (List.mem_of_getElem? (i := 1210) (by decide +kernel)) (by decide +kernel)
theorem lkL_244 : Cond.methodLink RL 244 yL_distance ∈ BIG := big_of (List.mem_of_getElem? (i := 1211) (by decide +kernel)) (by decide +kernel)
theorem lkL_109 : Cond.methodLink RL 109 yX8_distance ∈ BIG := big_of (List.mem_of_getElem? (i := 1214) (by decide +kernel)) (by decide +kernel)
theorem lkX8_330 : Cond.methodLink RX8 330 yX4_distanceWith ∈ BIG := big_of (List.mem_of_getElem? (i := 1218) (by decide +kernel)) (by decide +kernel)
theorem lkL_251 : Cond.methodLink RL 251 yL_slack ∈ BIG := big_of (List.mem_of_getElem? (i := 1219) (by decide +kernel)) (by decide +kernel)
theorem lkL_112 : Cond.methodLink RL 112 yX8_slack ∈ BIG := big_of (List.mem_of_getElem? (i := 1222) (by decide +kernel)) (by decide +kernel)
theorem lkX8_336 : Cond.methodLink RX8 336 yX4_slackOf ∈ BIG := big_of (List.mem_of_getElem? (i := 1226) (by decide +kernel)) (by decide +kernel)
theorem lkL_254 : Cond.methodLink RL 254 yL_undo ∈ BIG := big_of (List.mem_of_getElem? (i := 1230) (by decide +kernel)) (by decide +kernel)
theorem lkL_115 : Cond.methodLink RL 115 yX8_undo ∈ BIG := big_of (List.mem_of_getElem? (i := 1233) (by decide +kernel)) (by decide +kernel)
theorem lkX8_339 : Cond.methodLink RX8 339 yX2_isEmpty ∈ BIG := big_of (List.mem_of_getElem? (i := 1237) (by decide +kernel)) (by decide +kernel)
theorem lkX8_344 : Cond.methodLink RX8 344 yX2_takeBack ∈ BIG := big_of (List.mem_of_getElem? (i := 1242) (by decide +kernel)) (by decide +kernel)
theorem lkL_261 : Cond.methodLink RL 261 yL_restore ∈ BIG := big_of (List.mem_of_getElem? (i := 1246) (by decide +kernel)) (by decide +kernel)
theorem lkL_118 : Cond.methodLink RL 118 yX8_restore ∈ BIG := big_of (List.mem_of_getElem? (i := 1249) (by decide +kernel)) (by decide +kernel)
theorem lkL_124 : Cond.methodLink RL 124 yX9_init ∈ BIG := big_of (List.mem_of_getElem? (i := 1256) (by decide +kernel)) (by decide +kernel)
theorem lkL_139 : Cond.methodLink RL 139 yX9_thrown ∈ BIG := big_of (List.mem_of_getElem? (i := 1324) (by decide +kernel)) (by decide +kernel)
theorem lkL_128 : Cond.methodLink RL 128 yX9_reset ∈ BIG := big_of (List.mem_of_getElem? (i := 1328) (by decide +kernel)) (by decide +kernel)
theorem lkX9_90 : Cond.methodLink RX9 90 yX9_done ∈ BIG := big_of (List.mem_of_getElem? (i := 1332) (by decide +kernel)) (by decide +kernel)
theorem lkL_132 : Cond.methodLink RL 132 yX9_itemCount ∈ BIG := big_of (List.mem_of_getElem? (i := 1336) (by decide +kernel)) (by decide +kernel)
theorem lkL_138 : Cond.methodLink RL 138 yX9_append ∈ BIG := big_of (List.mem_of_getElem? (i := 1340) (by decide +kernel)) (by decide +kernel)
theorem lkX9_49 : Cond.methodLink RX9 49 yX9_in ∈ BIG := big_of (List.mem_of_getElem? (i := 1344) (by decide +kernel)) (by decide +kernel)
theorem lkX9_93 : Cond.methodLink RX9 93 yX9_fails ∈ BIG := big_of (List.mem_of_getElem? (i := 1347) (by decide +kernel)) (by decide +kernel)
theorem lkL_145 : Cond.methodLink RL 145 yX9_insert ∈ BIG := big_of (List.mem_of_getElem? (i := 1351) (by decide +kernel)) (by decide +kernel)
theorem lkX9_121 : Cond.methodLink RX9 121 yX9_goes ∈ BIG := big_of (List.mem_of_getElem? (i := 1355) (by decide +kernel)) (by decide +kernel)
theorem lkX9_99 : Cond.methodLink RX9 99 yX9_nameSize ∈ BIG := big_of (List.mem_of_getElem? (i := 1359) (by decide +kernel)) (by decide +kernel)
theorem lkX9_109 : Cond.methodLink RX9 109 yX9_isFigure ∈ BIG := big_of (List.mem_of_getElem? (i := 1363) (by decide +kernel)) (by decide +kernel)
theorem lkX9_124 : Cond.methodLink RX9 124 yX9_isOperand ∈ BIG := big_of (List.mem_of_getElem? (i := 1367) (by decide +kernel)) (by decide +kernel)
theorem lkX9_128 : Cond.methodLink RX9 128 yX9_defines ∈ BIG := big_of (List.mem_of_getElem? (i := 1370) (by decide +kernel)) (by decide +kernel)
theorem lkX9_53 : Cond.methodLink RX9 53 yX9_kind ∈ BIG := big_of (List.mem_of_getElem? (i := 1374) (by decide +kernel)) (by decide +kernel)
theorem lkX9_63 : Cond.methodLink RX9 63 yX9_operand ∈ BIG := big_of (List.mem_of_getElem? (i := 1378) (by decide +kernel)) (by decide +kernel)
theorem lkX9_131 : Cond.methodLink RX9 131 yX9_remembers ∈ BIG := big_of (List.mem_of_getElem? (i := 1382) (by decide +kernel)) (by decide +kernel)
theorem lkX9_134 : Cond.methodLink RX9 134 yX9_opens ∈ BIG := big_of (List.mem_of_getElem? (i := 1386) (by decide +kernel)) (by decide +kernel)
theorem lkX9_83 : Cond.methodLink RX9 83 yX9_form ∈ BIG := big_of (List.mem_of_getElem? (i := 1390) (by decide +kernel)) (by decide +kernel)
theorem lkX9_113 : Cond.methodLink RX9 113 yX9_forms ∈ BIG := big_of (List.mem_of_getElem? (i := 1394) (by decide +kernel)) (by decide +kernel)
theorem lkX9_117 : Cond.methodLink RX9 117 yX9_puts ∈ BIG := big_of (List.mem_of_getElem? (i := 1398) (by decide +kernel)) (by decide +kernel)
theorem lkL_149 : Cond.methodLink RL 149 yX9_errorPosition ∈ BIG := big_of (List.mem_of_getElem? (i := 1402) (by decide +kernel)) (by decide +kernel)
theorem lkL_152 : Cond.methodLink RL 152 yX9_remove ∈ BIG := big_of (List.mem_of_getElem? (i := 1406) (by decide +kernel)) (by decide +kernel)
theorem lkX9_137 : Cond.methodLink RX9 137 yX9_isItem ∈ BIG := big_of (List.mem_of_getElem? (i := 1410) (by decide +kernel)) (by decide +kernel)
theorem lkX9_140 : Cond.methodLink RX9 140 yX9_closes ∈ BIG := big_of (List.mem_of_getElem? (i := 1414) (by decide +kernel)) (by decide +kernel)
theorem lkL_156 : Cond.methodLink RL 156 yX9_move ∈ BIG := big_of (List.mem_of_getElem? (i := 1418) (by decide +kernel)) (by decide +kernel)
theorem lkL_159 : Cond.methodLink RL 159 yX9_item ∈ BIG := big_of (List.mem_of_getElem? (i := 1422) (by decide +kernel)) (by decide +kernel)
theorem lkX9_143 : Cond.methodLink RX9 143 yX9_lays ∈ BIG := big_of (List.mem_of_getElem? (i := 1426) (by decide +kernel)) (by decide +kernel)
theorem lkX9_86 : Cond.methodLink RX9 86 yX9_sizeAt ∈ BIG := big_of (List.mem_of_getElem? (i := 1430) (by decide +kernel)) (by decide +kernel)
theorem lkX9_73 : Cond.methodLink RX9 73 yX9_upTo ∈ BIG := big_of (List.mem_of_getElem? (i := 1434) (by decide +kernel)) (by decide +kernel)
theorem lkX9_77 : Cond.methodLink RX9 77 yX9_transferSize ∈ BIG := big_of (List.mem_of_getElem? (i := 1437) (by decide +kernel)) (by decide +kernel)
theorem lkX9_80 : Cond.methodLink RX9 80 yX9_poolSize ∈ BIG := big_of (List.mem_of_getElem? (i := 1440) (by decide +kernel)) (by decide +kernel)
theorem lkX9_69 : Cond.methodLink RX9 69 yX9_tellValues ∈ BIG := big_of (List.mem_of_getElem? (i := 1444) (by decide +kernel)) (by decide +kernel)
theorem lkX9_66 : Cond.methodLink RX9 66 yX9_valueAt ∈ BIG := big_of (List.mem_of_getElem? (i := 1448) (by decide +kernel)) (by decide +kernel)
theorem lkL_162 : Cond.methodLink RL 162 yX9_nameCharacter ∈ BIG := big_of (List.mem_of_getElem? (i := 1452) (by decide +kernel)) (by decide +kernel)
theorem lkL_165 : Cond.methodLink RL 165 yX9_setForm ∈ BIG := big_of (List.mem_of_getElem? (i := 1456) (by decide +kernel)) (by decide +kernel)
theorem lkX9_146 : Cond.methodLink RX9 146 yX9_isTransfer ∈ BIG := big_of (List.mem_of_getElem? (i := 1460) (by decide +kernel)) (by decide +kernel)
theorem lkL_169 : Cond.methodLink RL 169 yX9_totalSize ∈ BIG := big_of (List.mem_of_getElem? (i := 1464) (by decide +kernel)) (by decide +kernel)
theorem lkX9_149 : Cond.methodLink RX9 149 yX9_total ∈ BIG := big_of (List.mem_of_getElem? (i := 1468) (by decide +kernel)) (by decide +kernel)
theorem lkL_173 : Cond.methodLink RL 173 yX9_padding ∈ BIG := big_of (List.mem_of_getElem? (i := 1472) (by decide +kernel)) (by decide +kernel)
theorem lkL_176 : Cond.methodLink RL 176 yX9_labelAddress ∈ BIG := big_of (List.mem_of_getElem? (i := 1476) (by decide +kernel)) (by decide +kernel)
theorem lkL_179 : Cond.methodLink RL 179 yX9_itemAt ∈ BIG := big_of (List.mem_of_getElem? (i := 1480) (by decide +kernel)) (by decide +kernel)
theorem lkL_182 : Cond.methodLink RL 182 yX9_addressIf ∈ BIG := big_of (List.mem_of_getElem? (i := 1484) (by decide +kernel)) (by decide +kernel)
theorem lkL_185 : Cond.methodLink RL 185 yX9_possibleAddresses ∈ BIG := big_of (List.mem_of_getElem? (i := 1488) (by decide +kernel)) (by decide +kernel)
theorem lkX9_153 : Cond.methodLink RX9 153 yX9_goesOn ∈ BIG := big_of (List.mem_of_getElem? (i := 1492) (by decide +kernel)) (by decide +kernel)
theorem lkL_189 : Cond.methodLink RL 189 yX9_transferCount ∈ BIG := big_of (List.mem_of_getElem? (i := 1496) (by decide +kernel)) (by decide +kernel)
theorem lkX9_156 : Cond.methodLink RX9 156 yX9_transfers ∈ BIG := big_of (List.mem_of_getElem? (i := 1500) (by decide +kernel)) (by decide +kernel)
theorem lkL_192 : Cond.methodLink RL 192 yX9_formCount ∈ BIG := big_of (List.mem_of_getElem? (i := 1504) (by decide +kernel)) (by decide +kernel)
theorem lkL_196 : Cond.methodLink RL 196 yX9_undefinedCount ∈ BIG := big_of (List.mem_of_getElem? (i := 1508) (by decide +kernel)) (by decide +kernel)
theorem lkX9_159 : Cond.methodLink RX9 159 yX9_undefined ∈ BIG := big_of (List.mem_of_getElem? (i := 1512) (by decide +kernel)) (by decide +kernel)
theorem lkL_199 : Cond.methodLink RL 199 yX9_displacement ∈ BIG := big_of (List.mem_of_getElem? (i := 1516) (by decide +kernel)) (by decide +kernel)
theorem lkX9_168 : Cond.methodLink RX9 168 yX9_lacks ∈ BIG := big_of (List.mem_of_getElem? (i := 1520) (by decide +kernel)) (by decide +kernel)
theorem lkX9_162 : Cond.methodLink RX9 162 yX9_off ∈ BIG := big_of (List.mem_of_getElem? (i := 1524) (by decide +kernel)) (by decide +kernel)
theorem lkL_202 : Cond.methodLink RL 202 yX9_fits ∈ BIG := big_of (List.mem_of_getElem? (i := 1528) (by decide +kernel)) (by decide +kernel)
theorem lkX9_171 : Cond.methodLink RX9 171 yX9_isFit ∈ BIG := big_of (List.mem_of_getElem? (i := 1532) (by decide +kernel)) (by decide +kernel)
theorem lkX9_165 : Cond.methodLink RX9 165 yX9_needed ∈ BIG := big_of (List.mem_of_getElem? (i := 1536) (by decide +kernel)) (by decide +kernel)
theorem lkL_205 : Cond.methodLink RL 205 yX9_misfits ∈ BIG := big_of (List.mem_of_getElem? (i := 1539) (by decide +kernel)) (by decide +kernel)
theorem lkX9_174 : Cond.methodLink RX9 174 yX9_misfitMany ∈ BIG := big_of (List.mem_of_getElem? (i := 1543) (by decide +kernel)) (by decide +kernel)
theorem lkL_208 : Cond.methodLink RL 208 yX9_neededForm ∈ BIG := big_of (List.mem_of_getElem? (i := 1547) (by decide +kernel)) (by decide +kernel)
theorem lkL_211 : Cond.methodLink RL 211 yX9_relax ∈ BIG := big_of (List.mem_of_getElem? (i := 1551) (by decide +kernel)) (by decide +kernel)
theorem lkX9_177 : Cond.methodLink RX9 177 yX9_round ∈ BIG := big_of (List.mem_of_getElem? (i := 1555) (by decide +kernel)) (by decide +kernel)
theorem lkL_214 : Cond.methodLink RL 214 yX9_shrink ∈ BIG := big_of (List.mem_of_getElem? (i := 1559) (by decide +kernel)) (by decide +kernel)
theorem lkX9_181 : Cond.methodLink RX9 181 yX9_pass ∈ BIG := big_of (List.mem_of_getElem? (i := 1563) (by decide +kernel)) (by decide +kernel)
theorem lkL_217 : Cond.methodLink RL 217 yX9_leastSize ∈ BIG := big_of (List.mem_of_getElem? (i := 1567) (by decide +kernel)) (by decide +kernel)
theorem lkX9_196 : Cond.methodLink RX9 196 yX9_lacksChoices ∈ BIG := big_of (List.mem_of_getElem? (i := 1571) (by decide +kernel)) (by decide +kernel)
theorem lkX9_199 : Cond.methodLink RX9 199 yX9_tellChoices ∈ BIG := big_of (List.mem_of_getElem? (i := 1575) (by decide +kernel)) (by decide +kernel)
theorem lkX9_190 : Cond.methodLink RX9 190 yX9_chooses ∈ BIG := big_of (List.mem_of_getElem? (i := 1579) (by decide +kernel)) (by decide +kernel)
theorem lkL_220 : Cond.methodLink RL 220 yX9_optimize ∈ BIG := big_of (List.mem_of_getElem? (i := 1583) (by decide +kernel)) (by decide +kernel)
theorem lkL_223 : Cond.methodLink RL 223 yX9_consistentChoices ∈ BIG := big_of (List.mem_of_getElem? (i := 1587) (by decide +kernel)) (by decide +kernel)
theorem lkL_227 : Cond.methodLink RL 227 yX9_averageForm ∈ BIG := big_of (List.mem_of_getElem? (i := 1591) (by decide +kernel)) (by decide +kernel)
theorem lkL_231 : Cond.methodLink RL 231 yX9_poolCount ∈ BIG := big_of (List.mem_of_getElem? (i := 1595) (by decide +kernel)) (by decide +kernel)
theorem lkX9_202 : Cond.methodLink RX9 202 yX9_pools ∈ BIG := big_of (List.mem_of_getElem? (i := 1599) (by decide +kernel)) (by decide +kernel)
theorem lkL_234 : Cond.methodLink RL 234 yX9_literalCount ∈ BIG := big_of (List.mem_of_getElem? (i := 1603) (by decide +kernel)) (by decide +kernel)
theorem lkX9_205 : Cond.methodLink RX9 205 yX9_placeOf ∈ BIG := big_of (List.mem_of_getElem? (i := 1607) (by decide +kernel)) (by decide +kernel)
theorem lkL_237 : Cond.methodLink RL 237 yX9_literal ∈ BIG := big_of (List.mem_of_getElem? (i := 1611) (by decide +kernel)) (by decide +kernel)
theorem lkL_240 : Cond.methodLink RL 240 yX9_literalAddress ∈ BIG := big_of (List.mem_of_getElem? (i := 1615) (by decide +kernel)) (by decide +kernel)
theorem lkL_243 : Cond.methodLink RL 243 yX9_poolOf ∈ BIG := big_of (List.mem_of_getElem? (i := 1619) (by decide +kernel)) (by decide +kernel)
theorem lkX9_208 : Cond.methodLink RX9 208 yX9_lacksLoad ∈ BIG := big_of (List.mem_of_getElem? (i := 1623) (by decide +kernel)) (by decide +kernel)
theorem lkL_246 : Cond.methodLink RL 246 yX9_distance ∈ BIG := big_of (List.mem_of_getElem? (i := 1627) (by decide +kernel)) (by decide +kernel)
theorem lkX9_214 : Cond.methodLink RX9 214 yX9_far ∈ BIG := big_of (List.mem_of_getElem? (i := 1631) (by decide +kernel)) (by decide +kernel)
theorem lkX9_211 : Cond.methodLink RX9 211 yX9_poolPlace ∈ BIG := big_of (List.mem_of_getElem? (i := 1635) (by decide +kernel)) (by decide +kernel)
theorem lkL_250 : Cond.methodLink RL 250 yX9_loadsOutOfReach ∈ BIG := big_of (List.mem_of_getElem? (i := 1639) (by decide +kernel)) (by decide +kernel)
theorem lkL_253 : Cond.methodLink RL 253 yX9_slack ∈ BIG := big_of (List.mem_of_getElem? (i := 1643) (by decide +kernel)) (by decide +kernel)
theorem lkL_256 : Cond.methodLink RL 256 yX9_undo ∈ BIG := big_of (List.mem_of_getElem? (i := 1647) (by decide +kernel)) (by decide +kernel)
theorem lkL_260 : Cond.methodLink RL 260 yX9_save ∈ BIG := big_of (List.mem_of_getElem? (i := 1651) (by decide +kernel)) (by decide +kernel)
theorem lkL_263 : Cond.methodLink RL 263 yX9_restore ∈ BIG := big_of (List.mem_of_getElem? (i := 1655) (by decide +kernel)) (by decide +kernel)
theorem mwX0_numberAt : MWV yX0_numberAt cX0_numberAt 4 (some .int) RX0 1 := ⟨mcX0_numberAt, miX0_numberAt, meX0_numberAt, iniRX0, by decide +kernel, by decide⟩
theorem mwX0_startWithZero : MWV yX0_startWithZero cX0_startWithZero 2 none RX0 0 := ⟨mcX0_startWithZero, miX0_startWithZero, meX0_startWithZero, iniRX0, by decide +kernel, by decide⟩
theorem mwX0_passItem : MWV yX0_passItem cX0_passItem 7 none RX0 1 := ⟨mcX0_passItem, miX0_passItem, meX0_passItem, iniRX0, by decide +kernel, by decide⟩
theorem mwX0_hold : MWV yX0_hold cX0_hold 2 none RX0 1 := ⟨mcX0_hold, miX0_hold, meX0_hold, iniRX0, by decide +kernel, by decide⟩
theorem mwX1_choicesFound : MWV yX1_choicesFound cX1_choicesFound 1 (some .int) RX1 0 := ⟨mcX1_choicesFound, miX1_choicesFound, meX1_choicesFound, iniRX1, by decide +kernel, by decide⟩
theorem mwX1_least : MWV yX1_least cX1_least 1 (some .int) RX1 0 := ⟨mcX1_least, miX1_least, meX1_least, iniRX1, by decide +kernel, by decide⟩
theorem mwX1_takeBest : MWV yX1_takeBest cX1_takeBest 2 none RX1 0 := ⟨mcX1_takeBest, miX1_takeBest, meX1_takeBest, iniRX1, by decide +kernel, by decide⟩
theorem mwX1_run : MWV yX1_run cX1_run 1 none RX1 0 := ⟨mcX1_run, miX1_run, meX1_run, iniRX1, by decide +kernel, by decide⟩
theorem mwX1_tryFrom : MWV yX1_tryFrom cX1_tryFrom 5 none RX1 3 := ⟨mcX1_tryFrom, miX1_tryFrom, meX1_tryFrom, iniRX1, by decide +kernel, by decide⟩
theorem mwX1_tryForms : MWV yX1_tryForms cX1_tryForms 6 none RX1 2 := ⟨mcX1_tryForms, miX1_tryForms, meX1_tryForms, iniRX1, by decide +kernel, by decide⟩
theorem mwX1_placeUpToTransfer : MWV yX1_placeUpToTransfer cX1_placeUpToTransfer 6 (some .int) RX1 2 := ⟨mcX1_placeUpToTransfer, miX1_placeUpToTransfer, meX1_placeUpToTransfer, iniRX1, by decide +kernel, by decide⟩
theorem mwX1_fitsBackward : MWV yX1_fitsBackward cX1_fitsBackward 5 (some .boolean) RX1 3 := ⟨mcX1_fitsBackward, miX1_fitsBackward, meX1_fitsBackward, iniRX1, by decide +kernel, by decide⟩
theorem mwX1_allFitForward : MWV yX1_allFitForward cX1_allFitForward 4 (some .boolean) RX1 1 := ⟨mcX1_allFitForward, miX1_allFitForward, meX1_allFitForward, iniRX1, by decide +kernel, by decide⟩
theorem mwX1_keep : MWV yX1_keep cX1_keep 3 none RX1 1 := ⟨mcX1_keep, miX1_keep, meX1_keep, iniRX1, by decide +kernel, by decide⟩
theorem mwX2_isEmpty : MWV yX2_isEmpty cX2_isEmpty 1 (some .boolean) RX2 0 := ⟨mcX2_isEmpty, miX2_isEmpty, meX2_isEmpty, iniRX2, by decide +kernel, by decide⟩
theorem mwX2_remember : MWV yX2_remember cX2_remember 2 none RX2 1 := ⟨mcX2_remember, miX2_remember, meX2_remember, iniRX2, by decide +kernel, by decide⟩
theorem mwX2_takeBack : MWV yX2_takeBack cX2_takeBack 2 (some .int) RX2 1 := ⟨mcX2_takeBack, miX2_takeBack, meX2_takeBack, iniRX2, by decide +kernel, by decide⟩
theorem mwX2_forget : MWV yX2_forget cX2_forget 1 none RX2 0 := ⟨mcX2_forget, miX2_forget, meX2_forget, iniRX2, by decide +kernel, by decide⟩
theorem mwX3_isFull : MWV yX3_isFull cX3_isFull 1 (some .boolean) RX3 0 := ⟨mcX3_isFull, miX3_isFull, meX3_isFull, iniRX3, by decide +kernel, by decide⟩
theorem mwX3_add : MWV yX3_add cX3_add 2 (some .int) RX3 1 := ⟨mcX3_add, miX3_add, meX3_add, iniRX3, by decide +kernel, by decide⟩
theorem mwX3_read : MWV yX3_read cX3_read 3 none RX3 0 := ⟨mcX3_read, miX3_read, meX3_read, iniRX3, by decide +kernel, by decide⟩
theorem mwX3_isItem : MWV yX3_isItem cX3_isItem 1 (some .boolean) RX3 0 := ⟨mcX3_isItem, miX3_isItem, meX3_isItem, iniRX3, by decide +kernel, by decide⟩
theorem mwX3_kindRead : MWV yX3_kindRead cX3_kindRead 1 (some .int) RX3 0 := ⟨mcX3_kindRead, miX3_kindRead, meX3_kindRead, iniRX3, by decide +kernel, by decide⟩
theorem mwX3_operandRead : MWV yX3_operandRead cX3_operandRead 1 (some .int) RX3 0 := ⟨mcX3_operandRead, miX3_operandRead, meX3_operandRead, iniRX3, by decide +kernel, by decide⟩
theorem mwX3_errorIndex : MWV yX3_errorIndex cX3_errorIndex 1 (some .int) RX3 0 := ⟨mcX3_errorIndex, miX3_errorIndex, meX3_errorIndex, iniRX3, by decide +kernel, by decide⟩
theorem mwX3_leastLength : MWS yX3_leastLength cX3_leastLength 2 (some .int) 1 := ⟨mcX3_leastLength, msX3_leastLength, iniRX3, by decide +kernel, by decide⟩
theorem mwX3_matchedBy : MWV yX3_matchedBy cX3_matchedBy 5 (some .int) RX3 1 := ⟨mcX3_matchedBy, miX3_matchedBy, meX3_matchedBy, iniRX3, by decide +kernel, by decide⟩
theorem mwX3_numberFrom : MWV yX3_numberFrom cX3_numberFrom 4 (some .int) RX3 1 := ⟨mcX3_numberFrom, miX3_numberFrom, meX3_numberFrom, iniRX3, by decide +kernel, by decide⟩
theorem mwX4_compute : MWV yX4_compute cX4_compute 4 none RX4 0 := ⟨mcX4_compute, miX4_compute, meX4_compute, iniRX4, by decide +kernel, by decide⟩
theorem mwX4_sizeWith : MWV yX4_sizeWith cX4_sizeWith 4 (some .int) RX4 3 := ⟨mcX4_sizeWith, miX4_sizeWith, meX4_sizeWith, iniRX4, by decide +kernel, by decide⟩
theorem mwX4_poolSize : MWV yX4_poolSize cX4_poolSize 4 (some .int) RX4 2 := ⟨mcX4_poolSize, miX4_poolSize, meX4_poolSize, iniRX4, by decide +kernel, by decide⟩
theorem mwX4_addressAt : MWV yX4_addressAt cX4_addressAt 2 (some .int) RX4 1 := ⟨mcX4_addressAt, miX4_addressAt, meX4_addressAt, iniRX4, by decide +kernel, by decide⟩
theorem mwX4_sizeAt : MWV yX4_sizeAt cX4_sizeAt 2 (some .int) RX4 1 := ⟨mcX4_sizeAt, miX4_sizeAt, meX4_sizeAt, iniRX4, by decide +kernel, by decide⟩
theorem mwX4_sizeOfItems : MWV yX4_sizeOfItems cX4_sizeOfItems 1 (some .int) RX4 0 := ⟨mcX4_sizeOfItems, miX4_sizeOfItems, meX4_sizeOfItems, iniRX4, by decide +kernel, by decide⟩
theorem mwX4_sizeWithEndPool : MWV yX4_sizeWithEndPool cX4_sizeWithEndPool 1 (some .int) RX4 0 := ⟨mcX4_sizeWithEndPool, miX4_sizeWithEndPool, meX4_sizeWithEndPool, iniRX4, by decide +kernel, by decide⟩
theorem mwX4_paddingBytes : MWV yX4_paddingBytes cX4_paddingBytes 4 (some .int) RX4 0 := ⟨mcX4_paddingBytes, miX4_paddingBytes, meX4_paddingBytes, iniRX4, by decide +kernel, by decide⟩
theorem mwX4_lastItemUpTo : MWV yX4_lastItemUpTo cX4_lastItemUpTo 4 (some .int) RX4 1 := ⟨mcX4_lastItemUpTo, miX4_lastItemUpTo, meX4_lastItemUpTo, iniRX4, by decide +kernel, by decide⟩
theorem mwX4_addressWith : MWV yX4_addressWith cX4_addressWith 5 (some .int) RX4 2 := ⟨mcX4_addressWith, miX4_addressWith, meX4_addressWith, iniRX4, by decide +kernel, by decide⟩
theorem mwX4_addressOfLiteral : MWV yX4_addressOfLiteral cX4_addressOfLiteral 5 (some .int) RX4 3 := ⟨mcX4_addressOfLiteral, miX4_addressOfLiteral, meX4_addressOfLiteral, iniRX4, by decide +kernel, by decide⟩
theorem mwX4_distanceWith : MWV yX4_distanceWith cX4_distanceWith 4 (some .int) RX4 2 := ⟨mcX4_distanceWith, miX4_distanceWith, meX4_distanceWith, iniRX4, by decide +kernel, by decide⟩
theorem mwX4_loadsBeyondReach : MWV yX4_loadsBeyondReach cX4_loadsBeyondReach 3 (some .int) RX4 0 := ⟨mcX4_loadsBeyondReach, miX4_loadsBeyondReach, meX4_loadsBeyondReach, iniRX4, by decide +kernel, by decide⟩
theorem mwX4_slackOf : MWV yX4_slackOf cX4_slackOf 3 (some .int) RX4 1 := ⟨mcX4_slackOf, miX4_slackOf, meX4_slackOf, iniRX4, by decide +kernel, by decide⟩
theorem mwX5_read : MWV yX5_read cX5_read 2 none RX5 0 := ⟨mcX5_read, miX5_read, meX5_read, iniRX5, by decide +kernel, by decide⟩
theorem mwX5_readItem : MWV yX5_readItem cX5_readItem 3 none RX5 1 := ⟨mcX5_readItem, miX5_readItem, meX5_readItem, iniRX5, by decide +kernel, by decide⟩
theorem mwX5_readLoad : MWV yX5_readLoad cX5_readLoad 3 none RX5 2 := ⟨mcX5_readLoad, miX5_readLoad, meX5_readLoad, iniRX5, by decide +kernel, by decide⟩
theorem mwX5_definerOf : MWV yX5_definerOf cX5_definerOf 2 (some .int) RX5 1 := ⟨mcX5_definerOf, miX5_definerOf, meX5_definerOf, iniRX5, by decide +kernel, by decide⟩
theorem mwX5_endPoolNumber : MWV yX5_endPoolNumber cX5_endPoolNumber 1 (some .int) RX5 0 := ⟨mcX5_endPoolNumber, miX5_endPoolNumber, meX5_endPoolNumber, iniRX5, by decide +kernel, by decide⟩
theorem mwX5_poolAt : MWV yX5_poolAt cX5_poolAt 2 (some .int) RX5 1 := ⟨mcX5_poolAt, miX5_poolAt, meX5_poolAt, iniRX5, by decide +kernel, by decide⟩
theorem mwX5_literalIndexAt : MWV yX5_literalIndexAt cX5_literalIndexAt 2 (some .int) RX5 1 := ⟨mcX5_literalIndexAt, miX5_literalIndexAt, meX5_literalIndexAt, iniRX5, by decide +kernel, by decide⟩
theorem mwX5_literalsIn : MWV yX5_literalsIn cX5_literalsIn 2 (some .int) RX5 1 := ⟨mcX5_literalsIn, miX5_literalsIn, meX5_literalsIn, iniRX5, by decide +kernel, by decide⟩
theorem mwX5_itemOfPool : MWV yX5_itemOfPool cX5_itemOfPool 2 (some .int) RX5 1 := ⟨mcX5_itemOfPool, miX5_itemOfPool, meX5_itemOfPool, iniRX5, by decide +kernel, by decide⟩
theorem mwX5_valueOf : MWV yX5_valueOf cX5_valueOf 4 (some .int) RX5 2 := ⟨mcX5_valueOf, miX5_valueOf, meX5_valueOf, iniRX5, by decide +kernel, by decide⟩
theorem mwX6_count : MWV yX6_count cX6_count 1 (some .int) RX6 0 := ⟨mcX6_count, miX6_count, meX6_count, iniRX6, by decide +kernel, by decide⟩
theorem mwX6_isFull : MWV yX6_isFull cX6_isFull 1 (some .boolean) RX6 0 := ⟨mcX6_isFull, miX6_isFull, meX6_isFull, iniRX6, by decide +kernel, by decide⟩
theorem mwX6_has : MWV yX6_has cX6_has 2 (some .boolean) RX6 1 := ⟨mcX6_has, miX6_has, meX6_has, iniRX6, by decide +kernel, by decide⟩
theorem mwX6_kindAt : MWV yX6_kindAt cX6_kindAt 2 (some .int) RX6 1 := ⟨mcX6_kindAt, miX6_kindAt, meX6_kindAt, iniRX6, by decide +kernel, by decide⟩
theorem mwX6_operandAt : MWV yX6_operandAt cX6_operandAt 2 (some .int) RX6 1 := ⟨mcX6_operandAt, miX6_operandAt, meX6_operandAt, iniRX6, by decide +kernel, by decide⟩
theorem mwX6_formAt : MWV yX6_formAt cX6_formAt 2 (some .int) RX6 1 := ⟨mcX6_formAt, miX6_formAt, meX6_formAt, iniRX6, by decide +kernel, by decide⟩
theorem mwX6_isTransfer : MWV yX6_isTransfer cX6_isTransfer 3 (some .boolean) RX6 1 := ⟨mcX6_isTransfer, miX6_isTransfer, meX6_isTransfer, iniRX6, by decide +kernel, by decide⟩
theorem mwX6_defines : MWV yX6_defines cX6_defines 3 (some .boolean) RX6 1 := ⟨mcX6_defines, miX6_defines, meX6_defines, iniRX6, by decide +kernel, by decide⟩
theorem mwX6_clear : MWV yX6_clear cX6_clear 1 none RX6 0 := ⟨mcX6_clear, miX6_clear, meX6_clear, iniRX6, by decide +kernel, by decide⟩
theorem mwX6_putForm : MWV yX6_putForm cX6_putForm 3 none RX6 2 := ⟨mcX6_putForm, miX6_putForm, meX6_putForm, iniRX6, by decide +kernel, by decide⟩
theorem mwX6_putAt : MWV yX6_putAt cX6_putAt 6 none RX6 4 := ⟨mcX6_putAt, miX6_putAt, meX6_putAt, iniRX6, by decide +kernel, by decide⟩
theorem mwX6_takeOut : MWV yX6_takeOut cX6_takeOut 3 none RX6 1 := ⟨mcX6_takeOut, miX6_takeOut, meX6_takeOut, iniRX6, by decide +kernel, by decide⟩
theorem mwX6_copyFrom : MWV yX6_copyFrom cX6_copyFrom 3 none RX6 1 := ⟨mcX6_copyFrom, miX6_copyFrom, meX6_copyFrom, iniRX6, by decide +kernel, by decide⟩
theorem mwX7_number : MWV yX7_number cX7_number 3 (some .int) RX7 0 := ⟨mcX7_number, miX7_number, meX7_number, iniRX7, by decide +kernel, by decide⟩
theorem mwX7_numberWith : MWV yX7_numberWith cX7_numberWith 4 (some .int) RX7 1 := ⟨mcX7_numberWith, miX7_numberWith, meX7_numberWith, iniRX7, by decide +kernel, by decide⟩
theorem mwX7_sumOfForms : MWV yX7_sumOfForms cX7_sumOfForms 1 (some .int) RX7 0 := ⟨mcX7_sumOfForms, miX7_sumOfForms, meX7_sumOfForms, iniRX7, by decide +kernel, by decide⟩
theorem mwX7_isDefined : MWV yX7_isDefined cX7_isDefined 2 (some .boolean) RX7 1 := ⟨mcX7_isDefined, miX7_isDefined, meX7_isDefined, iniRX7, by decide +kernel, by decide⟩
theorem mwX7_numberUndefined : MWV yX7_numberUndefined cX7_numberUndefined 3 (some .int) RX7 0 := ⟨mcX7_numberUndefined, miX7_numberUndefined, meX7_numberUndefined, iniRX7, by decide +kernel, by decide⟩
theorem mwX7_displacementAt : MWV yX7_displacementAt cX7_displacementAt 3 (some .int) RX7 1 := ⟨mcX7_displacementAt, miX7_displacementAt, meX7_displacementAt, iniRX7, by decide +kernel, by decide⟩
theorem mwX7_isFitting : MWV yX7_isFitting cX7_isFitting 2 (some .boolean) RX7 1 := ⟨mcX7_isFitting, miX7_isFitting, meX7_isFitting, iniRX7, by decide +kernel, by decide⟩
theorem mwX7_numberMisfitting : MWV yX7_numberMisfitting cX7_numberMisfitting 3 (some .int) RX7 0 := ⟨mcX7_numberMisfitting, miX7_numberMisfitting, meX7_numberMisfitting, iniRX7, by decide +kernel, by decide⟩
theorem mwX7_growAll : MWV yX7_growAll cX7_growAll 2 (some .int) RX7 0 := ⟨mcX7_growAll, miX7_growAll, meX7_growAll, iniRX7, by decide +kernel, by decide⟩
theorem mwX7_growMisfits : MWV yX7_growMisfits cX7_growMisfits 3 (some .boolean) RX7 0 := ⟨mcX7_growMisfits, miX7_growMisfits, meX7_growMisfits, iniRX7, by decide +kernel, by decide⟩
theorem mwX7_shrinkAll : MWV yX7_shrinkAll cX7_shrinkAll 5 (some .int) RX7 0 := ⟨mcX7_shrinkAll, miX7_shrinkAll, meX7_shrinkAll, iniRX7, by decide +kernel, by decide⟩
theorem mwX7_shrinkIfAllFit : MWV yX7_shrinkIfAllFit cX7_shrinkIfAllFit 3 (some .boolean) RX7 1 := ⟨mcX7_shrinkIfAllFit, miX7_shrinkIfAllFit, meX7_shrinkIfAllFit, iniRX7, by decide +kernel, by decide⟩
theorem mwX8_reset : MWV yX8_reset cX8_reset 2 (some .int) RX8 0 := ⟨mcX8_reset, miX8_reset, meX8_reset, iniRX8, by decide +kernel, by decide⟩
theorem mwX8_itemCount : MWV yX8_itemCount cX8_itemCount 1 (some .int) RX8 0 := ⟨mcX8_itemCount, miX8_itemCount, meX8_itemCount, iniRX8, by decide +kernel, by decide⟩
theorem mwX8_append : MWV yX8_append cX8_append 2 (some .int) RX8 1 := ⟨mcX8_append, miX8_append, meX8_append, iniRX8, by decide +kernel, by decide⟩
theorem mwX8_insert : MWV yX8_insert cX8_insert 4 (some .int) RX8 1 := ⟨mcX8_insert, miX8_insert, meX8_insert, iniRX8, by decide +kernel, by decide⟩
theorem mwX8_errorPosition : MWV yX8_errorPosition cX8_errorPosition 1 (some .int) RX8 0 := ⟨mcX8_errorPosition, miX8_errorPosition, meX8_errorPosition, iniRX8, by decide +kernel, by decide⟩
theorem mwX8_remove : MWV yX8_remove cX8_remove 2 (some .int) RX8 1 := ⟨mcX8_remove, miX8_remove, meX8_remove, iniRX8, by decide +kernel, by decide⟩
theorem mwX8_move : MWV yX8_move cX8_move 6 (some .int) RX8 2 := ⟨mcX8_move, miX8_move, meX8_move, iniRX8, by decide +kernel, by decide⟩
theorem mwX8_item : MWV yX8_item cX8_item 3 (some .int) RX8 2 := ⟨mcX8_item, miX8_item, meX8_item, iniRX8, by decide +kernel, by decide⟩
theorem mwX8_nameCharacter : MWV yX8_nameCharacter cX8_nameCharacter 4 (some .char) RX8 2 := ⟨mcX8_nameCharacter, miX8_nameCharacter, meX8_nameCharacter, iniRX8, by decide +kernel, by decide⟩
theorem mwX8_setForm : MWV yX8_setForm cX8_setForm 4 (some .int) RX8 2 := ⟨mcX8_setForm, miX8_setForm, meX8_setForm, iniRX8, by decide +kernel, by decide⟩
theorem mwX8_totalSize : MWV yX8_totalSize cX8_totalSize 1 (some .int) RX8 0 := ⟨mcX8_totalSize, miX8_totalSize, meX8_totalSize, iniRX8, by decide +kernel, by decide⟩
theorem mwX8_padding : MWV yX8_padding cX8_padding 1 (some .int) RX8 0 := ⟨mcX8_padding, miX8_padding, meX8_padding, iniRX8, by decide +kernel, by decide⟩
theorem mwX8_labelAddress : MWV yX8_labelAddress cX8_labelAddress 3 (some .int) RX8 1 := ⟨mcX8_labelAddress, miX8_labelAddress, meX8_labelAddress, iniRX8, by decide +kernel, by decide⟩
theorem mwX8_itemAt : MWV yX8_itemAt cX8_itemAt 2 (some .int) RX8 1 := ⟨mcX8_itemAt, miX8_itemAt, meX8_itemAt, iniRX8, by decide +kernel, by decide⟩
theorem mwX8_addressIf : MWV yX8_addressIf cX8_addressIf 3 (some .int) RX8 2 := ⟨mcX8_addressIf, miX8_addressIf, meX8_addressIf, iniRX8, by decide +kernel, by decide⟩
theorem mwX8_possibleAddresses : MWV yX8_possibleAddresses cX8_possibleAddresses 2 (some .int) RX8 1 := ⟨mcX8_possibleAddresses, miX8_possibleAddresses, meX8_possibleAddresses, iniRX8, by decide +kernel, by decide⟩
theorem mwX8_transferCount : MWV yX8_transferCount cX8_transferCount 1 (some .int) RX8 0 := ⟨mcX8_transferCount, miX8_transferCount, meX8_transferCount, iniRX8, by decide +kernel, by decide⟩
theorem mwX8_formCount : MWV yX8_formCount cX8_formCount 2 (some .int) RX8 1 := ⟨mcX8_formCount, miX8_formCount, meX8_formCount, iniRX8, by decide +kernel, by decide⟩
theorem mwX8_undefinedCount : MWV yX8_undefinedCount cX8_undefinedCount 1 (some .int) RX8 0 := ⟨mcX8_undefinedCount, miX8_undefinedCount, meX8_undefinedCount, iniRX8, by decide +kernel, by decide⟩
theorem mwX8_displacement : MWV yX8_displacement cX8_displacement 2 (some .int) RX8 1 := ⟨mcX8_displacement, miX8_displacement, meX8_displacement, iniRX8, by decide +kernel, by decide⟩
theorem mwX8_fits : MWV yX8_fits cX8_fits 2 (some .boolean) RX8 1 := ⟨mcX8_fits, miX8_fits, meX8_fits, iniRX8, by decide +kernel, by decide⟩
theorem mwX8_misfits : MWV yX8_misfits cX8_misfits 1 (some .int) RX8 0 := ⟨mcX8_misfits, miX8_misfits, meX8_misfits, iniRX8, by decide +kernel, by decide⟩
theorem mwX8_neededForm : MWV yX8_neededForm cX8_neededForm 2 (some .int) RX8 1 := ⟨mcX8_neededForm, miX8_neededForm, meX8_neededForm, iniRX8, by decide +kernel, by decide⟩
theorem mwX8_relax : MWV yX8_relax cX8_relax 1 (some .int) RX8 0 := ⟨mcX8_relax, miX8_relax, meX8_relax, iniRX8, by decide +kernel, by decide⟩
theorem mwX8_shrink : MWV yX8_shrink cX8_shrink 1 (some .int) RX8 0 := ⟨mcX8_shrink, miX8_shrink, meX8_shrink, iniRX8, by decide +kernel, by decide⟩
theorem mwX8_leastSize : MWV yX8_leastSize cX8_leastSize 1 (some .int) RX8 0 := ⟨mcX8_leastSize, miX8_leastSize, meX8_leastSize, iniRX8, by decide +kernel, by decide⟩
theorem mwX8_optimize : MWV yX8_optimize cX8_optimize 1 (some .int) RX8 0 := ⟨mcX8_optimize, miX8_optimize, meX8_optimize, iniRX8, by decide +kernel, by decide⟩
theorem mwX8_consistentChoices : MWV yX8_consistentChoices cX8_consistentChoices 1 (some .int) RX8 0 := ⟨mcX8_consistentChoices, miX8_consistentChoices, meX8_consistentChoices, iniRX8, by decide +kernel, by decide⟩
theorem mwX8_averageForm : MWV yX8_averageForm cX8_averageForm 2 (some .double) RX8 0 := ⟨mcX8_averageForm, miX8_averageForm, meX8_averageForm, iniRX8, by decide +kernel, by decide⟩
theorem mwX8_poolCount : MWV yX8_poolCount cX8_poolCount 1 (some .int) RX8 0 := ⟨mcX8_poolCount, miX8_poolCount, meX8_poolCount, iniRX8, by decide +kernel, by decide⟩
theorem mwX8_literalCount : MWV yX8_literalCount cX8_literalCount 2 (some .int) RX8 1 := ⟨mcX8_literalCount, miX8_literalCount, meX8_literalCount, iniRX8, by decide +kernel, by decide⟩
theorem mwX8_literal : MWV yX8_literal cX8_literal 3 (some .int) RX8 2 := ⟨mcX8_literal, miX8_literal, meX8_literal, iniRX8, by decide +kernel, by decide⟩
theorem mwX8_literalAddress : MWV yX8_literalAddress cX8_literalAddress 3 (some .int) RX8 2 := ⟨mcX8_literalAddress, miX8_literalAddress, meX8_literalAddress, iniRX8, by decide +kernel, by decide⟩
theorem mwX8_poolOf : MWV yX8_poolOf cX8_poolOf 2 (some .int) RX8 1 := ⟨mcX8_poolOf, miX8_poolOf, meX8_poolOf, iniRX8, by decide +kernel, by decide⟩
theorem mwX8_distance : MWV yX8_distance cX8_distance 2 (some .int) RX8 1 := ⟨mcX8_distance, miX8_distance, meX8_distance, iniRX8, by decide +kernel, by decide⟩
theorem mwX8_loadsOutOfReach : MWV yX8_loadsOutOfReach cX8_loadsOutOfReach 1 (some .int) RX8 0 := ⟨mcX8_loadsOutOfReach, miX8_loadsOutOfReach, meX8_loadsOutOfReach, iniRX8, by decide +kernel, by decide⟩
theorem mwX8_slack : MWV yX8_slack cX8_slack 2 (some .int) RX8 1 := ⟨mcX8_slack, miX8_slack, meX8_slack, iniRX8, by decide +kernel, by decide⟩
theorem mwX8_undo : MWV yX8_undo cX8_undo 1 (some .int) RX8 0 := ⟨mcX8_undo, miX8_undo, meX8_undo, iniRX8, by decide +kernel, by decide⟩
theorem mwX8_save : MWV yX8_save cX8_save 1 (some .int) RX8 0 := ⟨mcX8_save, miX8_save, meX8_save, iniRX8, by decide +kernel, by decide⟩
theorem mwX8_restore : MWV yX8_restore cX8_restore 1 (some .int) RX8 0 := ⟨mcX8_restore, miX8_restore, meX8_restore, iniRX8, by decide +kernel, by decide⟩
theorem mwX8_freshLayout : MWV yX8_freshLayout cX8_freshLayout 1 (some (.object "BranchRelaxer$Layout")) RX8 0 := ⟨mcX8_freshLayout, miX8_freshLayout, meX8_freshLayout, iniRX8, by decide +kernel, by decide⟩
theorem mwX8_requireItem : MWV yX8_requireItem cX8_requireItem 2 none RX8 1 := ⟨mcX8_requireItem, miX8_requireItem, meX8_requireItem, iniRX8, by decide +kernel, by decide⟩
theorem mwX8_requireTransfer : MWV yX8_requireTransfer cX8_requireTransfer 2 none RX8 1 := ⟨mcX8_requireTransfer, miX8_requireTransfer, meX8_requireTransfer, iniRX8, by decide +kernel, by decide⟩
theorem mwX8_requireForm : MWV yX8_requireForm cX8_requireForm 2 none RX8 1 := ⟨mcX8_requireForm, miX8_requireForm, meX8_requireForm, iniRX8, by decide +kernel, by decide⟩
theorem mwX8_requireLoad : MWV yX8_requireLoad cX8_requireLoad 2 none RX8 1 := ⟨mcX8_requireLoad, miX8_requireLoad, meX8_requireLoad, iniRX8, by decide +kernel, by decide⟩
theorem mwX8_requireTarget : MWV yX8_requireTarget cX8_requireTarget 2 none RX8 1 := ⟨mcX8_requireTarget, miX8_requireTarget, meX8_requireTarget, iniRX8, by decide +kernel, by decide⟩
theorem mwX8_requireAllDefined : MWV yX8_requireAllDefined cX8_requireAllDefined 1 none RX8 0 := ⟨mcX8_requireAllDefined, miX8_requireAllDefined, meX8_requireAllDefined, iniRX8, by decide +kernel, by decide⟩
theorem mwX8_requireSearchable : MWV yX8_requireSearchable cX8_requireSearchable 1 none RX8 0 := ⟨mcX8_requireSearchable, miX8_requireSearchable, meX8_requireSearchable, iniRX8, by decide +kernel, by decide⟩
theorem mwX8_requirePool : MWV yX8_requirePool cX8_requirePool 2 none RX8 1 := ⟨mcX8_requirePool, miX8_requirePool, meX8_requirePool, iniRX8, by decide +kernel, by decide⟩
theorem mwX8_requireLiteral : MWV yX8_requireLiteral cX8_requireLiteral 3 none RX8 2 := ⟨mcX8_requireLiteral, miX8_requireLiteral, meX8_requireLiteral, iniRX8, by decide +kernel, by decide⟩
theorem mwX8_nameOf : MWS yX8_nameOf cX8_nameOf 1 (some (.object "java/lang/String")) 1 := ⟨mcX8_nameOf, msX8_nameOf, iniRX8, by decide +kernel, by decide⟩
theorem mwX8_isOperand : MWS yX8_isOperand cX8_isOperand 2 (some .boolean) 2 := ⟨mcX8_isOperand, msX8_isOperand, iniRX8, by decide +kernel, by decide⟩
theorem mwX8_formFor : MWS yX8_formFor cX8_formFor 1 (some .int) 1 := ⟨mcX8_formFor, msX8_formFor, iniRX8, by decide +kernel, by decide⟩
theorem mwX8_jumpSize : MWS yX8_jumpSize cX8_jumpSize 1 (some .int) 1 := ⟨mcX8_jumpSize, msX8_jumpSize, iniRX8, by decide +kernel, by decide⟩
theorem mwX8_branchSize : MWS yX8_branchSize cX8_branchSize 1 (some .int) 1 := ⟨mcX8_branchSize, msX8_branchSize, iniRX8, by decide +kernel, by decide⟩
theorem mwX8_gapTo : MWS yX8_gapTo cX8_gapTo 2 (some .int) 2 := ⟨mcX8_gapTo, msX8_gapTo, iniRX8, by decide +kernel, by decide⟩
theorem mwX9_thrown : MWV yX9_thrown cX9_thrown 1 (some .int) RX9 0 := ⟨mcX9_thrown, miX9_thrown, meX9_thrown, iniRX9, by decide +kernel, by decide⟩
theorem mwX9_in : MWS yX9_in cX9_in 3 (some .boolean) 3 := ⟨mcX9_in, msX9_in, iniRX9, by decide +kernel, by decide⟩
theorem mwX9_fails : MWV yX9_fails cX9_fails 2 (some .int) RX9 1 := ⟨mcX9_fails, miX9_fails, meX9_fails, iniRX9, by decide +kernel, by decide⟩
theorem mwX9_done : MWV yX9_done cX9_done 2 (some .int) RX9 1 := ⟨mcX9_done, miX9_done, meX9_done, iniRX9, by decide +kernel, by decide⟩
theorem mwX9_kind : MWV yX9_kind cX9_kind 2 (some .int) RX9 1 := ⟨mcX9_kind, miX9_kind, meX9_kind, iniRX9, by decide +kernel, by decide⟩
theorem mwX9_operand : MWV yX9_operand cX9_operand 2 (some .int) RX9 1 := ⟨mcX9_operand, miX9_operand, meX9_operand, iniRX9, by decide +kernel, by decide⟩
theorem mwX9_form : MWV yX9_form cX9_form 2 (some .int) RX9 1 := ⟨mcX9_form, miX9_form, meX9_form, iniRX9, by decide +kernel, by decide⟩
theorem mwX9_forms : MWV yX9_forms cX9_forms 3 none RX9 2 := ⟨mcX9_forms, miX9_forms, meX9_forms, iniRX9, by decide +kernel, by decide⟩
theorem mwX9_isItem : MWV yX9_isItem cX9_isItem 2 (some .boolean) RX9 1 := ⟨mcX9_isItem, miX9_isItem, meX9_isItem, iniRX9, by decide +kernel, by decide⟩
theorem mwX9_isTransfer : MWV yX9_isTransfer cX9_isTransfer 2 (some .boolean) RX9 1 := ⟨mcX9_isTransfer, miX9_isTransfer, meX9_isTransfer, iniRX9, by decide +kernel, by decide⟩
theorem mwX9_remembers : MWV yX9_remembers cX9_remembers 2 none RX9 0 := ⟨mcX9_remembers, miX9_remembers, meX9_remembers, iniRX9, by decide +kernel, by decide⟩
theorem mwX9_tellValues : MWV yX9_tellValues cX9_tellValues 4 none RX9 1 := ⟨mcX9_tellValues, miX9_tellValues, meX9_tellValues, iniRX9, by decide +kernel, by decide⟩
theorem mwX9_valueAt : MWV yX9_valueAt cX9_valueAt 3 (some .int) RX9 1 := ⟨mcX9_valueAt, miX9_valueAt, meX9_valueAt, iniRX9, by decide +kernel, by decide⟩
theorem mwX9_upTo : MWS yX9_upTo cX9_upTo 2 (some .int) 2 := ⟨mcX9_upTo, msX9_upTo, iniRX9, by decide +kernel, by decide⟩
theorem mwX9_poolSize : MWV yX9_poolSize cX9_poolSize 3 (some .int) RX9 2 := ⟨mcX9_poolSize, miX9_poolSize, meX9_poolSize, iniRX9, by decide +kernel, by decide⟩
theorem mwX9_transferSize : MWS yX9_transferSize cX9_transferSize 2 (some .int) 2 := ⟨mcX9_transferSize, msX9_transferSize, iniRX9, by decide +kernel, by decide⟩
theorem mwX9_sizeAt : MWV yX9_sizeAt cX9_sizeAt 4 (some .int) RX9 3 := ⟨mcX9_sizeAt, miX9_sizeAt, meX9_sizeAt, iniRX9, by decide +kernel, by decide⟩
theorem mwX9_lays : MWV yX9_lays cX9_lays 3 none RX9 0 := ⟨mcX9_lays, miX9_lays, meX9_lays, iniRX9, by decide +kernel, by decide⟩
theorem mwX9_total : MWV yX9_total cX9_total 1 (some .int) RX9 0 := ⟨mcX9_total, miX9_total, meX9_total, iniRX9, by decide +kernel, by decide⟩
theorem mwX9_defines : MWV yX9_defines cX9_defines 3 (some .int) RX9 1 := ⟨mcX9_defines, miX9_defines, meX9_defines, iniRX9, by decide +kernel, by decide⟩
theorem mwX9_reset : MWV yX9_reset cX9_reset 3 (some .int) RX9 0 := ⟨mcX9_reset, miX9_reset, meX9_reset, iniRX9, by decide +kernel, by decide⟩
theorem mwX9_itemCount : MWV yX9_itemCount cX9_itemCount 1 (some .int) RX9 0 := ⟨mcX9_itemCount, miX9_itemCount, meX9_itemCount, iniRX9, by decide +kernel, by decide⟩
theorem mwX9_append : MWV yX9_append cX9_append 2 (some .int) RX9 1 := ⟨mcX9_append, miX9_append, meX9_append, iniRX9, by decide +kernel, by decide⟩
theorem mwX9_nameSize : MWV yX9_nameSize cX9_nameSize 3 (some .int) RX9 1 := ⟨mcX9_nameSize, miX9_nameSize, meX9_nameSize, iniRX9, by decide +kernel, by decide⟩
theorem mwX9_isFigure : MWV yX9_isFigure cX9_isFigure 2 (some .boolean) RX9 1 := ⟨mcX9_isFigure, miX9_isFigure, meX9_isFigure, iniRX9, by decide +kernel, by decide⟩
theorem mwX9_goes : MWV yX9_goes cX9_goes 5 (some .int) RX9 1 := ⟨mcX9_goes, miX9_goes, meX9_goes, iniRX9, by decide +kernel, by decide⟩
theorem mwX9_isOperand : MWS yX9_isOperand cX9_isOperand 2 (some .boolean) 2 := ⟨mcX9_isOperand, msX9_isOperand, iniRX9, by decide +kernel, by decide⟩
theorem mwX9_opens : MWV yX9_opens cX9_opens 3 none RX9 1 := ⟨mcX9_opens, miX9_opens, meX9_opens, iniRX9, by decide +kernel, by decide⟩
theorem mwX9_puts : MWV yX9_puts cX9_puts 5 none RX9 4 := ⟨mcX9_puts, miX9_puts, meX9_puts, iniRX9, by decide +kernel, by decide⟩
theorem mwX9_closes : MWV yX9_closes cX9_closes 3 none RX9 1 := ⟨mcX9_closes, miX9_closes, meX9_closes, iniRX9, by decide +kernel, by decide⟩
theorem mwX9_insert : MWV yX9_insert cX9_insert 7 (some .int) RX9 1 := ⟨mcX9_insert, miX9_insert, meX9_insert, iniRX9, by decide +kernel, by decide⟩
theorem mwX9_errorPosition : MWV yX9_errorPosition cX9_errorPosition 1 (some .int) RX9 0 := ⟨mcX9_errorPosition, miX9_errorPosition, meX9_errorPosition, iniRX9, by decide +kernel, by decide⟩
theorem mwX9_remove : MWV yX9_remove cX9_remove 2 (some .int) RX9 1 := ⟨mcX9_remove, miX9_remove, meX9_remove, iniRX9, by decide +kernel, by decide⟩
theorem mwX9_move : MWV yX9_move cX9_move 6 (some .int) RX9 2 := ⟨mcX9_move, miX9_move, meX9_move, iniRX9, by decide +kernel, by decide⟩
theorem mwX9_item : MWV yX9_item cX9_item 3 (some .int) RX9 2 := ⟨mcX9_item, miX9_item, meX9_item, iniRX9, by decide +kernel, by decide⟩
theorem mwX9_nameCharacter : MWV yX9_nameCharacter cX9_nameCharacter 3 (some .char) RX9 2 := ⟨mcX9_nameCharacter, miX9_nameCharacter, meX9_nameCharacter, iniRX9, by decide +kernel, by decide⟩
theorem mwX9_setForm : MWV yX9_setForm cX9_setForm 4 (some .int) RX9 2 := ⟨mcX9_setForm, miX9_setForm, meX9_setForm, iniRX9, by decide +kernel, by decide⟩
theorem mwX9_totalSize : MWV yX9_totalSize cX9_totalSize 1 (some .int) RX9 0 := ⟨mcX9_totalSize, miX9_totalSize, meX9_totalSize, iniRX9, by decide +kernel, by decide⟩
theorem mwX9_padding : MWV yX9_padding cX9_padding 4 (some .int) RX9 0 := ⟨mcX9_padding, miX9_padding, meX9_padding, iniRX9, by decide +kernel, by decide⟩
theorem mwX9_labelAddress : MWV yX9_labelAddress cX9_labelAddress 3 (some .int) RX9 1 := ⟨mcX9_labelAddress, miX9_labelAddress, meX9_labelAddress, iniRX9, by decide +kernel, by decide⟩
theorem mwX9_itemAt : MWV yX9_itemAt cX9_itemAt 3 (some .int) RX9 1 := ⟨mcX9_itemAt, miX9_itemAt, meX9_itemAt, iniRX9, by decide +kernel, by decide⟩
theorem mwX9_addressIf : MWV yX9_addressIf cX9_addressIf 5 (some .int) RX9 2 := ⟨mcX9_addressIf, miX9_addressIf, meX9_addressIf, iniRX9, by decide +kernel, by decide⟩
theorem mwX9_goesOn : MWV yX9_goesOn cX9_goesOn 4 none RX9 1 := ⟨mcX9_goesOn, miX9_goesOn, meX9_goesOn, iniRX9, by decide +kernel, by decide⟩
theorem mwX9_possibleAddresses : MWV yX9_possibleAddresses cX9_possibleAddresses 4 (some .int) RX9 1 := ⟨mcX9_possibleAddresses, miX9_possibleAddresses, meX9_possibleAddresses, iniRX9, by decide +kernel, by decide⟩
theorem mwX9_transfers : MWV yX9_transfers cX9_transfers 3 (some .int) RX9 0 := ⟨mcX9_transfers, miX9_transfers, meX9_transfers, iniRX9, by decide +kernel, by decide⟩
theorem mwX9_transferCount : MWV yX9_transferCount cX9_transferCount 1 (some .int) RX9 0 := ⟨mcX9_transferCount, miX9_transferCount, meX9_transferCount, iniRX9, by decide +kernel, by decide⟩
theorem mwX9_formCount : MWV yX9_formCount cX9_formCount 4 (some .int) RX9 1 := ⟨mcX9_formCount, miX9_formCount, meX9_formCount, iniRX9, by decide +kernel, by decide⟩
theorem mwX9_undefined : MWV yX9_undefined cX9_undefined 3 (some .int) RX9 0 := ⟨mcX9_undefined, miX9_undefined, meX9_undefined, iniRX9, by decide +kernel, by decide⟩
theorem mwX9_undefinedCount : MWV yX9_undefinedCount cX9_undefinedCount 1 (some .int) RX9 0 := ⟨mcX9_undefinedCount, miX9_undefinedCount, meX9_undefinedCount, iniRX9, by decide +kernel, by decide⟩
theorem mwX9_off : MWV yX9_off cX9_off 2 (some .int) RX9 1 := ⟨mcX9_off, miX9_off, meX9_off, iniRX9, by decide +kernel, by decide⟩
theorem mwX9_needed : MWS yX9_needed cX9_needed 1 (some .int) 1 := ⟨mcX9_needed, msX9_needed, iniRX9, by decide +kernel, by decide⟩
theorem mwX9_isFit : MWV yX9_isFit cX9_isFit 2 (some .boolean) RX9 1 := ⟨mcX9_isFit, miX9_isFit, meX9_isFit, iniRX9, by decide +kernel, by decide⟩
theorem mwX9_lacks : MWV yX9_lacks cX9_lacks 2 (some .int) RX9 1 := ⟨mcX9_lacks, miX9_lacks, meX9_lacks, iniRX9, by decide +kernel, by decide⟩
theorem mwX9_displacement : MWV yX9_displacement cX9_displacement 3 (some .int) RX9 1 := ⟨mcX9_displacement, miX9_displacement, meX9_displacement, iniRX9, by decide +kernel, by decide⟩
theorem mwX9_fits : MWV yX9_fits cX9_fits 2 (some .boolean) RX9 1 := ⟨mcX9_fits, miX9_fits, meX9_fits, iniRX9, by decide +kernel, by decide⟩
theorem mwX9_misfitMany : MWV yX9_misfitMany cX9_misfitMany 3 (some .int) RX9 0 := ⟨mcX9_misfitMany, miX9_misfitMany, meX9_misfitMany, iniRX9, by decide +kernel, by decide⟩
theorem mwX9_misfits : MWV yX9_misfits cX9_misfits 1 (some .int) RX9 0 := ⟨mcX9_misfits, miX9_misfits, meX9_misfits, iniRX9, by decide +kernel, by decide⟩
theorem mwX9_neededForm : MWV yX9_neededForm cX9_neededForm 3 (some .int) RX9 1 := ⟨mcX9_neededForm, miX9_neededForm, meX9_neededForm, iniRX9, by decide +kernel, by decide⟩
theorem mwX9_round : MWV yX9_round cX9_round 3 (some .boolean) RX9 0 := ⟨mcX9_round, miX9_round, meX9_round, iniRX9, by decide +kernel, by decide⟩
theorem mwX9_relax : MWV yX9_relax cX9_relax 2 (some .int) RX9 0 := ⟨mcX9_relax, miX9_relax, meX9_relax, iniRX9, by decide +kernel, by decide⟩
theorem mwX9_pass : MWV yX9_pass cX9_pass 3 (some .int) RX9 0 := ⟨mcX9_pass, miX9_pass, meX9_pass, iniRX9, by decide +kernel, by decide⟩
theorem mwX9_shrink : MWV yX9_shrink cX9_shrink 3 (some .int) RX9 0 := ⟨mcX9_shrink, miX9_shrink, meX9_shrink, iniRX9, by decide +kernel, by decide⟩
theorem mwX9_chooses : MWV yX9_chooses cX9_chooses 5 none RX9 2 := ⟨mcX9_chooses, miX9_chooses, meX9_chooses, iniRX9, by decide +kernel, by decide⟩
theorem mwX9_tellChoices : MWV yX9_tellChoices cX9_tellChoices 5 none RX9 0 := ⟨mcX9_tellChoices, miX9_tellChoices, meX9_tellChoices, iniRX9, by decide +kernel, by decide⟩
theorem mwX9_lacksChoices : MWV yX9_lacksChoices cX9_lacksChoices 1 (some .int) RX9 0 := ⟨mcX9_lacksChoices, miX9_lacksChoices, meX9_lacksChoices, iniRX9, by decide +kernel, by decide⟩
theorem mwX9_leastSize : MWV yX9_leastSize cX9_leastSize 2 (some .int) RX9 0 := ⟨mcX9_leastSize, miX9_leastSize, meX9_leastSize, iniRX9, by decide +kernel, by decide⟩
theorem mwX9_optimize : MWV yX9_optimize cX9_optimize 2 (some .int) RX9 0 := ⟨mcX9_optimize, miX9_optimize, meX9_optimize, iniRX9, by decide +kernel, by decide⟩
theorem mwX9_consistentChoices : MWV yX9_consistentChoices cX9_consistentChoices 2 (some .int) RX9 0 := ⟨mcX9_consistentChoices, miX9_consistentChoices, meX9_consistentChoices, iniRX9, by decide +kernel, by decide⟩
theorem mwX9_averageForm : MWV yX9_averageForm cX9_averageForm 4 (some .double) RX9 0 := ⟨mcX9_averageForm, miX9_averageForm, meX9_averageForm, iniRX9, by decide +kernel, by decide⟩
theorem mwX9_pools : MWV yX9_pools cX9_pools 3 (some .int) RX9 0 := ⟨mcX9_pools, miX9_pools, meX9_pools, iniRX9, by decide +kernel, by decide⟩
theorem mwX9_placeOf : MWV yX9_placeOf cX9_placeOf 4 (some .int) RX9 1 := ⟨mcX9_placeOf, miX9_placeOf, meX9_placeOf, iniRX9, by decide +kernel, by decide⟩
theorem mwX9_poolCount : MWV yX9_poolCount cX9_poolCount 1 (some .int) RX9 0 := ⟨mcX9_poolCount, miX9_poolCount, meX9_poolCount, iniRX9, by decide +kernel, by decide⟩
theorem mwX9_literalCount : MWV yX9_literalCount cX9_literalCount 2 (some .int) RX9 1 := ⟨mcX9_literalCount, miX9_literalCount, meX9_literalCount, iniRX9, by decide +kernel, by decide⟩
theorem mwX9_literal : MWV yX9_literal cX9_literal 3 (some .int) RX9 2 := ⟨mcX9_literal, miX9_literal, meX9_literal, iniRX9, by decide +kernel, by decide⟩
theorem mwX9_literalAddress : MWV yX9_literalAddress cX9_literalAddress 4 (some .int) RX9 2 := ⟨mcX9_literalAddress, miX9_literalAddress, meX9_literalAddress, iniRX9, by decide +kernel, by decide⟩
theorem mwX9_poolPlace : MWV yX9_poolPlace cX9_poolPlace 3 (some .int) RX9 1 := ⟨mcX9_poolPlace, miX9_poolPlace, meX9_poolPlace, iniRX9, by decide +kernel, by decide⟩
theorem mwX9_lacksLoad : MWV yX9_lacksLoad cX9_lacksLoad 2 (some .int) RX9 1 := ⟨mcX9_lacksLoad, miX9_lacksLoad, meX9_lacksLoad, iniRX9, by decide +kernel, by decide⟩
theorem mwX9_poolOf : MWV yX9_poolOf cX9_poolOf 5 (some .int) RX9 1 := ⟨mcX9_poolOf, miX9_poolOf, meX9_poolOf, iniRX9, by decide +kernel, by decide⟩
theorem mwX9_far : MWV yX9_far cX9_far 4 (some .int) RX9 2 := ⟨mcX9_far, miX9_far, meX9_far, iniRX9, by decide +kernel, by decide⟩
theorem mwX9_distance : MWV yX9_distance cX9_distance 3 (some .int) RX9 1 := ⟨mcX9_distance, miX9_distance, meX9_distance, iniRX9, by decide +kernel, by decide⟩
theorem mwX9_loadsOutOfReach : MWV yX9_loadsOutOfReach cX9_loadsOutOfReach 3 (some .int) RX9 0 := ⟨mcX9_loadsOutOfReach, miX9_loadsOutOfReach, meX9_loadsOutOfReach, iniRX9, by decide +kernel, by decide⟩
theorem mwX9_slack : MWV yX9_slack cX9_slack 4 (some .int) RX9 1 := ⟨mcX9_slack, miX9_slack, meX9_slack, iniRX9, by decide +kernel, by decide⟩
theorem mwX9_undo : MWV yX9_undo cX9_undo 2 (some .int) RX9 0 := ⟨mcX9_undo, miX9_undo, meX9_undo, iniRX9, by decide +kernel, by decide⟩
theorem mwX9_save : MWV yX9_save cX9_save 2 (some .int) RX9 0 := ⟨mcX9_save, miX9_save, meX9_save, iniRX9, by decide +kernel, by decide⟩
theorem mwX9_restore : MWV yX9_restore cX9_restore 2 (some .int) RX9 0 := ⟨mcX9_restore, miX9_restore, meX9_restore, iniRX9, by decide +kernel, by decide⟩
theorem mwJ9_max_7cf53 : MWS yJ9_max_7cf53 cJ9_max_7cf53 2 (some .int) 2 := ⟨mcJ9_max_7cf53, msJ9_max_7cf53, iniRJ9, by decide +kernel, by decide⟩
theorem mwJ9_min_7cf53 : MWS yJ9_min_7cf53 cJ9_min_7cf53 2 (some .int) 2 := ⟨mcJ9_min_7cf53, msJ9_min_7cf53, iniRJ9, by decide +kernel, by decide⟩
theorem mwJ0_length_8abf5 : MWV yJ0_length_8abf5 cJ0_length_8abf5 1 (some .int) RJ0 0 := ⟨mcJ0_length_8abf5, miJ0_length_8abf5, meJ0_length_8abf5, iniRJ0, by decide +kernel, by decide⟩
theorem mwJ0_charAt_5068e : MWV yJ0_charAt_5068e cJ0_charAt_5068e 2 (some .char) RJ0 1 := ⟨mcJ0_charAt_5068e, miJ0_charAt_5068e, meJ0_charAt_5068e, iniRJ0, by decide +kernel, by decide⟩
theorem mwJ0_coder_7d493 : MWV yJ0_coder_7d493 cJ0_coder_7d493 1 (some .byte) RJ0 0 := ⟨mcJ0_coder_7d493, miJ0_coder_7d493, meJ0_coder_7d493, iniRJ0, by decide +kernel, by decide⟩
theorem mwJ0_isLatin1_aae02 : MWV yJ0_isLatin1_aae02 cJ0_isLatin1_aae02 1 (some .boolean) RJ0 0 := ⟨mcJ0_isLatin1_aae02, miJ0_isLatin1_aae02, meJ0_isLatin1_aae02, iniRJ0, by decide +kernel, by decide⟩
theorem mwJ0_checkIndex_df160 : MWS yJ0_checkIndex_df160 cJ0_checkIndex_df160 2 none 2 := ⟨mcJ0_checkIndex_df160, msJ0_checkIndex_df160, iniRJ0, by decide +kernel, by decide⟩
theorem mwJ1_charAt_3b067 : MWS yJ1_charAt_3b067 cJ1_charAt_3b067 2 (some .char) 2 := ⟨mcJ1_charAt_3b067, msJ1_charAt_3b067, iniRJ1, by decide +kernel, by decide⟩
theorem mwJ2_getChar_3b067 : MWS yJ2_getChar_3b067 cJ2_getChar_3b067 2 (some .char) 2 := ⟨mcJ2_getChar_3b067, msJ2_getChar_3b067, iniRJ2, by decide +kernel, by decide⟩
theorem mwJ2_length_9d52b : MWS yJ2_length_9d52b cJ2_length_9d52b 1 (some .int) 1 := ⟨mcJ2_length_9d52b, msJ2_length_9d52b, iniRJ2, by decide +kernel, by decide⟩
theorem mwJ2_charAt_3b067 : MWS yJ2_charAt_3b067 cJ2_charAt_3b067 2 (some .char) 2 := ⟨mcJ2_charAt_3b067, msJ2_charAt_3b067, iniRJ2, by decide +kernel, by decide⟩
theorem mwJ2_checkIndex_2214a : MWS yJ2_checkIndex_2214a cJ2_checkIndex_2214a 2 none 2 := ⟨mcJ2_checkIndex_2214a, msJ2_checkIndex_2214a, iniRJ2, by decide +kernel, by decide⟩
theorem mwJ7_fill_53178 : MWS yJ7_fill_53178 cJ7_fill_53178 4 none 2 := ⟨mcJ7_fill_53178, msJ7_fill_53178, iniRJ7, by decide +kernel, by decide⟩
theorem mwJ3_checkIndex_8e157 : MWS yJ3_checkIndex_8e157 cJ3_checkIndex_8e157 3 (some .int) 3 := ⟨mcJ3_checkIndex_8e157, msJ3_checkIndex_8e157, iniRJ3, by decide +kernel, by decide⟩
