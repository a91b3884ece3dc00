theorem lX8_1 : Cond.methodLink RX8 1 Lib.objectInit ∈ GW := mg (List.mem_of_getElem? (i := 103) (by decide +kernel)) (by decide +kernel)
theorem nX8_7 : Cond.classLink RX8 7 (CN 5) ∈ GW := mg (List.mem_of_getElem? (i := 106) (by decide +kernel)) (by decide +kernel)
theorem iw5 : Cond.instantiable (CN 5) (nF 5) ∈ GW := mg (List.mem_of_getElem? (i := 107) (by decide +kernel)) (by decide +kernel)
theorem lX5_3 : Cond.methodLink RX5 3 Lib.objectInit ∈ GW := mg (List.mem_of_getElem? (i := 111) (by decide +kernel)) (by decide +kernel)
theorem fX5_9 : Cond.fieldLink RX5 9 (CN 5) (TC 5 0).2.1 (TC 5 0).2.2.1 ∈ GW ∧ (TC 5 0).1 = CN 5 := ⟨mg (List.mem_of_getElem? (i := 112) (by decide +kernel)) (by decide +kernel), rfl⟩
theorem fX8_92 : Cond.fieldLink RX8 92 (CN 5) (TC 5 0).2.1 (TC 5 0).2.2.1 ∈ GW ∧ (TC 5 0).1 = CN 5 := ⟨mg (List.mem_of_getElem? (i := 113) (by decide +kernel)) (by decide +kernel), rfl⟩
theorem fX7_83 : Cond.fieldLink RX7 83 (CN 5) (TC 5 0).2.1 (TC 5 0).2.2.1 ∈ GW ∧ (TC 5 0).1 = CN 5 := ⟨mg (List.mem_of_getElem? (i := 114) (by decide +kernel)) (by decide +kernel), rfl⟩
theorem fX5_15 : Cond.fieldLink RX5 15 (CN 5) (TC 5 1).2.1 (TC 5 1).2.2.1 ∈ GW ∧ (TC 5 1).1 = CN 5 := ⟨mg (List.mem_of_getElem? (i := 115) (by decide +kernel)) (by decide +kernel), rfl⟩
theorem fX8_88 : Cond.fieldLink RX8 88 (CN 5) (TC 5 1).2.1 (TC 5 1).2.2.1 ∈ GW ∧ (TC 5 1).1 = CN 5 := ⟨mg (List.mem_of_getElem? (i := 116) (by decide +kernel)) (by decide +kernel), rfl⟩
theorem fX3_72 : Cond.fieldLink RX3 72 (CN 5) (TC 5 1).2.1 (TC 5 1).2.2.1 ∈ GW ∧ (TC 5 1).1 = CN 5 := ⟨mg (List.mem_of_getElem? (i := 117) (by decide +kernel)) (by decide +kernel), rfl⟩
theorem fX7_67 : Cond.fieldLink RX7 67 (CN 5) (TC 5 1).2.1 (TC 5 1).2.2.1 ∈ GW ∧ (TC 5 1).1 = CN 5 := ⟨mg (List.mem_of_getElem? (i := 118) (by decide +kernel)) (by decide +kernel), rfl⟩
theorem aw_int : Cond.arrayClass .int ∈ GW := mg (List.mem_of_getElem? (i := 124) (by decide +kernel)) (by decide +kernel)
theorem nX8_16 : Cond.classLink RX8 16 (CN 6) ∈ GW := mg (List.mem_of_getElem? (i := 125) (by decide +kernel)) (by decide +kernel)
theorem iw6 : Cond.instantiable (CN 6) (nF 6) ∈ GW := mg (List.mem_of_getElem? (i := 126) (by decide +kernel)) (by decide +kernel)
theorem lX6_3 : Cond.methodLink RX6 3 Lib.objectInit ∈ GW := mg (List.mem_of_getElem? (i := 130) (by decide +kernel)) (by decide +kernel)
theorem fX6_9 : Cond.fieldLink RX6 9 (CN 6) (TC 6 0).2.1 (TC 6 0).2.2.1 ∈ GW ∧ (TC 6 0).1 = CN 6 := ⟨mg (List.mem_of_getElem? (i := 131) (by decide +kernel)) (by decide +kernel), rfl⟩
theorem fX6_16 : Cond.fieldLink RX6 16 (CN 6) (TC 6 1).2.1 (TC 6 1).2.2.1 ∈ GW ∧ (TC 6 1).1 = CN 6 := ⟨mg (List.mem_of_getElem? (i := 132) (by decide +kernel)) (by decide +kernel), rfl⟩
theorem fX8_103 : Cond.fieldLink RX8 103 (CN 6) (TC 6 1).2.1 (TC 6 1).2.2.1 ∈ GW ∧ (TC 6 1).1 = CN 6 := ⟨mg (List.mem_of_getElem? (i := 133) (by decide +kernel)) (by decide +kernel), rfl⟩
theorem fX6_13 : Cond.fieldLink RX6 13 (CN 6) (TC 6 2).2.1 (TC 6 2).2.2.1 ∈ GW ∧ (TC 6 2).1 = CN 6 := ⟨mg (List.mem_of_getElem? (i := 134) (by decide +kernel)) (by decide +kernel), rfl⟩
theorem fX6_20 : Cond.fieldLink RX6 20 (CN 6) (TC 6 3).2.1 (TC 6 3).2.2.1 ∈ GW ∧ (TC 6 3).1 = CN 6 := ⟨mg (List.mem_of_getElem? (i := 135) (by decide +kernel)) (by decide +kernel), rfl⟩
theorem fX6_23 : Cond.fieldLink RX6 23 (CN 6) (TC 6 4).2.1 (TC 6 4).2.2.1 ∈ GW ∧ (TC 6 4).1 = CN 6 := ⟨mg (List.mem_of_getElem? (i := 136) (by decide +kernel)) (by decide +kernel), rfl⟩
theorem fX6_26 : Cond.fieldLink RX6 26 (CN 6) (TC 6 5).2.1 (TC 6 5).2.2.1 ∈ GW ∧ (TC 6 5).1 = CN 6 := ⟨mg (List.mem_of_getElem? (i := 137) (by decide +kernel)) (by decide +kernel), rfl⟩
theorem nX8_23 : Cond.classLink RX8 23 (CN 2) ∈ GW := mg (List.mem_of_getElem? (i := 151) (by decide +kernel)) (by decide +kernel)
theorem nX8_29 : Cond.classLink RX8 29 (CN 7) ∈ GW := mg (List.mem_of_getElem? (i := 153) (by decide +kernel)) (by decide +kernel)
theorem nX8_35 : Cond.classLink RX8 35 (CN 1) ∈ GW := mg (List.mem_of_getElem? (i := 155) (by decide +kernel)) (by decide +kernel)
theorem iw1 : Cond.instantiable (CN 1) (nF 1) ∈ GW := mg (List.mem_of_getElem? (i := 156) (by decide +kernel)) (by decide +kernel)
theorem lX1_1 : Cond.methodLink RX1 1 Lib.objectInit ∈ GW := mg (List.mem_of_getElem? (i := 160) (by decide +kernel)) (by decide +kernel)
theorem fX1_9 : Cond.fieldLink RX1 9 (CN 1) (TC 1 0).2.1 (TC 1 0).2.2.1 ∈ GW ∧ (TC 1 0).1 = CN 1 := ⟨mg (List.mem_of_getElem? (i := 161) (by decide +kernel)) (by decide +kernel), rfl⟩
theorem fX8_328 : Cond.fieldLink RX8 328 (CN 1) (TC 1 0).2.1 (TC 1 0).2.2.1 ∈ GW ∧ (TC 1 0).1 = CN 1 := ⟨mg (List.mem_of_getElem? (i := 162) (by decide +kernel)) (by decide +kernel), rfl⟩
theorem fX1_13 : Cond.fieldLink RX1 13 (CN 1) (TC 1 1).2.1 (TC 1 1).2.2.1 ∈ GW ∧ (TC 1 1).1 = CN 1 := ⟨mg (List.mem_of_getElem? (i := 163) (by decide +kernel)) (by decide +kernel), rfl⟩
theorem fX8_330 : Cond.fieldLink RX8 330 (CN 1) (TC 1 1).2.1 (TC 1 1).2.2.1 ∈ GW ∧ (TC 1 1).1 = CN 1 := ⟨mg (List.mem_of_getElem? (i := 164) (by decide +kernel)) (by decide +kernel), rfl⟩
theorem fX1_16 : Cond.fieldLink RX1 16 (CN 1) (TC 1 2).2.1 (TC 1 2).2.2.1 ∈ GW ∧ (TC 1 2).1 = CN 1 := ⟨mg (List.mem_of_getElem? (i := 165) (by decide +kernel)) (by decide +kernel), rfl⟩
theorem fX8_317 : Cond.fieldLink RX8 317 (CN 1) (TC 1 2).2.1 (TC 1 2).2.2.1 ∈ GW ∧ (TC 1 2).1 = CN 1 := ⟨mg (List.mem_of_getElem? (i := 166) (by decide +kernel)) (by decide +kernel), rfl⟩
theorem fX1_19 : Cond.fieldLink RX1 19 (CN 1) (TC 1 3).2.1 (TC 1 3).2.2.1 ∈ GW ∧ (TC 1 3).1 = CN 1 := ⟨mg (List.mem_of_getElem? (i := 167) (by decide +kernel)) (by decide +kernel), rfl⟩
theorem fX8_325 : Cond.fieldLink RX8 325 (CN 1) (TC 1 3).2.1 (TC 1 3).2.2.1 ∈ GW ∧ (TC 1 3).1 = CN 1 := ⟨mg (List.mem_of_getElem? (i := 168) (by decide +kernel)) (by decide +kernel), rfl⟩
theorem fX1_22 : Cond.fieldLink RX1 22 (CN 1) (TC 1 4).2.1 (TC 1 4).2.2.1 ∈ GW ∧ (TC 1 4).1 = CN 1 := ⟨mg (List.mem_of_getElem? (i := 169) (by decide +kernel)) (by decide +kernel), rfl⟩
theorem fX8_314 : Cond.fieldLink RX8 314 (CN 1) (TC 1 4).2.1 (TC 1 4).2.2.1 ∈ GW ∧ (TC 1 4).1 = CN 1 := ⟨mg (List.mem_of_getElem? (i := 170) (by decide +kernel)) (by decide +kernel), rfl⟩
theorem fX1_29 : Cond.fieldLink RX1 29 (CN 1) (TC 1 5).2.1 (TC 1 5).2.2.1 ∈ GW ∧ (TC 1 5).1 = CN 1 := ⟨mg (List.mem_of_getElem? (i := 171) (by decide +kernel)) (by decide +kernel), rfl⟩
theorem fX8_324 : Cond.fieldLink RX8 324 (CN 1) (TC 1 5).2.1 (TC 1 5).2.2.1 ∈ GW ∧ (TC 1 5).1 = CN 1 := ⟨mg (List.mem_of_getElem? (i := 172) (by decide +kernel)) (by decide +kernel), rfl⟩
theorem nX8_42 : Cond.classLink RX8 42 (CN 0) ∈ GW := mg (List.mem_of_getElem? (i := 186) (by decide +kernel)) (by decide +kernel)
theorem iw0 : Cond.instantiable (CN 0) (nF 0) ∈ GW := mg (List.mem_of_getElem? (i := 187) (by decide +kernel)) (by decide +kernel)
theorem lX0_1 : Cond.methodLink RX0 1 Lib.objectInit ∈ GW := mg (List.mem_of_getElem? (i := 191) (by decide +kernel)) (by decide +kernel)
theorem fX0_9 : Cond.fieldLink RX0 9 (CN 0) (TC 0 0).2.1 (TC 0 0).2.2.1 ∈ GW ∧ (TC 0 0).1 = CN 0 := ⟨mg (List.mem_of_getElem? (i := 192) (by decide +kernel)) (by decide +kernel), rfl⟩
theorem fX8_333 : Cond.fieldLink RX8 333 (CN 0) (TC 0 0).2.1 (TC 0 0).2.2.1 ∈ GW ∧ (TC 0 0).1 = CN 0 := ⟨mg (List.mem_of_getElem? (i := 193) (by decide +kernel)) (by decide +kernel), rfl⟩
theorem fX0_16 : Cond.fieldLink RX0 16 (CN 0) (TC 0 1).2.1 (TC 0 1).2.2.1 ∈ GW ∧ (TC 0 1).1 = CN 0 := ⟨mg (List.mem_of_getElem? (i := 194) (by decide +kernel)) (by decide +kernel), rfl⟩
theorem fX8_332 : Cond.fieldLink RX8 332 (CN 0) (TC 0 1).2.1 (TC 0 1).2.2.1 ∈ GW ∧ (TC 0 1).1 = CN 0 := ⟨mg (List.mem_of_getElem? (i := 195) (by decide +kernel)) (by decide +kernel), rfl⟩
theorem fX0_13 : Cond.fieldLink RX0 13 (CN 0) (TC 0 2).2.1 (TC 0 2).2.2.1 ∈ GW ∧ (TC 0 2).1 = CN 0 := ⟨mg (List.mem_of_getElem? (i := 196) (by decide +kernel)) (by decide +kernel), rfl⟩
theorem fX8_343 : Cond.fieldLink RX8 343 (CN 0) (TC 0 2).2.1 (TC 0 2).2.2.1 ∈ GW ∧ (TC 0 2).1 = CN 0 := ⟨mg (List.mem_of_getElem? (i := 197) (by decide +kernel)) (by decide +kernel), rfl⟩
theorem fX0_23 : Cond.fieldLink RX0 23 (CN 0) (TC 0 3).2.1 (TC 0 3).2.2.1 ∈ GW ∧ (TC 0 3).1 = CN 0 := ⟨mg (List.mem_of_getElem? (i := 198) (by decide +kernel)) (by decide +kernel), rfl⟩
theorem fX8_340 : Cond.fieldLink RX8 340 (CN 0) (TC 0 3).2.1 (TC 0 3).2.2.1 ∈ GW ∧ (TC 0 3).1 = CN 0 := ⟨mg (List.mem_of_getElem? (i := 199) (by decide +kernel)) (by decide +kernel), rfl⟩
theorem fX0_30 : Cond.fieldLink RX0 30 (CN 0) (TC 0 4).2.1 (TC 0 4).2.2.1 ∈ GW ∧ (TC 0 4).1 = CN 0 := ⟨mg (List.mem_of_getElem? (i := 200) (by decide +kernel)) (by decide +kernel), rfl⟩
theorem nX8_49 : Cond.classLink RX8 49 (CN 4) ∈ GW := mg (List.mem_of_getElem? (i := 212) (by decide +kernel)) (by decide +kernel)
theorem iw7 : Cond.instantiable (CN 7) (nF 7) ∈ GW := mg (List.mem_of_getElem? (i := 214) (by decide +kernel)) (by decide +kernel)
theorem lX8_55 : Cond.methodLink RX8 55 yX7_init ∈ GW := mg (List.mem_of_getElem? (i := 215) (by decide +kernel)) (by decide +kernel)
theorem lX7_3 : Cond.methodLink RX7 3 Lib.objectInit ∈ GW := mg (List.mem_of_getElem? (i := 218) (by decide +kernel)) (by decide +kernel)
theorem fX7_33 : Cond.fieldLink RX7 33 (CN 7) (TC 7 0).2.1 (TC 7 0).2.2.1 ∈ GW ∧ (TC 7 0).1 = CN 7 := ⟨mg (List.mem_of_getElem? (i := 219) (by decide +kernel)) (by decide +kernel), rfl⟩
theorem fX7_38 : Cond.fieldLink RX7 38 (CN 7) (TC 7 1).2.1 (TC 7 1).2.2.1 ∈ GW ∧ (TC 7 1).1 = CN 7 := ⟨mg (List.mem_of_getElem? (i := 220) (by decide +kernel)) (by decide +kernel), rfl⟩
theorem fX8_135 : Cond.fieldLink RX8 135 (CN 7) (TC 7 2).2.1 (TC 7 2).2.2.1 ∈ GW ∧ (TC 7 2).1 = CN 7 := ⟨mg (List.mem_of_getElem? (i := 221) (by decide +kernel)) (by decide +kernel), rfl⟩
theorem fX7_46 : Cond.fieldLink RX7 46 (CN 7) (TC 7 3).2.1 (TC 7 3).2.2.1 ∈ GW ∧ (TC 7 3).1 = CN 7 := ⟨mg (List.mem_of_getElem? (i := 222) (by decide +kernel)) (by decide +kernel), rfl⟩
theorem fX8_138 : Cond.fieldLink RX8 138 (CN 7) (TC 7 3).2.1 (TC 7 3).2.2.1 ∈ GW ∧ (TC 7 3).1 = CN 7 := ⟨mg (List.mem_of_getElem? (i := 223) (by decide +kernel)) (by decide +kernel), rfl⟩
theorem fX7_64 : Cond.fieldLink RX7 64 (CN 7) (TC 7 4).2.1 (TC 7 4).2.2.1 ∈ GW ∧ (TC 7 4).1 = CN 7 := ⟨mg (List.mem_of_getElem? (i := 224) (by decide +kernel)) (by decide +kernel), rfl⟩
theorem fX8_141 : Cond.fieldLink RX8 141 (CN 7) (TC 7 4).2.1 (TC 7 4).2.2.1 ∈ GW ∧ (TC 7 4).1 = CN 7 := ⟨mg (List.mem_of_getElem? (i := 225) (by decide +kernel)) (by decide +kernel), rfl⟩
theorem fX3_69 : Cond.fieldLink RX3 69 (CN 7) (TC 7 5).2.1 (TC 7 5).2.2.1 ∈ GW ∧ (TC 7 5).1 = CN 7 := ⟨mg (List.mem_of_getElem? (i := 226) (by decide +kernel)) (by decide +kernel), rfl⟩
theorem fX7_49 : Cond.fieldLink RX7 49 (CN 7) (TC 7 5).2.1 (TC 7 5).2.2.1 ∈ GW ∧ (TC 7 5).1 = CN 7 := ⟨mg (List.mem_of_getElem? (i := 227) (by decide +kernel)) (by decide +kernel), rfl⟩
theorem fX8_144 : Cond.fieldLink RX8 144 (CN 7) (TC 7 5).2.1 (TC 7 5).2.2.1 ∈ GW ∧ (TC 7 5).1 = CN 7 := ⟨mg (List.mem_of_getElem? (i := 228) (by decide +kernel)) (by decide +kernel), rfl⟩
theorem fX7_42 : Cond.fieldLink RX7 42 (CN 7) (TC 7 6).2.1 (TC 7 6).2.2.1 ∈ GW ∧ (TC 7 6).1 = CN 7 := ⟨mg (List.mem_of_getElem? (i := 229) (by decide +kernel)) (by decide +kernel), rfl⟩
theorem fX7_52 : Cond.fieldLink RX7 52 (CN 7) (TC 7 7).2.1 (TC 7 7).2.2.1 ∈ GW ∧ (TC 7 7).1 = CN 7 := ⟨mg (List.mem_of_getElem? (i := 230) (by decide +kernel)) (by decide +kernel), rfl⟩
theorem fX3_92 : Cond.fieldLink RX3 92 (CN 7) (TC 7 7).2.1 (TC 7 7).2.2.1 ∈ GW ∧ (TC 7 7).1 = CN 7 := ⟨mg (List.mem_of_getElem? (i := 231) (by decide +kernel)) (by decide +kernel), rfl⟩
theorem fX8_155 : Cond.fieldLink RX8 155 (CN 7) (TC 7 7).2.1 (TC 7 7).2.2.1 ∈ GW ∧ (TC 7 7).1 = CN 7 := ⟨mg (List.mem_of_getElem? (i := 232) (by decide +kernel)) (by decide +kernel), rfl⟩
theorem fX7_55 : Cond.fieldLink RX7 55 (CN 7) (TC 7 8).2.1 (TC 7 8).2.2.1 ∈ GW ∧ (TC 7 8).1 = CN 7 := ⟨mg (List.mem_of_getElem? (i := 233) (by decide +kernel)) (by decide +kernel), rfl⟩
theorem fX3_95 : Cond.fieldLink RX3 95 (CN 7) (TC 7 8).2.1 (TC 7 8).2.2.1 ∈ GW ∧ (TC 7 8).1 = CN 7 := ⟨mg (List.mem_of_getElem? (i := 234) (by decide +kernel)) (by decide +kernel), rfl⟩
theorem fX8_158 : Cond.fieldLink RX8 158 (CN 7) (TC 7 8).2.1 (TC 7 8).2.2.1 ∈ GW ∧ (TC 7 8).1 = CN 7 := ⟨mg (List.mem_of_getElem? (i := 235) (by decide +kernel)) (by decide +kernel), rfl⟩
theorem fX8_242 : Cond.fieldLink RX8 242 (CN 7) (TC 7 9).2.1 (TC 7 9).2.2.1 ∈ GW ∧ (TC 7 9).1 = CN 7 := ⟨mg (List.mem_of_getElem? (i := 236) (by decide +kernel)) (by decide +kernel), rfl⟩
theorem fX7_9 : Cond.fieldLink RX7 9 (CN 7) (TC 7 10).2.1 (TC 7 10).2.2.1 ∈ GW ∧ (TC 7 10).1 = CN 7 := ⟨mg (List.mem_of_getElem? (i := 237) (by decide +kernel)) (by decide +kernel), rfl⟩
theorem fX3_44 : Cond.fieldLink RX3 44 (CN 7) (TC 7 10).2.1 (TC 7 10).2.2.1 ∈ GW ∧ (TC 7 10).1 = CN 7 := ⟨mg (List.mem_of_getElem? (i := 238) (by decide +kernel)) (by decide +kernel), rfl⟩
theorem fX8_167 : Cond.fieldLink RX8 167 (CN 7) (TC 7 10).2.1 (TC 7 10).2.2.1 ∈ GW ∧ (TC 7 10).1 = CN 7 := ⟨mg (List.mem_of_getElem? (i := 239) (by decide +kernel)) (by decide +kernel), rfl⟩
theorem fX7_15 : Cond.fieldLink RX7 15 (CN 7) (TC 7 11).2.1 (TC 7 11).2.2.1 ∈ GW ∧ (TC 7 11).1 = CN 7 := ⟨mg (List.mem_of_getElem? (i := 240) (by decide +kernel)) (by decide +kernel), rfl⟩
theorem fX8_283 : Cond.fieldLink RX8 283 (CN 7) (TC 7 11).2.1 (TC 7 11).2.2.1 ∈ GW ∧ (TC 7 11).1 = CN 7 := ⟨mg (List.mem_of_getElem? (i := 241) (by decide +kernel)) (by decide +kernel), rfl⟩
theorem fX7_18 : Cond.fieldLink RX7 18 (CN 7) (TC 7 12).2.1 (TC 7 12).2.2.1 ∈ GW ∧ (TC 7 12).1 = CN 7 := ⟨mg (List.mem_of_getElem? (i := 242) (by decide +kernel)) (by decide +kernel), rfl⟩
theorem fX8_170 : Cond.fieldLink RX8 170 (CN 7) (TC 7 12).2.1 (TC 7 12).2.2.1 ∈ GW ∧ (TC 7 12).1 = CN 7 := ⟨mg (List.mem_of_getElem? (i := 243) (by decide +kernel)) (by decide +kernel), rfl⟩
theorem fX7_21 : Cond.fieldLink RX7 21 (CN 7) (TC 7 13).2.1 (TC 7 13).2.2.1 ∈ GW ∧ (TC 7 13).1 = CN 7 := ⟨mg (List.mem_of_getElem? (i := 244) (by decide +kernel)) (by decide +kernel), rfl⟩
theorem fX3_80 : Cond.fieldLink RX3 80 (CN 7) (TC 7 13).2.1 (TC 7 13).2.2.1 ∈ GW ∧ (TC 7 13).1 = CN 7 := ⟨mg (List.mem_of_getElem? (i := 245) (by decide +kernel)) (by decide +kernel), rfl⟩
theorem fX7_24 : Cond.fieldLink RX7 24 (CN 7) (TC 7 14).2.1 (TC 7 14).2.2.1 ∈ GW ∧ (TC 7 14).1 = CN 7 := ⟨mg (List.mem_of_getElem? (i := 246) (by decide +kernel)) (by decide +kernel), rfl⟩
theorem fX8_207 : Cond.fieldLink RX8 207 (CN 7) (TC 7 14).2.1 (TC 7 14).2.2.1 ∈ GW ∧ (TC 7 14).1 = CN 7 := ⟨mg (List.mem_of_getElem? (i := 247) (by decide +kernel)) (by decide +kernel), rfl⟩
theorem fX7_30 : Cond.fieldLink RX7 30 (CN 7) (TC 7 15).2.1 (TC 7 15).2.2.1 ∈ GW ∧ (TC 7 15).1 = CN 7 := ⟨mg (List.mem_of_getElem? (i := 248) (by decide +kernel)) (by decide +kernel), rfl⟩
theorem aw_byte : Cond.arrayClass .byte ∈ GW := mg (List.mem_of_getElem? (i := 282) (by decide +kernel)) (by decide +kernel)
theorem nX8_65 : Cond.classLink RX8 65 (CN 3) ∈ GW := mg (List.mem_of_getElem? (i := 283) (by decide +kernel)) (by decide +kernel)
theorem iw3 : Cond.instantiable (CN 3) (nF 3) ∈ GW := mg (List.mem_of_getElem? (i := 284) (by decide +kernel)) (by decide +kernel)
theorem lX8_67 : Cond.methodLink RX8 67 yX3_init ∈ GW := mg (List.mem_of_getElem? (i := 285) (by decide +kernel)) (by decide +kernel)
theorem lX3_3 : Cond.methodLink RX3 3 Lib.objectInit ∈ GW := mg (List.mem_of_getElem? (i := 288) (by decide +kernel)) (by decide +kernel)
theorem fX3_19 : Cond.fieldLink RX3 19 (CN 3) (TC 3 0).2.1 (TC 3 0).2.2.1 ∈ GW ∧ (TC 3 0).1 = CN 3 := ⟨mg (List.mem_of_getElem? (i := 289) (by decide +kernel)) (by decide +kernel), rfl⟩
theorem fX3_23 : Cond.fieldLink RX3 23 (CN 3) (TC 3 1).2.1 (TC 3 1).2.2.1 ∈ GW ∧ (TC 3 1).1 = CN 3 := ⟨mg (List.mem_of_getElem? (i := 290) (by decide +kernel)) (by decide +kernel), rfl⟩
theorem fX3_11 : Cond.fieldLink RX3 11 (CN 3) (TC 3 2).2.1 (TC 3 2).2.2.1 ∈ GW ∧ (TC 3 2).1 = CN 3 := ⟨mg (List.mem_of_getElem? (i := 291) (by decide +kernel)) (by decide +kernel), rfl⟩
theorem fX3_15 : Cond.fieldLink RX3 15 (CN 3) (TC 3 3).2.1 (TC 3 3).2.2.1 ∈ GW ∧ (TC 3 3).1 = CN 3 := ⟨mg (List.mem_of_getElem? (i := 292) (by decide +kernel)) (by decide +kernel), rfl⟩
theorem fX3_89 : Cond.fieldLink RX3 89 (CN 3) (TC 3 4).2.1 (TC 3 4).2.2.1 ∈ GW ∧ (TC 3 4).1 = CN 3 := ⟨mg (List.mem_of_getElem? (i := 293) (by decide +kernel)) (by decide +kernel), rfl⟩
theorem fX3_40 : Cond.fieldLink RX3 40 (CN 3) (TC 3 5).2.1 (TC 3 5).2.2.1 ∈ GW ∧ (TC 3 5).1 = CN 3 := ⟨mg (List.mem_of_getElem? (i := 294) (by decide +kernel)) (by decide +kernel), rfl⟩
theorem aw_long : Cond.arrayClass .long ∈ GW := mg (List.mem_of_getElem? (i := 308) (by decide +kernel)) (by decide +kernel)
theorem iw4 : Cond.instantiable (CN 4) (nF 4) ∈ GW := mg (List.mem_of_getElem? (i := 309) (by decide +kernel)) (by decide +kernel)
theorem lX4_3 : Cond.methodLink RX4 3 Lib.objectInit ∈ GW := mg (List.mem_of_getElem? (i := 313) (by decide +kernel)) (by decide +kernel)
theorem fX8_190 : Cond.fieldLink RX8 190 (CN 4) (TC 4 0).2.1 (TC 4 0).2.2.1 ∈ GW ∧ (TC 4 0).1 = CN 4 := ⟨mg (List.mem_of_getElem? (i := 314) (by decide +kernel)) (by decide +kernel), rfl⟩
theorem fX8_347 : Cond.fieldLink RX8 347 (CN 4) (TC 4 1).2.1 (TC 4 1).2.2.1 ∈ GW ∧ (TC 4 1).1 = CN 4 := ⟨mg (List.mem_of_getElem? (i := 315) (by decide +kernel)) (by decide +kernel), rfl⟩
theorem fX4_19 : Cond.fieldLink RX4 19 (CN 4) (TC 4 2).2.1 (TC 4 2).2.2.1 ∈ GW ∧ (TC 4 2).1 = CN 4 := ⟨mg (List.mem_of_getElem? (i := 316) (by decide +kernel)) (by decide +kernel), rfl⟩
theorem fX8_193 : Cond.fieldLink RX8 193 (CN 4) (TC 4 2).2.1 (TC 4 2).2.2.1 ∈ GW ∧ (TC 4 2).1 = CN 4 := ⟨mg (List.mem_of_getElem? (i := 317) (by decide +kernel)) (by decide +kernel), rfl⟩
theorem fX4_15 : Cond.fieldLink RX4 15 (CN 4) (TC 4 3).2.1 (TC 4 3).2.2.1 ∈ GW ∧ (TC 4 3).1 = CN 4 := ⟨mg (List.mem_of_getElem? (i := 318) (by decide +kernel)) (by decide +kernel), rfl⟩
theorem fX8_350 : Cond.fieldLink RX8 350 (CN 4) (TC 4 3).2.1 (TC 4 3).2.2.1 ∈ GW ∧ (TC 4 3).1 = CN 4 := ⟨mg (List.mem_of_getElem? (i := 319) (by decide +kernel)) (by decide +kernel), rfl⟩
theorem fX4_9 : Cond.fieldLink RX4 9 (CN 4) (TC 4 4).2.1 (TC 4 4).2.2.1 ∈ GW ∧ (TC 4 4).1 = CN 4 := ⟨mg (List.mem_of_getElem? (i := 320) (by decide +kernel)) (by decide +kernel), rfl⟩
theorem fX8_197 : Cond.fieldLink RX8 197 (CN 4) (TC 4 4).2.1 (TC 4 4).2.2.1 ∈ GW ∧ (TC 4 4).1 = CN 4 := ⟨mg (List.mem_of_getElem? (i := 321) (by decide +kernel)) (by decide +kernel), rfl⟩
theorem fX8_10 : Cond.fieldLink RX8 10 (CN 8) (TC 8 0).2.1 (TC 8 0).2.2.1 ∈ GW ∧ (TC 8 0).1 = CN 8 := ⟨mg (List.mem_of_getElem? (i := 333) (by decide +kernel)) (by decide +kernel), rfl⟩
theorem fX8_19 : Cond.fieldLink RX8 19 (CN 8) (TC 8 1).2.1 (TC 8 1).2.2.1 ∈ GW ∧ (TC 8 1).1 = CN 8 := ⟨mg (List.mem_of_getElem? (i := 334) (by decide +kernel)) (by decide +kernel), rfl⟩
theorem fX8_25 : Cond.fieldLink RX8 25 (CN 8) (TC 8 2).2.1 (TC 8 2).2.2.1 ∈ GW ∧ (TC 8 2).1 = CN 8 := ⟨mg (List.mem_of_getElem? (i := 335) (by decide +kernel)) (by decide +kernel), rfl⟩
theorem fX8_110 : Cond.fieldLink RX8 110 (CN 8) (TC 8 3).2.1 (TC 8 3).2.2.1 ∈ GW ∧ (TC 8 3).1 = CN 8 := ⟨mg (List.mem_of_getElem? (i := 336) (by decide +kernel)) (by decide +kernel), rfl⟩
theorem fX8_31 : Cond.fieldLink RX8 31 (CN 8) (TC 8 4).2.1 (TC 8 4).2.2.1 ∈ GW ∧ (TC 8 4).1 = CN 8 := ⟨mg (List.mem_of_getElem? (i := 337) (by decide +kernel)) (by decide +kernel), rfl⟩
theorem fX8_128 : Cond.fieldLink RX8 128 (CN 8) (TC 8 5).2.1 (TC 8 5).2.2.1 ∈ GW ∧ (TC 8 5).1 = CN 8 := ⟨mg (List.mem_of_getElem? (i := 338) (by decide +kernel)) (by decide +kernel), rfl⟩
theorem fX8_38 : Cond.fieldLink RX8 38 (CN 8) (TC 8 6).2.1 (TC 8 6).2.2.1 ∈ GW ∧ (TC 8 6).1 = CN 8 := ⟨mg (List.mem_of_getElem? (i := 339) (by decide +kernel)) (by decide +kernel), rfl⟩
theorem fX8_45 : Cond.fieldLink RX8 45 (CN 8) (TC 8 7).2.1 (TC 8 7).2.2.1 ∈ GW ∧ (TC 8 7).1 = CN 8 := ⟨mg (List.mem_of_getElem? (i := 340) (by decide +kernel)) (by decide +kernel), rfl⟩
theorem fX8_51 : Cond.fieldLink RX8 51 (CN 8) (TC 8 8).2.1 (TC 8 8).2.2.1 ∈ GW ∧ (TC 8 8).1 = CN 8 := ⟨mg (List.mem_of_getElem? (i := 341) (by decide +kernel)) (by decide +kernel), rfl⟩
theorem fX8_58 : Cond.fieldLink RX8 58 (CN 8) (TC 8 9).2.1 (TC 8 9).2.2.1 ∈ GW ∧ (TC 8 9).1 = CN 8 := ⟨mg (List.mem_of_getElem? (i := 342) (by decide +kernel)) (by decide +kernel), rfl⟩
theorem fX8_62 : Cond.fieldLink RX8 62 (CN 8) (TC 8 10).2.1 (TC 8 10).2.2.1 ∈ GW ∧ (TC 8 10).1 = CN 8 := ⟨mg (List.mem_of_getElem? (i := 343) (by decide +kernel)) (by decide +kernel), rfl⟩
theorem fX8_70 : Cond.fieldLink RX8 70 (CN 8) (TC 8 11).2.1 (TC 8 11).2.2.1 ∈ GW ∧ (TC 8 11).1 = CN 8 := ⟨mg (List.mem_of_getElem? (i := 344) (by decide +kernel)) (by decide +kernel), rfl⟩
theorem fX8_74 : Cond.fieldLink RX8 74 (CN 8) (TC 8 12).2.1 (TC 8 12).2.2.1 ∈ GW ∧ (TC 8 12).1 = CN 8 := ⟨mg (List.mem_of_getElem? (i := 345) (by decide +kernel)) (by decide +kernel), rfl⟩
theorem fX8_78 : Cond.fieldLink RX8 78 (CN 8) (TC 8 13).2.1 (TC 8 13).2.2.1 ∈ GW ∧ (TC 8 13).1 = CN 8 := ⟨mg (List.mem_of_getElem? (i := 346) (by decide +kernel)) (by decide +kernel), rfl⟩
theorem fX8_81 : Cond.fieldLink RX8 81 (CN 8) (TC 8 14).2.1 (TC 8 14).2.2.1 ∈ GW ∧ (TC 8 14).1 = CN 8 := ⟨mg (List.mem_of_getElem? (i := 347) (by decide +kernel)) (by decide +kernel), rfl⟩
theorem fX8_84 : Cond.fieldLink RX8 84 (CN 8) (TC 8 15).2.1 (TC 8 15).2.2.1 ∈ GW ∧ (TC 8 15).1 = CN 8 := ⟨mg (List.mem_of_getElem? (i := 348) (by decide +kernel)) (by decide +kernel), rfl⟩
theorem lL_13 : Cond.methodLink RL 13 yX8_song ∈ GW := mg (List.mem_of_getElem? (i := 382) (by decide +kernel)) (by decide +kernel)
theorem lL_18 : Cond.methodLink RL 18 yX8_worth ∈ GW := mg (List.mem_of_getElem? (i := 386) (by decide +kernel)) (by decide +kernel)
theorem lX8_95 : Cond.methodLink RX8 95 yX5_has ∈ GW := mg (List.mem_of_getElem? (i := 390) (by decide +kernel)) (by decide +kernel)
theorem lX8_99 : Cond.methodLink RX8 99 yX1_note ∈ GW := mg (List.mem_of_getElem? (i := 394) (by decide +kernel)) (by decide +kernel)
theorem lX1_26 : Cond.methodLink RX1 26 yX1_forgetFirst ∈ GW := mg (List.mem_of_getElem? (i := 398) (by decide +kernel)) (by decide +kernel)
theorem lX1_32 : Cond.methodLink RX1 32 arraycopyName ∈ GW := mg (List.mem_of_getElem? (i := 402) (by decide +kernel)) (by decide +kernel)
theorem nat_arraycopy : Cond.native arraycopyName ∈ GW := mg (List.mem_of_getElem? (i := 404) (by decide +kernel)) (by decide +kernel)
theorem lL_23 : Cond.methodLink RL 23 yX8_feed ∈ GW := mg (List.mem_of_getElem? (i := 405) (by decide +kernel)) (by decide +kernel)
theorem lX8_106 : Cond.methodLink RX8 106 yX6_write ∈ GW := mg (List.mem_of_getElem? (i := 409) (by decide +kernel)) (by decide +kernel)
theorem lL_27 : Cond.methodLink RL 27 yX8_law ∈ GW := mg (List.mem_of_getElem? (i := 413) (by decide +kernel)) (by decide +kernel)
theorem lX8_113 : Cond.methodLink RX8 113 yX6_read ∈ GW := mg (List.mem_of_getElem? (i := 417) (by decide +kernel)) (by decide +kernel)
theorem lX6_29 : Cond.methodLink RX6 29 yX6_readLine ∈ GW := mg (List.mem_of_getElem? (i := 421) (by decide +kernel)) (by decide +kernel)
theorem lX6_41 : Cond.methodLink RX6 41 yX6_readAny ∈ GW := mg (List.mem_of_getElem? (i := 425) (by decide +kernel)) (by decide +kernel)
theorem lX6_55 : Cond.methodLink RX6 55 yX6_readAll ∈ GW := mg (List.mem_of_getElem? (i := 429) (by decide +kernel)) (by decide +kernel)
theorem lX6_58 : Cond.methodLink RX6 58 yX6_readCompared ∈ GW := mg (List.mem_of_getElem? (i := 433) (by decide +kernel)) (by decide +kernel)
theorem lX6_61 : Cond.methodLink RX6 61 yX6_readSum ∈ GW := mg (List.mem_of_getElem? (i := 437) (by decide +kernel)) (by decide +kernel)
theorem lX6_64 : Cond.methodLink RX6 64 yX6_readProduct ∈ GW := mg (List.mem_of_getElem? (i := 441) (by decide +kernel)) (by decide +kernel)
theorem lX6_67 : Cond.methodLink RX6 67 yX6_readOne ∈ GW := mg (List.mem_of_getElem? (i := 445) (by decide +kernel)) (by decide +kernel)
theorem lX6_45 : Cond.methodLink RX6 45 yX6_next ∈ GW := mg (List.mem_of_getElem? (i := 449) (by decide +kernel)) (by decide +kernel)
theorem lX6_70 : Cond.methodLink RX6 70 yX6_nameOf ∈ GW := mg (List.mem_of_getElem? (i := 453) (by decide +kernel)) (by decide +kernel)
theorem lX6_74 : Cond.methodLink RX6 74 yX6_readNumber ∈ GW := mg (List.mem_of_getElem? (i := 456) (by decide +kernel)) (by decide +kernel)
theorem lX6_51 : Cond.methodLink RX6 51 yX6_mark ∈ GW := mg (List.mem_of_getElem? (i := 460) (by decide +kernel)) (by decide +kernel)
theorem lX6_77 : Cond.methodLink RX6 77 yX6_readOpen ∈ GW := mg (List.mem_of_getElem? (i := 464) (by decide +kernel)) (by decide +kernel)
theorem lX6_32 : Cond.methodLink RX6 32 yX6_fail ∈ GW := mg (List.mem_of_getElem? (i := 468) (by decide +kernel)) (by decide +kernel)
theorem iw2 : Cond.instantiable (CN 2) (nF 2) ∈ GW := mg (List.mem_of_getElem? (i := 472) (by decide +kernel)) (by decide +kernel)
theorem lX8_117 : Cond.methodLink RX8 117 yX6_codeRead ∈ GW := mg (List.mem_of_getElem? (i := 473) (by decide +kernel)) (by decide +kernel)
theorem lX6_35 : Cond.methodLink RX6 35 yJ7_copyOf_59c91 ∈ GW := mg (List.mem_of_getElem? (i := 477) (by decide +kernel)) (by decide +kernel)
theorem lJ7_316 : Cond.methodLink RJ7 316 ⟨"[I", "clone", "()Ljava/lang/Object;"⟩ ∈ GW := mg (List.mem_of_getElem? (i := 480) (by decide +kernel)) (by decide +kernel)
theorem same_clone : Cond.sameMethod "[I" "java/lang/Object" "clone" "()Ljava/lang/Object;" ∈ GW := mg (List.mem_of_getElem? (i := 481) (by decide +kernel)) (by decide +kernel)
theorem nat_clone : Cond.native ⟨"java/lang/Object", "clone", "()Ljava/lang/Object;"⟩ ∈ GW := mg (List.mem_of_getElem? (i := 482) (by decide +kernel)) (by decide +kernel)
theorem nJ7_317 : Cond.classLink RJ7 317 "[I" ∈ GW := mg (List.mem_of_getElem? (i := 486) (by decide +kernel)) (by decide +kernel)
theorem lJ7_304 : Cond.methodLink RJ7 304 yJ9_min_7cf53 ∈ GW := mg (List.mem_of_getElem? (i := 487) (by decide +kernel)) (by decide +kernel)
theorem lJ7_150 : Cond.methodLink RJ7 150 arraycopyName ∈ GW := mg (List.mem_of_getElem? (i := 490) (by decide +kernel)) (by decide +kernel)
theorem lX8_121 : Cond.methodLink RX8 121 yX2_init ∈ GW := mg (List.mem_of_getElem? (i := 491) (by decide +kernel)) (by decide +kernel)
theorem lX2_3 : Cond.methodLink RX2 3 Lib.objectInit ∈ GW := mg (List.mem_of_getElem? (i := 494) (by decide +kernel)) (by decide +kernel)
theorem fX2_15 : Cond.fieldLink RX2 15 (CN 2) (TC 2 0).2.1 (TC 2 0).2.2.1 ∈ GW ∧ (TC 2 0).1 = CN 2 := ⟨mg (List.mem_of_getElem? (i := 495) (by decide +kernel)) (by decide +kernel), rfl⟩
theorem fX2_11 : Cond.fieldLink RX2 11 (CN 2) (TC 2 1).2.1 (TC 2 1).2.2.1 ∈ GW ∧ (TC 2 1).1 = CN 2 := ⟨mg (List.mem_of_getElem? (i := 496) (by decide +kernel)) (by decide +kernel), rfl⟩
theorem lL_32 : Cond.methodLink RL 32 yX8_world ∈ GW := mg (List.mem_of_getElem? (i := 502) (by decide +kernel)) (by decide +kernel)
theorem lX8_124 : Cond.methodLink RX8 124 yX8_lawOf ∈ GW := mg (List.mem_of_getElem? (i := 506) (by decide +kernel)) (by decide +kernel)
theorem lX8_131 : Cond.methodLink RX8 131 yX7_begin ∈ GW := mg (List.mem_of_getElem? (i := 510) (by decide +kernel)) (by decide +kernel)
theorem lX7_58 : Cond.methodLink RX7 58 yJ7_fill_53178 ∈ GW := mg (List.mem_of_getElem? (i := 514) (by decide +kernel)) (by decide +kernel)
theorem lL_37 : Cond.methodLink RL 37 yX8_nothing ∈ GW := mg (List.mem_of_getElem? (i := 517) (by decide +kernel)) (by decide +kernel)
theorem lX8_147 : Cond.methodLink RX8 147 yX8_worldOf ∈ GW := mg (List.mem_of_getElem? (i := 521) (by decide +kernel)) (by decide +kernel)
theorem lL_41 : Cond.methodLink RL 41 yX8_of ∈ GW := mg (List.mem_of_getElem? (i := 525) (by decide +kernel)) (by decide +kernel)
theorem lX8_151 : Cond.methodLink RX8 151 yX8_ofSong ∈ GW := mg (List.mem_of_getElem? (i := 529) (by decide +kernel)) (by decide +kernel)
theorem lX8_164 : Cond.methodLink RX8 164 yX7_arrange ∈ GW := mg (List.mem_of_getElem? (i := 532) (by decide +kernel)) (by decide +kernel)
theorem lX7_72 : Cond.methodLink RX7 72 yX7_rank ∈ GW := mg (List.mem_of_getElem? (i := 536) (by decide +kernel)) (by decide +kernel)
theorem lX8_173 : Cond.methodLink RX8 173 yX7_placeSeen ∈ GW := mg (List.mem_of_getElem? (i := 539) (by decide +kernel)) (by decide +kernel)
theorem lX8_177 : Cond.methodLink RX8 177 yX7_share ∈ GW := mg (List.mem_of_getElem? (i := 543) (by decide +kernel)) (by decide +kernel)
theorem lX7_120 : Cond.methodLink RX7 120 yX7_allCounts ∈ GW := mg (List.mem_of_getElem? (i := 547) (by decide +kernel)) (by decide +kernel)
theorem lX8_161 : Cond.methodLink RX8 161 yX7_first ∈ GW := mg (List.mem_of_getElem? (i := 551) (by decide +kernel)) (by decide +kernel)
theorem lX7_76 : Cond.methodLink RX7 76 yX7_greatest ∈ GW := mg (List.mem_of_getElem? (i := 555) (by decide +kernel)) (by decide +kernel)
theorem lL_45 : Cond.methodLink RL 45 yX8_weight ∈ GW := mg (List.mem_of_getElem? (i := 559) (by decide +kernel)) (by decide +kernel)
theorem lX8_180 : Cond.methodLink RX8 180 yX7_weigh ∈ GW := mg (List.mem_of_getElem? (i := 563) (by decide +kernel)) (by decide +kernel)
theorem lX7_86 : Cond.methodLink RX7 86 yX7_placeSeen ∈ GW := mg (List.mem_of_getElem? (i := 567) (by decide +kernel)) (by decide +kernel)
theorem lX7_90 : Cond.methodLink RX7 90 yX2_weigh ∈ GW := mg (List.mem_of_getElem? (i := 568) (by decide +kernel)) (by decide +kernel)
theorem lX2_18 : Cond.methodLink RX2 18 yJ9_max_7cf53 ∈ GW := mg (List.mem_of_getElem? (i := 572) (by decide +kernel)) (by decide +kernel)
theorem lX2_24 : Cond.methodLink RX2 24 yJ9_min_7cf53 ∈ GW := mg (List.mem_of_getElem? (i := 575) (by decide +kernel)) (by decide +kernel)
theorem lX2_27 : Cond.methodLink RX2 27 yX2_joined ∈ GW := mg (List.mem_of_getElem? (i := 576) (by decide +kernel)) (by decide +kernel)
theorem lL_49 : Cond.methodLink RL 49 yX8_come ∈ GW := mg (List.mem_of_getElem? (i := 579) (by decide +kernel)) (by decide +kernel)
theorem lX8_183 : Cond.methodLink RX8 183 yX7_manyCome ∈ GW := mg (List.mem_of_getElem? (i := 583) (by decide +kernel)) (by decide +kernel)
theorem lX7_95 : Cond.methodLink RX7 95 yX7_oneComes ∈ GW := mg (List.mem_of_getElem? (i := 587) (by decide +kernel)) (by decide +kernel)
theorem lX7_98 : Cond.methodLink RX7 98 yX7_weighAll ∈ GW := mg (List.mem_of_getElem? (i := 591) (by decide +kernel)) (by decide +kernel)
theorem lX7_80 : Cond.methodLink RX7 80 yX7_arrange ∈ GW := mg (List.mem_of_getElem? (i := 595) (by decide +kernel)) (by decide +kernel)
theorem lX7_93 : Cond.methodLink RX7 93 yX7_weigh ∈ GW := mg (List.mem_of_getElem? (i := 596) (by decide +kernel)) (by decide +kernel)
theorem lX7_102 : Cond.methodLink RX7 102 yX7_drawn ∈ GW := mg (List.mem_of_getElem? (i := 597) (by decide +kernel)) (by decide +kernel)
theorem kX7_37 : Cond.constant RX7 37 1103515245 ∈ GW := mg (List.mem_of_getElem? (i := 600) (by decide +kernel)) (by decide +kernel)
theorem lX7_105 : Cond.methodLink RX7 105 yX7_receive ∈ GW := mg (List.mem_of_getElem? (i := 601) (by decide +kernel)) (by decide +kernel)
theorem lX7_109 : Cond.methodLink RX7 109 yX5_has ∈ GW := mg (List.mem_of_getElem? (i := 605) (by decide +kernel)) (by decide +kernel)
theorem kX7_113 : Cond.constant RX7 113 99999 ∈ GW := mg (List.mem_of_getElem? (i := 606) (by decide +kernel)) (by decide +kernel)
theorem lX7_114 : Cond.methodLink RX7 114 yJ9_min_7cf53 ∈ GW := mg (List.mem_of_getElem? (i := 607) (by decide +kernel)) (by decide +kernel)
theorem lL_53 : Cond.methodLink RL 53 yX8_keepings ∈ GW := mg (List.mem_of_getElem? (i := 608) (by decide +kernel)) (by decide +kernel)
theorem lX8_186 : Cond.methodLink RX8 186 yX8_shelfOf ∈ GW := mg (List.mem_of_getElem? (i := 612) (by decide +kernel)) (by decide +kernel)
theorem lX8_196 : Cond.methodLink RX8 196 yX4_has ∈ GW := mg (List.mem_of_getElem? (i := 616) (by decide +kernel)) (by decide +kernel)
theorem lX8_201 : Cond.methodLink RX8 201 yX7_receive ∈ GW := mg (List.mem_of_getElem? (i := 620) (by decide +kernel)) (by decide +kernel)
theorem lL_58 : Cond.methodLink RL 58 yX8_led ∈ GW := mg (List.mem_of_getElem? (i := 621) (by decide +kernel)) (by decide +kernel)
theorem lX8_204 : Cond.methodLink RX8 204 yX7_logged ∈ GW := mg (List.mem_of_getElem? (i := 625) (by decide +kernel)) (by decide +kernel)
theorem lL_62 : Cond.methodLink RL 62 yX8_unequal ∈ GW := mg (List.mem_of_getElem? (i := 629) (by decide +kernel)) (by decide +kernel)
theorem lX8_211 : Cond.methodLink RX8 211 yJ9_abs_0f7a4 ∈ GW := mg (List.mem_of_getElem? (i := 633) (by decide +kernel)) (by decide +kernel)
theorem lL_66 : Cond.methodLink RL 66 yX8_unlike ∈ GW := mg (List.mem_of_getElem? (i := 636) (by decide +kernel)) (by decide +kernel)
theorem lX8_216 : Cond.methodLink RX8 216 yX8_apart ∈ GW := mg (List.mem_of_getElem? (i := 640) (by decide +kernel)) (by decide +kernel)
theorem lL_70 : Cond.methodLink RL 70 yX8_luck ∈ GW := mg (List.mem_of_getElem? (i := 644) (by decide +kernel)) (by decide +kernel)
theorem lX8_220 : Cond.methodLink RX8 220 yX8_luckOf ∈ GW := mg (List.mem_of_getElem? (i := 648) (by decide +kernel)) (by decide +kernel)
theorem lL_74 : Cond.methodLink RL 74 yX8_right ∈ GW := mg (List.mem_of_getElem? (i := 652) (by decide +kernel)) (by decide +kernel)
theorem lX8_224 : Cond.methodLink RX8 224 yX7_way ∈ GW := mg (List.mem_of_getElem? (i := 656) (by decide +kernel)) (by decide +kernel)
theorem lX7_123 : Cond.methodLink RX7 123 yJ6_compare_7cf53 ∈ GW := mg (List.mem_of_getElem? (i := 660) (by decide +kernel)) (by decide +kernel)
theorem lL_78 : Cond.methodLink RL 78 yX8_guess ∈ GW := mg (List.mem_of_getElem? (i := 663) (by decide +kernel)) (by decide +kernel)
theorem lX8_227 : Cond.methodLink RX8 227 yX8_waysOf ∈ GW := mg (List.mem_of_getElem? (i := 667) (by decide +kernel)) (by decide +kernel)
theorem lX8_231 : Cond.methodLink RX8 231 yJ9_max_7cf53 ∈ GW := mg (List.mem_of_getElem? (i := 671) (by decide +kernel)) (by decide +kernel)
theorem lL_82 : Cond.methodLink RL 82 yX8_odds ∈ GW := mg (List.mem_of_getElem? (i := 672) (by decide +kernel)) (by decide +kernel)
theorem lX8_234 : Cond.methodLink RX8 234 yX3_foretell ∈ GW := mg (List.mem_of_getElem? (i := 676) (by decide +kernel)) (by decide +kernel)
theorem lX3_27 : Cond.methodLink RX3 27 yX7_followLawOf ∈ GW := mg (List.mem_of_getElem? (i := 680) (by decide +kernel)) (by decide +kernel)
theorem lX3_33 : Cond.methodLink RX3 33 yX3_start ∈ GW := mg (List.mem_of_getElem? (i := 684) (by decide +kernel)) (by decide +kernel)
theorem lX3_83 : Cond.methodLink RX3 83 yJ7_fill_53178 ∈ GW := mg (List.mem_of_getElem? (i := 688) (by decide +kernel)) (by decide +kernel)
theorem lX3_36 : Cond.methodLink RX3 36 yX3_think ∈ GW := mg (List.mem_of_getElem? (i := 689) (by decide +kernel)) (by decide +kernel)
theorem kX3_98 : Cond.constant RX3 98 99999 ∈ GW := mg (List.mem_of_getElem? (i := 693) (by decide +kernel)) (by decide +kernel)
theorem lX3_99 : Cond.methodLink RX3 99 yJ9_min_7cf53 ∈ GW := mg (List.mem_of_getElem? (i := 694) (by decide +kernel)) (by decide +kernel)
theorem kX3_47 : Cond.constantLong RX3 47 1000 ∈ GW := mg (List.mem_of_getElem? (i := 695) (by decide +kernel)) (by decide +kernel)
theorem lX3_49 : Cond.methodLink RX3 49 yX7_first ∈ GW := mg (List.mem_of_getElem? (i := 696) (by decide +kernel)) (by decide +kernel)
theorem kX3_53 : Cond.constantLong RX3 53 1000000 ∈ GW := mg (List.mem_of_getElem? (i := 697) (by decide +kernel)) (by decide +kernel)
theorem lX3_55 : Cond.methodLink RX3 55 yX3_turn ∈ GW := mg (List.mem_of_getElem? (i := 698) (by decide +kernel)) (by decide +kernel)
theorem fX3_77 : Cond.fieldLink RX3 77 "EightWorlds$Odds" "STEPS" "[I" ∈ GW := mg (List.mem_of_getElem? (i := 702) (by decide +kernel)) (by decide +kernel)
theorem lX3_59 : Cond.methodLink RX3 59 yX3_goBack ∈ GW := mg (List.mem_of_getElem? (i := 704) (by decide +kernel)) (by decide +kernel)
theorem lX3_62 : Cond.methodLink RX3 62 yX7_weighAll ∈ GW := mg (List.mem_of_getElem? (i := 708) (by decide +kernel)) (by decide +kernel)
theorem lX3_65 : Cond.methodLink RX3 65 yX3_mixed ∈ GW := mg (List.mem_of_getElem? (i := 709) (by decide +kernel)) (by decide +kernel)
theorem lL_86 : Cond.methodLink RL 86 yX8_after ∈ GW := mg (List.mem_of_getElem? (i := 713) (by decide +kernel)) (by decide +kernel)
theorem lX8_238 : Cond.methodLink RX8 238 yX7_settled ∈ GW := mg (List.mem_of_getElem? (i := 717) (by decide +kernel)) (by decide +kernel)
theorem lX7_128 : Cond.methodLink RX7 128 yX7_logged ∈ GW := mg (List.mem_of_getElem? (i := 721) (by decide +kernel)) (by decide +kernel)
theorem lL_90 : Cond.methodLink RL 90 yX8_shop ∈ GW := mg (List.mem_of_getElem? (i := 722) (by decide +kernel)) (by decide +kernel)
theorem lL_94 : Cond.methodLink RL 94 yX8_chart ∈ GW := mg (List.mem_of_getElem? (i := 726) (by decide +kernel)) (by decide +kernel)
theorem lX8_245 : Cond.methodLink RX8 245 yX8_toldOf ∈ GW := mg (List.mem_of_getElem? (i := 730) (by decide +kernel)) (by decide +kernel)
theorem lX8_248 : Cond.methodLink RX8 248 yX7_rank ∈ GW := mg (List.mem_of_getElem? (i := 734) (by decide +kernel)) (by decide +kernel)
theorem lL_98 : Cond.methodLink RL 98 yX8_crate ∈ GW := mg (List.mem_of_getElem? (i := 735) (by decide +kernel)) (by decide +kernel)
theorem kX8_252 : Cond.constant RX8 252 99999 ∈ GW := mg (List.mem_of_getElem? (i := 739) (by decide +kernel)) (by decide +kernel)
theorem lX8_253 : Cond.methodLink RX8 253 yJ9_min_7cf53 ∈ GW := mg (List.mem_of_getElem? (i := 740) (by decide +kernel)) (by decide +kernel)
theorem lL_102 : Cond.methodLink RL 102 yX8_found ∈ GW := mg (List.mem_of_getElem? (i := 741) (by decide +kernel)) (by decide +kernel)
theorem lX8_256 : Cond.methodLink RX8 256 yX7_allCounts ∈ GW := mg (List.mem_of_getElem? (i := 745) (by decide +kernel)) (by decide +kernel)
theorem lX8_259 : Cond.methodLink RX8 259 yX5_allWorths ∈ GW := mg (List.mem_of_getElem? (i := 746) (by decide +kernel)) (by decide +kernel)
theorem lL_106 : Cond.methodLink RL 106 yX8_house ∈ GW := mg (List.mem_of_getElem? (i := 750) (by decide +kernel)) (by decide +kernel)
theorem kX8_262 : Cond.constant RX8 262 (-2000000000) ∈ GW := mg (List.mem_of_getElem? (i := 754) (by decide +kernel)) (by decide +kernel)
theorem lX8_263 : Cond.methodLink RX8 263 yX7_firstOnes ∈ GW := mg (List.mem_of_getElem? (i := 755) (by decide +kernel)) (by decide +kernel)
theorem lX8_266 : Cond.methodLink RX8 266 yJ6_bitCount_0f7a4 ∈ GW := mg (List.mem_of_getElem? (i := 759) (by decide +kernel)) (by decide +kernel)
theorem kJ6_265 : Cond.constant RJ6 265 1431655765 ∈ GW := mg (List.mem_of_getElem? (i := 762) (by decide +kernel)) (by decide +kernel)
theorem kJ6_266 : Cond.constant RJ6 266 858993459 ∈ GW := mg (List.mem_of_getElem? (i := 763) (by decide +kernel)) (by decide +kernel)
theorem kJ6_267 : Cond.constant RJ6 267 252645135 ∈ GW := mg (List.mem_of_getElem? (i := 764) (by decide +kernel)) (by decide +kernel)
theorem lL_110 : Cond.methodLink RL 110 yX8_said ∈ GW := mg (List.mem_of_getElem? (i := 765) (by decide +kernel)) (by decide +kernel)
theorem lX8_271 : Cond.methodLink RX8 271 yX8_isTrueOf ∈ GW := mg (List.mem_of_getElem? (i := 769) (by decide +kernel)) (by decide +kernel)
theorem lX8_275 : Cond.methodLink RX8 275 yX8_weightSaid ∈ GW := mg (List.mem_of_getElem? (i := 773) (by decide +kernel)) (by decide +kernel)
theorem lX8_286 : Cond.methodLink RX8 286 yJ7_fill_53178 ∈ GW := mg (List.mem_of_getElem? (i := 777) (by decide +kernel)) (by decide +kernel)
theorem lX8_292 : Cond.methodLink RX8 292 yX2_weigh ∈ GW := mg (List.mem_of_getElem? (i := 778) (by decide +kernel)) (by decide +kernel)
theorem lX8_279 : Cond.methodLink RX8 279 yX8_ordersFrom ∈ GW := mg (List.mem_of_getElem? (i := 779) (by decide +kernel)) (by decide +kernel)
theorem lL_114 : Cond.methodLink RL 114 yX8_strong ∈ GW := mg (List.mem_of_getElem? (i := 782) (by decide +kernel)) (by decide +kernel)
theorem lX8_294 : Cond.methodLink RX8 294 yX8_apartInThought ∈ GW := mg (List.mem_of_getElem? (i := 786) (by decide +kernel)) (by decide +kernel)
theorem lL_118 : Cond.methodLink RL 118 yX8_line ∈ GW := mg (List.mem_of_getElem? (i := 790) (by decide +kernel)) (by decide +kernel)
theorem lX8_297 : Cond.methodLink RX8 297 yX8_farApart ∈ GW := mg (List.mem_of_getElem? (i := 794) (by decide +kernel)) (by decide +kernel)
theorem lL_122 : Cond.methodLink RL 122 yX8_against ∈ GW := mg (List.mem_of_getElem? (i := 798) (by decide +kernel)) (by decide +kernel)
theorem lX8_301 : Cond.methodLink RX8 301 arraycopyName ∈ GW := mg (List.mem_of_getElem? (i := 802) (by decide +kernel)) (by decide +kernel)
theorem lX8_307 : Cond.methodLink RX8 307 yX8_shuffle ∈ GW := mg (List.mem_of_getElem? (i := 803) (by decide +kernel)) (by decide +kernel)
theorem lX8_311 : Cond.methodLink RX8 311 yX7_drawn ∈ GW := mg (List.mem_of_getElem? (i := 806) (by decide +kernel)) (by decide +kernel)
theorem lL_126 : Cond.methodLink RL 126 yX8_undo ∈ GW := mg (List.mem_of_getElem? (i := 807) (by decide +kernel)) (by decide +kernel)
theorem lX8_320 : Cond.methodLink RX8 320 yX8_apply ∈ GW := mg (List.mem_of_getElem? (i := 811) (by decide +kernel)) (by decide +kernel)
theorem lL_130 : Cond.methodLink RL 130 yX8_redo ∈ GW := mg (List.mem_of_getElem? (i := 815) (by decide +kernel)) (by decide +kernel)
theorem lL_134 : Cond.methodLink RL 134 yX8_body ∈ GW := mg (List.mem_of_getElem? (i := 819) (by decide +kernel)) (by decide +kernel)
theorem lL_138 : Cond.methodLink RL 138 yX8_act ∈ GW := mg (List.mem_of_getElem? (i := 823) (by decide +kernel)) (by decide +kernel)
theorem lX8_336 : Cond.methodLink RX8 336 yX0_perform ∈ GW := mg (List.mem_of_getElem? (i := 827) (by decide +kernel)) (by decide +kernel)
theorem lX0_26 : Cond.methodLink RX0 26 yX0_has ∈ GW := mg (List.mem_of_getElem? (i := 831) (by decide +kernel)) (by decide +kernel)
theorem lX0_33 : Cond.methodLink RX0 33 yX0_own ∈ GW := mg (List.mem_of_getElem? (i := 835) (by decide +kernel)) (by decide +kernel)
theorem lX0_37 : Cond.methodLink RX0 37 yX0_ask ∈ GW := mg (List.mem_of_getElem? (i := 839) (by decide +kernel)) (by decide +kernel)
theorem fX0_41 : Cond.fieldLink RX0 41 "EightWorlds$Acts" "BODIES" "[I" ∈ GW := mg (List.mem_of_getElem? (i := 843) (by decide +kernel)) (by decide +kernel)
theorem fX0_20 : Cond.fieldLink RX0 20 "EightWorlds$Acts" "ABOVE" "[I" ∈ GW := mg (List.mem_of_getElem? (i := 845) (by decide +kernel)) (by decide +kernel)
theorem lX0_44 : Cond.methodLink RX0 44 yX0_run ∈ GW := mg (List.mem_of_getElem? (i := 847) (by decide +kernel)) (by decide +kernel)
theorem lX0_47 : Cond.methodLink RX0 47 yX0_above ∈ GW := mg (List.mem_of_getElem? (i := 851) (by decide +kernel)) (by decide +kernel)
theorem lL_142 : Cond.methodLink RL 142 yX8_trace ∈ GW := mg (List.mem_of_getElem? (i := 855) (by decide +kernel)) (by decide +kernel)
theorem lL_146 : Cond.methodLink RL 146 yX8_keep ∈ GW := mg (List.mem_of_getElem? (i := 859) (by decide +kernel)) (by decide +kernel)
theorem lX8_346 : Cond.methodLink RX8 346 yX0_has ∈ GW := mg (List.mem_of_getElem? (i := 863) (by decide +kernel)) (by decide +kernel)
theorem lL_150 : Cond.methodLink RL 150 yX8_row ∈ GW := mg (List.mem_of_getElem? (i := 864) (by decide +kernel)) (by decide +kernel)
theorem lX8_351 : Cond.methodLink RX8 351 yJ7_fill_d0a16 ∈ GW := mg (List.mem_of_getElem? (i := 868) (by decide +kernel)) (by decide +kernel)
theorem lL_156 : Cond.methodLink RL 156 yX8_put ∈ GW := mg (List.mem_of_getElem? (i := 871) (by decide +kernel)) (by decide +kernel)
theorem lX8_354 : Cond.methodLink RX8 354 yX8_refusalOf ∈ GW := mg (List.mem_of_getElem? (i := 875) (by decide +kernel)) (by decide +kernel)
theorem lX8_358 : Cond.methodLink RX8 358 yX4_lowest ∈ GW := mg (List.mem_of_getElem? (i := 878) (by decide +kernel)) (by decide +kernel)
theorem lL_161 : Cond.methodLink RL 161 yX8_element ∈ GW := mg (List.mem_of_getElem? (i := 882) (by decide +kernel)) (by decide +kernel)
theorem kX8_362 : Cond.constantLong RX8 362 (-9223372036854775808) ∈ GW := mg (List.mem_of_getElem? (i := 886) (by decide +kernel)) (by decide +kernel)
theorem lL_166 : Cond.methodLink RL 166 yX8_shift ∈ GW := mg (List.mem_of_getElem? (i := 887) (by decide +kernel)) (by decide +kernel)
theorem lX8_364 : Cond.methodLink RX8 364 yX4_hasRun ∈ GW := mg (List.mem_of_getElem? (i := 891) (by decide +kernel)) (by decide +kernel)
theorem lL_171 : Cond.methodLink RL 171 yX8_taken ∈ GW := mg (List.mem_of_getElem? (i := 895) (by decide +kernel)) (by decide +kernel)
theorem lX8_368 : Cond.methodLink RX8 368 yX0_isUnder ∈ GW := mg (List.mem_of_getElem? (i := 899) (by decide +kernel)) (by decide +kernel)
theorem lL_175 : Cond.methodLink RL 175 yX8_count ∈ GW := mg (List.mem_of_getElem? (i := 902) (by decide +kernel)) (by decide +kernel)
theorem nL_10 : Cond.classLink RL 10 (CN 9) ∈ GW := mg (List.mem_of_getElem? (i := 906) (by decide +kernel)) (by decide +kernel)
theorem iw9 : Cond.instantiable (CN 9) (nF 9) ∈ GW := mg (List.mem_of_getElem? (i := 907) (by decide +kernel)) (by decide +kernel)
theorem lL_12 : Cond.methodLink RL 12 yX9_init ∈ GW := mg (List.mem_of_getElem? (i := 908) (by decide +kernel)) (by decide +kernel)
theorem lX9_3 : Cond.methodLink RX9 3 Lib.objectInit ∈ GW := mg (List.mem_of_getElem? (i := 911) (by decide +kernel)) (by decide +kernel)
theorem fX9_9 : Cond.fieldLink RX9 9 (CN 9) (TC 9 0).2.1 (TC 9 0).2.2.1 ∈ GW ∧ (TC 9 0).1 = CN 9 := ⟨mg (List.mem_of_getElem? (i := 912) (by decide +kernel)) (by decide +kernel), rfl⟩
theorem fX9_13 : Cond.fieldLink RX9 13 (CN 9) (TC 9 1).2.1 (TC 9 1).2.2.1 ∈ GW ∧ (TC 9 1).1 = CN 9 := ⟨mg (List.mem_of_getElem? (i := 913) (by decide +kernel)) (by decide +kernel), rfl⟩
theorem fX9_16 : Cond.fieldLink RX9 16 (CN 9) (TC 9 2).2.1 (TC 9 2).2.2.1 ∈ GW ∧ (TC 9 2).1 = CN 9 := ⟨mg (List.mem_of_getElem? (i := 914) (by decide +kernel)) (by decide +kernel), rfl⟩
theorem fX9_19 : Cond.fieldLink RX9 19 (CN 9) (TC 9 3).2.1 (TC 9 3).2.2.1 ∈ GW ∧ (TC 9 3).1 = CN 9 := ⟨mg (List.mem_of_getElem? (i := 915) (by decide +kernel)) (by decide +kernel), rfl⟩
theorem fX9_96 : Cond.fieldLink RX9 96 (CN 9) (TC 9 4).2.1 (TC 9 4).2.2.1 ∈ GW ∧ (TC 9 4).1 = CN 9 := ⟨mg (List.mem_of_getElem? (i := 916) (by decide +kernel)) (by decide +kernel), rfl⟩
theorem fX9_92 : Cond.fieldLink RX9 92 (CN 9) (TC 9 5).2.1 (TC 9 5).2.2.1 ∈ GW ∧ (TC 9 5).1 = CN 9 := ⟨mg (List.mem_of_getElem? (i := 917) (by decide +kernel)) (by decide +kernel), rfl⟩
theorem fX9_99 : Cond.fieldLink RX9 99 (CN 9) (TC 9 6).2.1 (TC 9 6).2.2.1 ∈ GW ∧ (TC 9 6).1 = CN 9 := ⟨mg (List.mem_of_getElem? (i := 918) (by decide +kernel)) (by decide +kernel), rfl⟩
theorem fX9_22 : Cond.fieldLink RX9 22 (CN 9) (TC 9 7).2.1 (TC 9 7).2.2.1 ∈ GW ∧ (TC 9 7).1 = CN 9 := ⟨mg (List.mem_of_getElem? (i := 919) (by decide +kernel)) (by decide +kernel), rfl⟩
theorem fX9_121 : Cond.fieldLink RX9 121 (CN 9) (TC 9 8).2.1 (TC 9 8).2.2.1 ∈ GW ∧ (TC 9 8).1 = CN 9 := ⟨mg (List.mem_of_getElem? (i := 920) (by decide +kernel)) (by decide +kernel), rfl⟩
theorem fX9_106 : Cond.fieldLink RX9 106 (CN 9) (TC 9 9).2.1 (TC 9 9).2.2.1 ∈ GW ∧ (TC 9 9).1 = CN 9 := ⟨mg (List.mem_of_getElem? (i := 921) (by decide +kernel)) (by decide +kernel), rfl⟩
theorem fX9_25 : Cond.fieldLink RX9 25 (CN 9) (TC 9 10).2.1 (TC 9 10).2.2.1 ∈ GW ∧ (TC 9 10).1 = CN 9 := ⟨mg (List.mem_of_getElem? (i := 922) (by decide +kernel)) (by decide +kernel), rfl⟩
theorem fX9_28 : Cond.fieldLink RX9 28 (CN 9) (TC 9 11).2.1 (TC 9 11).2.2.1 ∈ GW ∧ (TC 9 11).1 = CN 9 := ⟨mg (List.mem_of_getElem? (i := 923) (by decide +kernel)) (by decide +kernel), rfl⟩
theorem fX9_130 : Cond.fieldLink RX9 130 (CN 9) (TC 9 12).2.1 (TC 9 12).2.2.1 ∈ GW ∧ (TC 9 12).1 = CN 9 := ⟨mg (List.mem_of_getElem? (i := 924) (by decide +kernel)) (by decide +kernel), rfl⟩
theorem fX9_124 : Cond.fieldLink RX9 124 (CN 9) (TC 9 13).2.1 (TC 9 13).2.2.1 ∈ GW ∧ (TC 9 13).1 = CN 9 := ⟨mg (List.mem_of_getElem? (i := 925) (by decide +kernel)) (by decide +kernel), rfl⟩
theorem fX9_127 : Cond.fieldLink RX9 127 (CN 9) (TC 9 14).2.1 (TC 9 14).2.2.1 ∈ GW ∧ (TC 9 14).1 = CN 9 := ⟨mg (List.mem_of_getElem? (i := 926) (by decide +kernel)) (by decide +kernel), rfl⟩
theorem fX9_133 : Cond.fieldLink RX9 133 (CN 9) (TC 9 15).2.1 (TC 9 15).2.2.1 ∈ GW ∧ (TC 9 15).1 = CN 9 := ⟨mg (List.mem_of_getElem? (i := 927) (by decide +kernel)) (by decide +kernel), rfl⟩
theorem fX9_158 : Cond.fieldLink RX9 158 (CN 9) (TC 9 16).2.1 (TC 9 16).2.2.1 ∈ GW ∧ (TC 9 16).1 = CN 9 := ⟨mg (List.mem_of_getElem? (i := 928) (by decide +kernel)) (by decide +kernel), rfl⟩
theorem fX9_31 : Cond.fieldLink RX9 31 (CN 9) (TC 9 17).2.1 (TC 9 17).2.2.1 ∈ GW ∧ (TC 9 17).1 = CN 9 := ⟨mg (List.mem_of_getElem? (i := 929) (by decide +kernel)) (by decide +kernel), rfl⟩
theorem fX9_174 : Cond.fieldLink RX9 174 (CN 9) (TC 9 18).2.1 (TC 9 18).2.2.1 ∈ GW ∧ (TC 9 18).1 = CN 9 := ⟨mg (List.mem_of_getElem? (i := 930) (by decide +kernel)) (by decide +kernel), rfl⟩
theorem fX9_34 : Cond.fieldLink RX9 34 (CN 9) (TC 9 19).2.1 (TC 9 19).2.2.1 ∈ GW ∧ (TC 9 19).1 = CN 9 := ⟨mg (List.mem_of_getElem? (i := 931) (by decide +kernel)) (by decide +kernel), rfl⟩
theorem fX9_37 : Cond.fieldLink RX9 37 (CN 9) (TC 9 20).2.1 (TC 9 20).2.2.1 ∈ GW ∧ (TC 9 20).1 = CN 9 := ⟨mg (List.mem_of_getElem? (i := 932) (by decide +kernel)) (by decide +kernel), rfl⟩
theorem fX9_40 : Cond.fieldLink RX9 40 (CN 9) (TC 9 21).2.1 (TC 9 21).2.2.1 ∈ GW ∧ (TC 9 21).1 = CN 9 := ⟨mg (List.mem_of_getElem? (i := 933) (by decide +kernel)) (by decide +kernel), rfl⟩
theorem fX9_43 : Cond.fieldLink RX9 43 (CN 9) (TC 9 22).2.1 (TC 9 22).2.2.1 ∈ GW ∧ (TC 9 22).1 = CN 9 := ⟨mg (List.mem_of_getElem? (i := 934) (by decide +kernel)) (by decide +kernel), rfl⟩
theorem fX9_46 : Cond.fieldLink RX9 46 (CN 9) (TC 9 23).2.1 (TC 9 23).2.2.1 ∈ GW ∧ (TC 9 23).1 = CN 9 := ⟨mg (List.mem_of_getElem? (i := 935) (by decide +kernel)) (by decide +kernel), rfl⟩
theorem fX9_49 : Cond.fieldLink RX9 49 (CN 9) (TC 9 24).2.1 (TC 9 24).2.2.1 ∈ GW ∧ (TC 9 24).1 = CN 9 := ⟨mg (List.mem_of_getElem? (i := 936) (by decide +kernel)) (by decide +kernel), rfl⟩
theorem fX9_52 : Cond.fieldLink RX9 52 (CN 9) (TC 9 25).2.1 (TC 9 25).2.2.1 ∈ GW ∧ (TC 9 25).1 = CN 9 := ⟨mg (List.mem_of_getElem? (i := 937) (by decide +kernel)) (by decide +kernel), rfl⟩
theorem fX9_55 : Cond.fieldLink RX9 55 (CN 9) (TC 9 26).2.1 (TC 9 26).2.2.1 ∈ GW ∧ (TC 9 26).1 = CN 9 := ⟨mg (List.mem_of_getElem? (i := 938) (by decide +kernel)) (by decide +kernel), rfl⟩
theorem fX9_260 : Cond.fieldLink RX9 260 (CN 9) (TC 9 27).2.1 (TC 9 27).2.2.1 ∈ GW ∧ (TC 9 27).1 = CN 9 := ⟨mg (List.mem_of_getElem? (i := 939) (by decide +kernel)) (by decide +kernel), rfl⟩
theorem fX9_263 : Cond.fieldLink RX9 263 (CN 9) (TC 9 28).2.1 (TC 9 28).2.2.1 ∈ GW ∧ (TC 9 28).1 = CN 9 := ⟨mg (List.mem_of_getElem? (i := 940) (by decide +kernel)) (by decide +kernel), rfl⟩
theorem fX9_266 : Cond.fieldLink RX9 266 (CN 9) (TC 9 29).2.1 (TC 9 29).2.2.1 ∈ GW ∧ (TC 9 29).1 = CN 9 := ⟨mg (List.mem_of_getElem? (i := 941) (by decide +kernel)) (by decide +kernel), rfl⟩
theorem fX9_58 : Cond.fieldLink RX9 58 (CN 9) (TC 9 30).2.1 (TC 9 30).2.2.1 ∈ GW ∧ (TC 9 30).1 = CN 9 := ⟨mg (List.mem_of_getElem? (i := 942) (by decide +kernel)) (by decide +kernel), rfl⟩
theorem fX9_61 : Cond.fieldLink RX9 61 (CN 9) (TC 9 31).2.1 (TC 9 31).2.2.1 ∈ GW ∧ (TC 9 31).1 = CN 9 := ⟨mg (List.mem_of_getElem? (i := 943) (by decide +kernel)) (by decide +kernel), rfl⟩
theorem fX9_64 : Cond.fieldLink RX9 64 (CN 9) (TC 9 32).2.1 (TC 9 32).2.2.1 ∈ GW ∧ (TC 9 32).1 = CN 9 := ⟨mg (List.mem_of_getElem? (i := 944) (by decide +kernel)) (by decide +kernel), rfl⟩
theorem fX9_67 : Cond.fieldLink RX9 67 (CN 9) (TC 9 33).2.1 (TC 9 33).2.2.1 ∈ GW ∧ (TC 9 33).1 = CN 9 := ⟨mg (List.mem_of_getElem? (i := 945) (by decide +kernel)) (by decide +kernel), rfl⟩
theorem fX9_70 : Cond.fieldLink RX9 70 (CN 9) (TC 9 34).2.1 (TC 9 34).2.2.1 ∈ GW ∧ (TC 9 34).1 = CN 9 := ⟨mg (List.mem_of_getElem? (i := 946) (by decide +kernel)) (by decide +kernel), rfl⟩
theorem fX9_316 : Cond.fieldLink RX9 316 (CN 9) (TC 9 35).2.1 (TC 9 35).2.2.1 ∈ GW ∧ (TC 9 35).1 = CN 9 := ⟨mg (List.mem_of_getElem? (i := 947) (by decide +kernel)) (by decide +kernel), rfl⟩
theorem fX9_73 : Cond.fieldLink RX9 73 (CN 9) (TC 9 36).2.1 (TC 9 36).2.2.1 ∈ GW ∧ (TC 9 36).1 = CN 9 := ⟨mg (List.mem_of_getElem? (i := 948) (by decide +kernel)) (by decide +kernel), rfl⟩
theorem fX9_76 : Cond.fieldLink RX9 76 (CN 9) (TC 9 37).2.1 (TC 9 37).2.2.1 ∈ GW ∧ (TC 9 37).1 = CN 9 := ⟨mg (List.mem_of_getElem? (i := 949) (by decide +kernel)) (by decide +kernel), rfl⟩
theorem fX9_321 : Cond.fieldLink RX9 321 (CN 9) (TC 9 38).2.1 (TC 9 38).2.2.1 ∈ GW ∧ (TC 9 38).1 = CN 9 := ⟨mg (List.mem_of_getElem? (i := 950) (by decide +kernel)) (by decide +kernel), rfl⟩
theorem fX9_336 : Cond.fieldLink RX9 336 (CN 9) (TC 9 39).2.1 (TC 9 39).2.2.1 ∈ GW ∧ (TC 9 39).1 = CN 9 := ⟨mg (List.mem_of_getElem? (i := 951) (by decide +kernel)) (by decide +kernel), rfl⟩
theorem fX9_330 : Cond.fieldLink RX9 330 (CN 9) (TC 9 40).2.1 (TC 9 40).2.2.1 ∈ GW ∧ (TC 9 40).1 = CN 9 := ⟨mg (List.mem_of_getElem? (i := 952) (by decide +kernel)) (by decide +kernel), rfl⟩
theorem fX9_79 : Cond.fieldLink RX9 79 (CN 9) (TC 9 41).2.1 (TC 9 41).2.2.1 ∈ GW ∧ (TC 9 41).1 = CN 9 := ⟨mg (List.mem_of_getElem? (i := 953) (by decide +kernel)) (by decide +kernel), rfl⟩
theorem fX9_82 : Cond.fieldLink RX9 82 (CN 9) (TC 9 42).2.1 (TC 9 42).2.2.1 ∈ GW ∧ (TC 9 42).1 = CN 9 := ⟨mg (List.mem_of_getElem? (i := 954) (by decide +kernel)) (by decide +kernel), rfl⟩
theorem fX9_85 : Cond.fieldLink RX9 85 (CN 9) (TC 9 43).2.1 (TC 9 43).2.2.1 ∈ GW ∧ (TC 9 43).1 = CN 9 := ⟨mg (List.mem_of_getElem? (i := 955) (by decide +kernel)) (by decide +kernel), rfl⟩
theorem fX9_89 : Cond.fieldLink RX9 89 (CN 9) (TC 9 44).2.1 (TC 9 44).2.2.1 ∈ GW ∧ (TC 9 44).1 = CN 9 := ⟨mg (List.mem_of_getElem? (i := 956) (by decide +kernel)) (by decide +kernel), rfl⟩
theorem lL_129 : Cond.methodLink RL 129 yX9_undo ∈ GW := mg (List.mem_of_getElem? (i := 1048) (by decide +kernel)) (by decide +kernel)
theorem lL_133 : Cond.methodLink RL 133 yX9_redo ∈ GW := mg (List.mem_of_getElem? (i := 1052) (by decide +kernel)) (by decide +kernel)
theorem lL_17 : Cond.methodLink RL 17 yX9_song ∈ GW := mg (List.mem_of_getElem? (i := 1056) (by decide +kernel)) (by decide +kernel)
theorem kX9_109 : Cond.constantLong RX9 109 999 ∈ GW := mg (List.mem_of_getElem? (i := 1060) (by decide +kernel)) (by decide +kernel)
theorem lX9_102 : Cond.methodLink RX9 102 yX9_within ∈ GW := mg (List.mem_of_getElem? (i := 1061) (by decide +kernel)) (by decide +kernel)
theorem lL_22 : Cond.methodLink RL 22 yX9_worth ∈ GW := mg (List.mem_of_getElem? (i := 1064) (by decide +kernel)) (by decide +kernel)
theorem lX9_111 : Cond.methodLink RX9 111 yX9_isSong ∈ GW := mg (List.mem_of_getElem? (i := 1068) (by decide +kernel)) (by decide +kernel)
theorem lX9_115 : Cond.methodLink RX9 115 yX9_becomes ∈ GW := mg (List.mem_of_getElem? (i := 1072) (by decide +kernel)) (by decide +kernel)
theorem lL_26 : Cond.methodLink RL 26 yX9_feed ∈ GW := mg (List.mem_of_getElem? (i := 1076) (by decide +kernel)) (by decide +kernel)
theorem kX9_119 : Cond.constantLong RX9 119 4 ∈ GW := mg (List.mem_of_getElem? (i := 1080) (by decide +kernel)) (by decide +kernel)
theorem lL_31 : Cond.methodLink RL 31 yX9_law ∈ GW := mg (List.mem_of_getElem? (i := 1081) (by decide +kernel)) (by decide +kernel)
theorem lX9_171 : Cond.methodLink RX9 171 yX9_workOut ∈ GW := mg (List.mem_of_getElem? (i := 1085) (by decide +kernel)) (by decide +kernel)
theorem lX9_164 : Cond.methodLink RX9 164 yX9_either ∈ GW := mg (List.mem_of_getElem? (i := 1089) (by decide +kernel)) (by decide +kernel)
theorem lX9_140 : Cond.methodLink RX9 140 yX9_both ∈ GW := mg (List.mem_of_getElem? (i := 1093) (by decide +kernel)) (by decide +kernel)
theorem lX9_146 : Cond.methodLink RX9 146 yX9_compared ∈ GW := mg (List.mem_of_getElem? (i := 1097) (by decide +kernel)) (by decide +kernel)
theorem lX9_149 : Cond.methodLink RX9 149 yX9_sums ∈ GW := mg (List.mem_of_getElem? (i := 1101) (by decide +kernel)) (by decide +kernel)
theorem lX9_152 : Cond.methodLink RX9 152 yX9_product ∈ GW := mg (List.mem_of_getElem? (i := 1105) (by decide +kernel)) (by decide +kernel)
theorem lX9_155 : Cond.methodLink RX9 155 yX9_one ∈ GW := mg (List.mem_of_getElem? (i := 1109) (by decide +kernel)) (by decide +kernel)
theorem lX9_136 : Cond.methodLink RX9 136 yX9_byteAt ∈ GW := mg (List.mem_of_getElem? (i := 1113) (by decide +kernel)) (by decide +kernel)
theorem lX9_161 : Cond.methodLink RX9 161 yX9_wrong ∈ GW := mg (List.mem_of_getElem? (i := 1117) (by decide +kernel)) (by decide +kernel)
theorem lX9_143 : Cond.methodLink RX9 143 yX9_takes ∈ GW := mg (List.mem_of_getElem? (i := 1121) (by decide +kernel)) (by decide +kernel)
theorem lX9_167 : Cond.methodLink RX9 167 yX9_nameOf ∈ GW := mg (List.mem_of_getElem? (i := 1125) (by decide +kernel)) (by decide +kernel)
theorem lL_36 : Cond.methodLink RL 36 yX9_world ∈ GW := mg (List.mem_of_getElem? (i := 1128) (by decide +kernel)) (by decide +kernel)
theorem lX9_177 : Cond.methodLink RX9 177 yX9_isLaw ∈ GW := mg (List.mem_of_getElem? (i := 1132) (by decide +kernel)) (by decide +kernel)
theorem kX9_180 : Cond.constantLong RX9 180 9999999 ∈ GW := mg (List.mem_of_getElem? (i := 1136) (by decide +kernel)) (by decide +kernel)
theorem lX9_182 : Cond.methodLink RX9 182 yX9_begins ∈ GW := mg (List.mem_of_getElem? (i := 1137) (by decide +kernel)) (by decide +kernel)
theorem lL_40 : Cond.methodLink RL 40 yX9_nothing ∈ GW := mg (List.mem_of_getElem? (i := 1141) (by decide +kernel)) (by decide +kernel)
theorem lX9_186 : Cond.methodLink RX9 186 yX9_isWorld ∈ GW := mg (List.mem_of_getElem? (i := 1145) (by decide +kernel)) (by decide +kernel)
theorem kX9_189 : Cond.constantLong RX9 189 9999 ∈ GW := mg (List.mem_of_getElem? (i := 1149) (by decide +kernel)) (by decide +kernel)
theorem lL_44 : Cond.methodLink RL 44 yX9_of ∈ GW := mg (List.mem_of_getElem? (i := 1150) (by decide +kernel)) (by decide +kernel)
theorem lX9_209 : Cond.methodLink RX9 209 yX9_songAt ∈ GW := mg (List.mem_of_getElem? (i := 1154) (by decide +kernel)) (by decide +kernel)
theorem lX9_194 : Cond.methodLink RX9 194 yX9_place ∈ GW := mg (List.mem_of_getElem? (i := 1158) (by decide +kernel)) (by decide +kernel)
theorem lX9_191 : Cond.methodLink RX9 191 yX9_countOf ∈ GW := mg (List.mem_of_getElem? (i := 1162) (by decide +kernel)) (by decide +kernel)
theorem kX9_212 : Cond.constantLong RX9 212 100 ∈ GW := mg (List.mem_of_getElem? (i := 1166) (by decide +kernel)) (by decide +kernel)
theorem kX9_214 : Cond.constantLong RX9 214 499 ∈ GW := mg (List.mem_of_getElem? (i := 1167) (by decide +kernel)) (by decide +kernel)
theorem lX9_197 : Cond.methodLink RX9 197 yX9_seenPlace ∈ GW := mg (List.mem_of_getElem? (i := 1168) (by decide +kernel)) (by decide +kernel)
theorem lX9_216 : Cond.methodLink RX9 216 yX9_share ∈ GW := mg (List.mem_of_getElem? (i := 1172) (by decide +kernel)) (by decide +kernel)
theorem lX9_204 : Cond.methodLink RX9 204 yX9_allCounts ∈ GW := mg (List.mem_of_getElem? (i := 1176) (by decide +kernel)) (by decide +kernel)
theorem kX9_207 : Cond.constantLong RX9 207 1000 ∈ GW := mg (List.mem_of_getElem? (i := 1180) (by decide +kernel)) (by decide +kernel)
theorem lL_48 : Cond.methodLink RL 48 yX9_weight ∈ GW := mg (List.mem_of_getElem? (i := 1181) (by decide +kernel)) (by decide +kernel)
theorem lX9_219 : Cond.methodLink RX9 219 yX9_weightOf ∈ GW := mg (List.mem_of_getElem? (i := 1185) (by decide +kernel)) (by decide +kernel)
theorem lX9_200 : Cond.methodLink RX9 200 yX9_weighs ∈ GW := mg (List.mem_of_getElem? (i := 1189) (by decide +kernel)) (by decide +kernel)
theorem lL_52 : Cond.methodLink RL 52 yX9_come ∈ GW := mg (List.mem_of_getElem? (i := 1193) (by decide +kernel)) (by decide +kernel)
theorem kX9_234 : Cond.constantLong RX9 234 200 ∈ GW := mg (List.mem_of_getElem? (i := 1197) (by decide +kernel)) (by decide +kernel)
theorem lX9_236 : Cond.methodLink RX9 236 yX9_comesAll ∈ GW := mg (List.mem_of_getElem? (i := 1198) (by decide +kernel)) (by decide +kernel)
theorem lX9_231 : Cond.methodLink RX9 231 yX9_comesOne ∈ GW := mg (List.mem_of_getElem? (i := 1202) (by decide +kernel)) (by decide +kernel)
theorem lX9_223 : Cond.methodLink RX9 223 yX9_findWeights ∈ GW := mg (List.mem_of_getElem? (i := 1206) (by decide +kernel)) (by decide +kernel)
theorem kX9_226 : Cond.constant RX9 226 1103515245 ∈ GW := mg (List.mem_of_getElem? (i := 1210) (by decide +kernel)) (by decide +kernel)
theorem lX9_227 : Cond.methodLink RX9 227 yX9_keeps ∈ GW := mg (List.mem_of_getElem? (i := 1211) (by decide +kernel)) (by decide +kernel)
theorem kX9_222 : Cond.constant RX9 222 99999 ∈ GW := mg (List.mem_of_getElem? (i := 1215) (by decide +kernel)) (by decide +kernel)
theorem lL_57 : Cond.methodLink RL 57 yX9_keepings ∈ GW := mg (List.mem_of_getElem? (i := 1216) (by decide +kernel)) (by decide +kernel)
theorem lX9_239 : Cond.methodLink RX9 239 yX9_isShelf ∈ GW := mg (List.mem_of_getElem? (i := 1220) (by decide +kernel)) (by decide +kernel)
theorem kX9_348 : Cond.constantLong RX9 348 5 ∈ GW := mg (List.mem_of_getElem? (i := 1223) (by decide +kernel)) (by decide +kernel)
theorem kX9_242 : Cond.constantLong RX9 242 60 ∈ GW := mg (List.mem_of_getElem? (i := 1224) (by decide +kernel)) (by decide +kernel)
theorem kX9_244 : Cond.constantLong RX9 244 (-2) ∈ GW := mg (List.mem_of_getElem? (i := 1225) (by decide +kernel)) (by decide +kernel)
theorem kX9_246 : Cond.constantLong RX9 246 (-1) ∈ GW := mg (List.mem_of_getElem? (i := 1226) (by decide +kernel)) (by decide +kernel)
theorem lL_61 : Cond.methodLink RL 61 yX9_led ∈ GW := mg (List.mem_of_getElem? (i := 1227) (by decide +kernel)) (by decide +kernel)
theorem lL_65 : Cond.methodLink RL 65 yX9_unequal ∈ GW := mg (List.mem_of_getElem? (i := 1231) (by decide +kernel)) (by decide +kernel)
theorem lX9_248 : Cond.methodLink RX9 248 yX9_size ∈ GW := mg (List.mem_of_getElem? (i := 1235) (by decide +kernel)) (by decide +kernel)
theorem lL_69 : Cond.methodLink RL 69 yX9_unlike ∈ GW := mg (List.mem_of_getElem? (i := 1238) (by decide +kernel)) (by decide +kernel)
theorem lX9_251 : Cond.methodLink RX9 251 yX9_areTwo ∈ GW := mg (List.mem_of_getElem? (i := 1242) (by decide +kernel)) (by decide +kernel)
theorem lX9_254 : Cond.methodLink RX9 254 yX9_unlikeOf ∈ GW := mg (List.mem_of_getElem? (i := 1246) (by decide +kernel)) (by decide +kernel)
theorem lL_73 : Cond.methodLink RL 73 yX9_luck ∈ GW := mg (List.mem_of_getElem? (i := 1250) (by decide +kernel)) (by decide +kernel)
theorem lX9_257 : Cond.methodLink RX9 257 yX9_luckOf ∈ GW := mg (List.mem_of_getElem? (i := 1254) (by decide +kernel)) (by decide +kernel)
theorem lL_77 : Cond.methodLink RL 77 yX9_right ∈ GW := mg (List.mem_of_getElem? (i := 1258) (by decide +kernel)) (by decide +kernel)
theorem lX9_269 : Cond.methodLink RX9 269 yX9_findPairs ∈ GW := mg (List.mem_of_getElem? (i := 1262) (by decide +kernel)) (by decide +kernel)
theorem lL_81 : Cond.methodLink RL 81 yX9_guess ∈ GW := mg (List.mem_of_getElem? (i := 1266) (by decide +kernel)) (by decide +kernel)
theorem lL_85 : Cond.methodLink RL 85 yX9_odds ∈ GW := mg (List.mem_of_getElem? (i := 1270) (by decide +kernel)) (by decide +kernel)
theorem kX9_279 : Cond.constantLong RX9 279 6 ∈ GW := mg (List.mem_of_getElem? (i := 1274) (by decide +kernel)) (by decide +kernel)
theorem lX9_275 : Cond.methodLink RX9 275 yX9_follows ∈ GW := mg (List.mem_of_getElem? (i := 1275) (by decide +kernel)) (by decide +kernel)
theorem kX9_273 : Cond.constantLong RX9 273 1000000 ∈ GW := mg (List.mem_of_getElem? (i := 1279) (by decide +kernel)) (by decide +kernel)
theorem lL_89 : Cond.methodLink RL 89 yX9_after ∈ GW := mg (List.mem_of_getElem? (i := 1280) (by decide +kernel)) (by decide +kernel)
theorem lX9_281 : Cond.methodLink RX9 281 yX9_firstCounted ∈ GW := mg (List.mem_of_getElem? (i := 1284) (by decide +kernel)) (by decide +kernel)
theorem lL_93 : Cond.methodLink RL 93 yX9_shop ∈ GW := mg (List.mem_of_getElem? (i := 1288) (by decide +kernel)) (by decide +kernel)
theorem kX9_284 : Cond.constantLong RX9 284 9 ∈ GW := mg (List.mem_of_getElem? (i := 1292) (by decide +kernel)) (by decide +kernel)
theorem lL_97 : Cond.methodLink RL 97 yX9_chart ∈ GW := mg (List.mem_of_getElem? (i := 1293) (by decide +kernel)) (by decide +kernel)
theorem lX9_286 : Cond.methodLink RX9 286 yX9_chartOf ∈ GW := mg (List.mem_of_getElem? (i := 1297) (by decide +kernel)) (by decide +kernel)
theorem lL_101 : Cond.methodLink RL 101 yX9_crate ∈ GW := mg (List.mem_of_getElem? (i := 1301) (by decide +kernel)) (by decide +kernel)
theorem lL_105 : Cond.methodLink RL 105 yX9_found ∈ GW := mg (List.mem_of_getElem? (i := 1305) (by decide +kernel)) (by decide +kernel)
theorem lL_109 : Cond.methodLink RL 109 yX9_house ∈ GW := mg (List.mem_of_getElem? (i := 1309) (by decide +kernel)) (by decide +kernel)
theorem kX9_289 : Cond.constantLong RX9 289 3 ∈ GW := mg (List.mem_of_getElem? (i := 1313) (by decide +kernel)) (by decide +kernel)
theorem kX9_291 : Cond.constant RX9 291 (-2000000000) ∈ GW := mg (List.mem_of_getElem? (i := 1314) (by decide +kernel)) (by decide +kernel)
theorem lX9_292 : Cond.methodLink RX9 292 yX9_bitsOf ∈ GW := mg (List.mem_of_getElem? (i := 1315) (by decide +kernel)) (by decide +kernel)
theorem lL_113 : Cond.methodLink RL 113 yX9_said ∈ GW := mg (List.mem_of_getElem? (i := 1318) (by decide +kernel)) (by decide +kernel)
theorem lX9_299 : Cond.methodLink RX9 299 yX9_isSaid ∈ GW := mg (List.mem_of_getElem? (i := 1322) (by decide +kernel)) (by decide +kernel)
theorem lX9_295 : Cond.methodLink RX9 295 yX9_trueFrom ∈ GW := mg (List.mem_of_getElem? (i := 1326) (by decide +kernel)) (by decide +kernel)
theorem lL_117 : Cond.methodLink RL 117 yX9_strong ∈ GW := mg (List.mem_of_getElem? (i := 1330) (by decide +kernel)) (by decide +kernel)
theorem kX9_303 : Cond.constantLong RX9 303 400 ∈ GW := mg (List.mem_of_getElem? (i := 1334) (by decide +kernel)) (by decide +kernel)
theorem lX9_305 : Cond.methodLink RX9 305 yX9_unlikeBy ∈ GW := mg (List.mem_of_getElem? (i := 1335) (by decide +kernel)) (by decide +kernel)
theorem lL_121 : Cond.methodLink RL 121 yX9_line ∈ GW := mg (List.mem_of_getElem? (i := 1339) (by decide +kernel)) (by decide +kernel)
theorem lX9_311 : Cond.methodLink RX9 311 yX9_lineOf ∈ GW := mg (List.mem_of_getElem? (i := 1343) (by decide +kernel)) (by decide +kernel)
theorem lX9_308 : Cond.methodLink RX9 308 yX9_lineBy ∈ GW := mg (List.mem_of_getElem? (i := 1347) (by decide +kernel)) (by decide +kernel)
theorem lL_125 : Cond.methodLink RL 125 yX9_against ∈ GW := mg (List.mem_of_getElem? (i := 1351) (by decide +kernel)) (by decide +kernel)
theorem kX9_314 : Cond.constantLong RX9 314 50 ∈ GW := mg (List.mem_of_getElem? (i := 1355) (by decide +kernel)) (by decide +kernel)
theorem lL_137 : Cond.methodLink RL 137 yX9_body ∈ GW := mg (List.mem_of_getElem? (i := 1356) (by decide +kernel)) (by decide +kernel)
theorem kX9_319 : Cond.constantLong RX9 319 7 ∈ GW := mg (List.mem_of_getElem? (i := 1360) (by decide +kernel)) (by decide +kernel)
theorem lL_141 : Cond.methodLink RL 141 yX9_act ∈ GW := mg (List.mem_of_getElem? (i := 1361) (by decide +kernel)) (by decide +kernel)
theorem lX9_345 : Cond.methodLink RX9 345 yX9_isBody ∈ GW := mg (List.mem_of_getElem? (i := 1365) (by decide +kernel)) (by decide +kernel)
theorem lX9_327 : Cond.methodLink RX9 327 yX9_triesAs ∈ GW := mg (List.mem_of_getElem? (i := 1369) (by decide +kernel)) (by decide +kernel)
theorem lX9_324 : Cond.methodLink RX9 324 yX9_runs ∈ GW := mg (List.mem_of_getElem? (i := 1373) (by decide +kernel)) (by decide +kernel)
theorem lX9_333 : Cond.methodLink RX9 333 yX9_keepsAs ∈ GW := mg (List.mem_of_getElem? (i := 1377) (by decide +kernel)) (by decide +kernel)
theorem lX9_339 : Cond.methodLink RX9 339 yX9_countsAs ∈ GW := mg (List.mem_of_getElem? (i := 1381) (by decide +kernel)) (by decide +kernel)
theorem lX9_342 : Cond.methodLink RX9 342 yX9_tellsAs ∈ GW := mg (List.mem_of_getElem? (i := 1385) (by decide +kernel)) (by decide +kernel)
theorem lL_145 : Cond.methodLink RL 145 yX9_trace ∈ GW := mg (List.mem_of_getElem? (i := 1389) (by decide +kernel)) (by decide +kernel)
theorem lL_149 : Cond.methodLink RL 149 yX9_keep ∈ GW := mg (List.mem_of_getElem? (i := 1393) (by decide +kernel)) (by decide +kernel)
theorem lL_153 : Cond.methodLink RL 153 yX9_row ∈ GW := mg (List.mem_of_getElem? (i := 1397) (by decide +kernel)) (by decide +kernel)
theorem lL_160 : Cond.methodLink RL 160 yX9_put ∈ GW := mg (List.mem_of_getElem? (i := 1401) (by decide +kernel)) (by decide +kernel)
theorem lX9_350 : Cond.methodLink RX9 350 yX9_refusal ∈ GW := mg (List.mem_of_getElem? (i := 1405) (by decide +kernel)) (by decide +kernel)
theorem lX9_353 : Cond.methodLink RX9 353 yX9_asSort ∈ GW := mg (List.mem_of_getElem? (i := 1409) (by decide +kernel)) (by decide +kernel)
theorem lL_165 : Cond.methodLink RL 165 yX9_element ∈ GW := mg (List.mem_of_getElem? (i := 1412) (by decide +kernel)) (by decide +kernel)
theorem kX9_359 : Cond.constantLong RX9 359 (-9223372036854775808) ∈ GW := mg (List.mem_of_getElem? (i := 1416) (by decide +kernel)) (by decide +kernel)
theorem lL_170 : Cond.methodLink RL 170 yX9_shift ∈ GW := mg (List.mem_of_getElem? (i := 1417) (by decide +kernel)) (by decide +kernel)
theorem lL_174 : Cond.methodLink RL 174 yX9_taken ∈ GW := mg (List.mem_of_getElem? (i := 1421) (by decide +kernel)) (by decide +kernel)
theorem lX9_361 : Cond.methodLink RX9 361 yX9_kindOf ∈ GW := mg (List.mem_of_getElem? (i := 1425) (by decide +kernel)) (by decide +kernel)
theorem lX9_364 : Cond.methodLink RX9 364 yX9_above ∈ GW := mg (List.mem_of_getElem? (i := 1429) (by decide +kernel)) (by decide +kernel)
theorem lL_178 : Cond.methodLink RL 178 yX9_count ∈ GW := mg (List.mem_of_getElem? (i := 1432) (by decide +kernel)) (by decide +kernel)
theorem kL_154 : Cond.constantLong RL 154 4294967295 ∈ GW := mg (List.mem_of_getElem? (i := 1436) (by decide +kernel)) (by decide +kernel)
theorem oinst : Cond.instanceMethod Lib.objectInit ∈ GW := mg (List.mem_of_getElem? (i := 104) (by decide +kernel)) (by decide +kernel)
theorem clone_inst : Cond.instanceMethod ⟨"java/lang/Object", "clone", "()Ljava/lang/Object;"⟩ ∈ GW := mg (List.mem_of_getElem? (i := 483) (by decide +kernel)) (by decide +kernel)
theorem ac_stat : Cond.static arraycopyName ∈ GW := mg (List.mem_of_getElem? (i := 403) (by decide +kernel)) (by decide +kernel)
theorem ocode : Cond.code Lib.objectInit ⟨#[0xb1]⟩ 1 none ∈ GW := mg (List.mem_of_getElem? (i := 105) (by decide +kernel)) (by decide +kernel)
theorem clone_sel : Cond.selects "[I" ⟨"[I", "clone", "()Ljava/lang/Object;"⟩ ⟨"java/lang/Object", "clone", "()Ljava/lang/Object;"⟩ ∈ GW := mg (List.mem_of_getElem? (i := 484) (by decide +kernel)) (by decide +kernel)
