set_option maxRecDepth 20000 in
theorem bw_1_0 : Cond.initialized RL ∈ bg := bg_in1 (List.mem_of_getElem? (i := 0) (by decide +kernel)) (by rfl)
set_option maxRecDepth 20000 in
theorem bw_1_1 : Cond.initialized RX3 ∈ bg := bg_in1 (List.mem_of_getElem? (i := 1) (by decide +kernel)) (by rfl)
set_option maxRecDepth 20000 in
theorem bw_1_2 : Cond.initialized RX2 ∈ bg := bg_in1 (List.mem_of_getElem? (i := 2) (by decide +kernel)) (by rfl)
set_option maxRecDepth 20000 in
theorem bw_1_3 : Cond.initialized RX1 ∈ bg := bg_in1 (List.mem_of_getElem? (i := 3) (by decide +kernel)) (by rfl)
set_option maxRecDepth 20000 in
theorem bw_1_4 : Cond.initialized RX0 ∈ bg := bg_in1 (List.mem_of_getElem? (i := 4) (by decide +kernel)) (by rfl)
set_option maxRecDepth 20000 in
theorem bw_1_5 : Cond.initialized RX4 ∈ bg := bg_in1 (List.mem_of_getElem? (i := 5) (by decide +kernel)) (by rfl)
set_option maxRecDepth 20000 in
theorem bw_1_6 : Cond.classLink RL 7 RX3 ∈ bg := bg_in1 (List.mem_of_getElem? (i := 6) (by decide +kernel)) (by rfl)
set_option maxRecDepth 20000 in
theorem bw_1_7 : Cond.instantiable RX3 2 ∈ bg := bg_in1 (List.mem_of_getElem? (i := 7) (by decide +kernel)) (by rfl)
set_option maxRecDepth 20000 in
theorem bw_1_8 : Cond.methodLink RL 15 yX3_init ∈ bg := bg_in1 (List.mem_of_getElem? (i := 8) (by decide +kernel)) (by rfl)
set_option maxRecDepth 20000 in
theorem bw_1_9 : Cond.instanceMethod yX3_init ∈ bg := bg_in1 (List.mem_of_getElem? (i := 9) (by decide +kernel)) (by rfl)
set_option maxRecDepth 20000 in
theorem bw_1_10 : Cond.code yX3_init cX3_init 6 none ∈ bg := bg_in1 (List.mem_of_getElem? (i := 10) (rfl)) (by rfl)
set_option maxRecDepth 20000 in
theorem bw_1_11 : Cond.methodLink RX3 3 objectInit ∈ bg := bg_in1 (List.mem_of_getElem? (i := 11) (by decide +kernel)) (by rfl)
set_option maxRecDepth 20000 in
theorem bw_1_12 : Cond.instanceMethod objectInit ∈ bg := bg_in1 (List.mem_of_getElem? (i := 12) (by decide +kernel)) (by rfl)
set_option maxRecDepth 20000 in
theorem bw_1_13 : Cond.code objectInit ⟨#[0xb1]⟩ 1 none ∈ bg := bg_in1 (List.mem_of_getElem? (i := 13) (rfl)) (by rfl)
set_option maxRecDepth 20000 in
theorem bw_1_14 : Cond.classLink RX3 9 RX2 ∈ bg := bg_in1 (List.mem_of_getElem? (i := 14) (by decide +kernel)) (by rfl)
set_option maxRecDepth 20000 in
theorem bw_1_15 : Cond.instantiable RX2 3 ∈ bg := bg_in1 (List.mem_of_getElem? (i := 15) (by decide +kernel)) (by rfl)
set_option maxRecDepth 20000 in
theorem bw_1_17 : Cond.instanceMethod yX2_init ∈ bg := bg_in1 (List.mem_of_getElem? (i := 17) (by decide +kernel)) (by rfl)
set_option maxRecDepth 20000 in
theorem bw_1_18 : Cond.code yX2_init cX2_init 1 none ∈ bg := bg_in1 (List.mem_of_getElem? (i := 18) (rfl)) (by rfl)
set_option maxRecDepth 20000 in
theorem bw_1_19 : Cond.methodLink RX2 3 objectInit ∈ bg := bg_in1 (List.mem_of_getElem? (i := 19) (by decide +kernel)) (by rfl)
set_option maxRecDepth 20000 in
theorem bw_1_20 : Cond.fieldLink RX2 9 "StoreBufferCores$SharedMemory" "words" "[I" ∈ bg := bg_in1 (List.mem_of_getElem? (i := 20) (by decide +kernel)) (by rfl)
set_option maxRecDepth 20000 in
theorem bw_1_23 : Cond.fieldLink RX2 15 "StoreBufferCores$SharedMemory" "stored" "[I" ∈ bg := bg_in1 (List.mem_of_getElem? (i := 23) (by decide +kernel)) (by rfl)
set_option maxRecDepth 20000 in
theorem bw_1_25 : Cond.fieldLink RX2 18 "StoreBufferCores$SharedMemory" "unwritten" "[Z" ∈ bg := bg_in1 (List.mem_of_getElem? (i := 25) (by decide +kernel)) (by rfl)
set_option maxRecDepth 20000 in
theorem bw_1_27 : Cond.laysFinal "StoreBufferCores$SharedMemory" "StoreBufferCores$SharedMemory" "words" "[I" ∈ bg := bg_in1 (List.mem_of_getElem? (i := 27) (by decide +kernel)) (by rfl)
set_option maxRecDepth 20000 in
theorem bw_1_29 : Cond.laysFinal "StoreBufferCores$SharedMemory" "StoreBufferCores$SharedMemory" "stored" "[I" ∈ bg := bg_in1 (List.mem_of_getElem? (i := 29) (by decide +kernel)) (by rfl)
set_option maxRecDepth 20000 in
theorem bw_1_31 : Cond.laysFinal "StoreBufferCores$SharedMemory" "StoreBufferCores$SharedMemory" "unwritten" "[Z" ∈ bg := bg_in1 (List.mem_of_getElem? (i := 31) (by decide +kernel)) (by rfl)
set_option maxRecDepth 20000 in
theorem bw_1_34 : Cond.arrayClass .int ∈ bg := bg_in1 (List.mem_of_getElem? (i := 34) (by decide +kernel)) (by rfl)
set_option maxRecDepth 20000 in
theorem bw_1_35 : Cond.arrayClass .boolean ∈ bg := bg_in1 (List.mem_of_getElem? (i := 35) (by decide +kernel)) (by rfl)
set_option maxRecDepth 20000 in
theorem bw_1_36 : Cond.classLink RX3 16 RX1 ∈ bg := bg_in1 (List.mem_of_getElem? (i := 36) (by decide +kernel)) (by rfl)
set_option maxRecDepth 20000 in
theorem bw_1_38 : Cond.instantiable RX1 8 ∈ bg := bg_in1 (List.mem_of_getElem? (i := 38) (by decide +kernel)) (by rfl)
set_option maxRecDepth 20000 in
theorem bw_1_40 : Cond.instanceMethod yX1_init ∈ bg := bg_in1 (List.mem_of_getElem? (i := 40) (by decide +kernel)) (by rfl)
set_option maxRecDepth 20000 in
theorem bw_1_41 : Cond.code yX1_init cX1_init 2 none ∈ bg := bg_in1 (List.mem_of_getElem? (i := 41) (rfl)) (by rfl)
set_option maxRecDepth 20000 in
theorem bw_1_42 : Cond.methodLink RX1 3 objectInit ∈ bg := bg_in1 (List.mem_of_getElem? (i := 42) (by decide +kernel)) (by rfl)
set_option maxRecDepth 20000 in
theorem bw_1_43 : Cond.classLink RX1 27 RX0 ∈ bg := bg_in1 (List.mem_of_getElem? (i := 43) (by decide +kernel)) (by rfl)
set_option maxRecDepth 20000 in
theorem bw_1_44 : Cond.instantiable RX0 4 ∈ bg := bg_in1 (List.mem_of_getElem? (i := 44) (by decide +kernel)) (by rfl)
set_option maxRecDepth 20000 in
theorem bw_1_46 : Cond.instanceMethod yX0_init ∈ bg := bg_in1 (List.mem_of_getElem? (i := 46) (by decide +kernel)) (by rfl)
set_option maxRecDepth 20000 in
theorem bw_1_47 : Cond.code yX0_init cX0_init 2 none ∈ bg := bg_in1 (List.mem_of_getElem? (i := 47) (rfl)) (by rfl)
set_option maxRecDepth 20000 in
theorem bw_1_48 : Cond.methodLink RX0 3 objectInit ∈ bg := bg_in1 (List.mem_of_getElem? (i := 48) (by decide +kernel)) (by rfl)
set_option maxRecDepth 20000 in
theorem bw_1_49 : Cond.fieldLink RX0 9 "StoreBufferCores$Buffer" "kinds" "[I" ∈ bg := bg_in1 (List.mem_of_getElem? (i := 49) (by decide +kernel)) (by rfl)
set_option maxRecDepth 20000 in
theorem bw_1_51 : Cond.fieldLink RX0 15 "StoreBufferCores$Buffer" "targets" "[I" ∈ bg := bg_in1 (List.mem_of_getElem? (i := 51) (by decide +kernel)) (by rfl)
set_option maxRecDepth 20000 in
theorem bw_1_53 : Cond.fieldLink RX0 18 "StoreBufferCores$Buffer" "values" "[I" ∈ bg := bg_in1 (List.mem_of_getElem? (i := 53) (by decide +kernel)) (by rfl)
set_option maxRecDepth 20000 in
theorem bw_1_55 : Cond.fieldLink RX0 21 "StoreBufferCores$Buffer" "count" "I" ∈ bg := bg_in1 (List.mem_of_getElem? (i := 55) (by decide +kernel)) (by rfl)
set_option maxRecDepth 20000 in
theorem bw_1_58 : Cond.laysFinal "StoreBufferCores$Buffer" "StoreBufferCores$Buffer" "kinds" "[I" ∈ bg := bg_in1 (List.mem_of_getElem? (i := 58) (by decide +kernel)) (by rfl)
set_option maxRecDepth 20000 in
theorem bw_1_60 : Cond.laysFinal "StoreBufferCores$Buffer" "StoreBufferCores$Buffer" "targets" "[I" ∈ bg := bg_in1 (List.mem_of_getElem? (i := 60) (by decide +kernel)) (by rfl)
set_option maxRecDepth 20000 in
theorem bw_1_62 : Cond.laysFinal "StoreBufferCores$Buffer" "StoreBufferCores$Buffer" "values" "[I" ∈ bg := bg_in1 (List.mem_of_getElem? (i := 62) (by decide +kernel)) (by rfl)
set_option maxRecDepth 20000 in
theorem bw_1_64 : Cond.lays "StoreBufferCores$Buffer" "StoreBufferCores$Buffer" "count" "I" ∈ bg := bg_in1 (List.mem_of_getElem? (i := 64) (by decide +kernel)) (by rfl)
set_option maxRecDepth 20000 in
theorem bw_1_67 : Cond.fieldLink RX1 9 "StoreBufferCores$Core" "registers" "[I" ∈ bg := bg_in1 (List.mem_of_getElem? (i := 67) (by decide +kernel)) (by rfl)
set_option maxRecDepth 20000 in
theorem bw_1_69 : Cond.fieldLink RX1 15 "StoreBufferCores$Core" "codes" "[I" ∈ bg := bg_in1 (List.mem_of_getElem? (i := 69) (by decide +kernel)) (by rfl)
set_option maxRecDepth 20000 in
theorem bw_1_70 : Cond.fieldLink RX1 18 "StoreBufferCores$Core" "xs" "[I" ∈ bg := bg_in1 (List.mem_of_getElem? (i := 70) (by decide +kernel)) (by rfl)
set_option maxRecDepth 20000 in
theorem bw_1_71 : Cond.fieldLink RX1 21 "StoreBufferCores$Core" "ys" "[I" ∈ bg := bg_in1 (List.mem_of_getElem? (i := 71) (by decide +kernel)) (by rfl)
set_option maxRecDepth 20000 in
theorem bw_1_72 : Cond.fieldLink RX1 24 "StoreBufferCores$Core" "numbers" "[I" ∈ bg := bg_in1 (List.mem_of_getElem? (i := 72) (by decide +kernel)) (by rfl)
set_option maxRecDepth 20000 in
theorem bw_1_73 : Cond.fieldLink RX1 32 "StoreBufferCores$Core" "buffer" "LStoreBufferCores$Buffer;" ∈ bg := bg_in1 (List.mem_of_getElem? (i := 73) (by decide +kernel)) (by rfl)
set_option maxRecDepth 20000 in
theorem bw_1_75 : Cond.fieldLink RX1 36 "StoreBufferCores$Core" "pc" "I" ∈ bg := bg_in1 (List.mem_of_getElem? (i := 75) (by decide +kernel)) (by rfl)
set_option maxRecDepth 20000 in
theorem bw_1_78 : Cond.fieldLink RX1 80 "StoreBufferCores$Core" "recoveryEntry" "I" ∈ bg := bg_in1 (List.mem_of_getElem? (i := 78) (by decide +kernel)) (by rfl)
set_option maxRecDepth 20000 in
theorem bw_1_79 : Cond.laysFinal "StoreBufferCores$Core" "StoreBufferCores$Core" "registers" "[I" ∈ bg := bg_in1 (List.mem_of_getElem? (i := 79) (by decide +kernel)) (by rfl)
set_option maxRecDepth 20000 in
theorem bw_1_81 : Cond.laysFinal "StoreBufferCores$Core" "StoreBufferCores$Core" "codes" "[I" ∈ bg := bg_in1 (List.mem_of_getElem? (i := 81) (by decide +kernel)) (by rfl)
set_option maxRecDepth 20000 in
theorem bw_1_83 : Cond.laysFinal "StoreBufferCores$Core" "StoreBufferCores$Core" "xs" "[I" ∈ bg := bg_in1 (List.mem_of_getElem? (i := 83) (by decide +kernel)) (by rfl)
set_option maxRecDepth 20000 in
theorem bw_1_85 : Cond.laysFinal "StoreBufferCores$Core" "StoreBufferCores$Core" "ys" "[I" ∈ bg := bg_in1 (List.mem_of_getElem? (i := 85) (by decide +kernel)) (by rfl)
set_option maxRecDepth 20000 in
theorem bw_1_87 : Cond.laysFinal "StoreBufferCores$Core" "StoreBufferCores$Core" "numbers" "[I" ∈ bg := bg_in1 (List.mem_of_getElem? (i := 87) (by decide +kernel)) (by rfl)
set_option maxRecDepth 20000 in
theorem bw_1_89 : Cond.laysFinal "StoreBufferCores$Core" "StoreBufferCores$Core" "buffer" "LStoreBufferCores$Buffer;" ∈ bg := bg_in1 (List.mem_of_getElem? (i := 89) (by decide +kernel)) (by rfl)
set_option maxRecDepth 20000 in
theorem bw_1_91 : Cond.lays "StoreBufferCores$Core" "StoreBufferCores$Core" "pc" "I" ∈ bg := bg_in1 (List.mem_of_getElem? (i := 91) (by decide +kernel)) (by rfl)
set_option maxRecDepth 20000 in
theorem bw_1_93 : Cond.lays "StoreBufferCores$Core" "StoreBufferCores$Core" "recoveryEntry" "I" ∈ bg := bg_in1 (List.mem_of_getElem? (i := 93) (by decide +kernel)) (by rfl)
set_option maxRecDepth 20000 in
theorem bw_1_96 : Cond.fieldLink RX3 12 "StoreBufferCores" "shared" "LStoreBufferCores$SharedMemory;" ∈ bg := bg_in1 (List.mem_of_getElem? (i := 96) (by decide +kernel)) (by rfl)
set_option maxRecDepth 20000 in
theorem bw_1_97 : Cond.fieldLink RX3 18 "StoreBufferCores" "row" "[LStoreBufferCores$Core;" ∈ bg := bg_in1 (List.mem_of_getElem? (i := 97) (by decide +kernel)) (by rfl)
set_option maxRecDepth 20000 in
theorem bw_1_98 : Cond.laysFinal "StoreBufferCores" "StoreBufferCores" "shared" "LStoreBufferCores$SharedMemory;" ∈ bg := bg_in1 (List.mem_of_getElem? (i := 98) (by decide +kernel)) (by rfl)
set_option maxRecDepth 20000 in
theorem bw_1_100 : Cond.laysFinal "StoreBufferCores" "StoreBufferCores" "row" "[LStoreBufferCores$Core;" ∈ bg := bg_in1 (List.mem_of_getElem? (i := 100) (by decide +kernel)) (by rfl)
set_option maxRecDepth 20000 in
theorem bw_1_103 : Cond.methodLink RL 21 yX3_put ∈ bg := bg_in1 (List.mem_of_getElem? (i := 103) (by decide +kernel)) (by rfl)
set_option maxRecDepth 20000 in
theorem bw_1_104 : Cond.instanceMethod yX3_put ∈ bg := bg_in1 (List.mem_of_getElem? (i := 104) (by decide +kernel)) (by rfl)
set_option maxRecDepth 20000 in
theorem bw_1_105 : Cond.selects RX3 yX3_put yX3_put ∈ bg := bg_in1 (List.mem_of_getElem? (i := 105) (by decide +kernel)) (by rfl)
set_option maxRecDepth 20000 in
theorem bw_1_106 : Cond.code yX3_put cX3_put 7 (some .boolean) ∈ bg := bg_in1 (List.mem_of_getElem? (i := 106) (rfl)) (by rfl)
set_option maxRecDepth 20000 in
theorem bw_1_107 : Cond.methodLink RX3 25 yX3_isCore ∈ bg := bg_in1 (List.mem_of_getElem? (i := 107) (by decide +kernel)) (by rfl)
set_option maxRecDepth 20000 in
theorem bw_1_109 : Cond.instanceMethod yX3_isCore ∈ bg := bg_in1 (List.mem_of_getElem? (i := 109) (by decide +kernel)) (by rfl)
set_option maxRecDepth 20000 in
theorem bw_1_110 : Cond.code yX3_isCore cX3_isCore 2 (some .boolean) ∈ bg := bg_in1 (List.mem_of_getElem? (i := 110) (rfl)) (by rfl)
set_option maxRecDepth 20000 in
theorem bw_1_111 : Cond.methodLink RX3 29 yX3_isPlace ∈ bg := bg_in1 (List.mem_of_getElem? (i := 111) (by decide +kernel)) (by rfl)
set_option maxRecDepth 20000 in
theorem bw_1_112 : Cond.static yX3_isPlace ∈ bg := bg_in1 (List.mem_of_getElem? (i := 112) (by decide +kernel)) (by rfl)
set_option maxRecDepth 20000 in
theorem bw_1_113 : Cond.code yX3_isPlace cX3_isPlace 1 (some .boolean) ∈ bg := bg_in1 (List.mem_of_getElem? (i := 113) (rfl)) (by rfl)
set_option maxRecDepth 20000 in
theorem bw_1_114 : Cond.methodLink RX3 32 yX3_isRegister ∈ bg := bg_in1 (List.mem_of_getElem? (i := 114) (by decide +kernel)) (by rfl)
set_option maxRecDepth 20000 in
theorem bw_1_115 : Cond.static yX3_isRegister ∈ bg := bg_in1 (List.mem_of_getElem? (i := 115) (by decide +kernel)) (by rfl)
set_option maxRecDepth 20000 in
theorem bw_1_116 : Cond.code yX3_isRegister cX3_isRegister 1 (some .boolean) ∈ bg := bg_in1 (List.mem_of_getElem? (i := 116) (rfl)) (by rfl)
set_option maxRecDepth 20000 in
theorem bw_1_119 : Cond.instanceMethod yX1_setInstruction ∈ bg := bg_in1 (List.mem_of_getElem? (i := 119) (by decide +kernel)) (by rfl)
set_option maxRecDepth 20000 in
theorem bw_1_120 : Cond.code yX1_setInstruction cX1_setInstruction 6 none ∈ bg := bg_in1 (List.mem_of_getElem? (i := 120) (rfl)) (by rfl)
set_option maxRecDepth 20000 in
theorem bw_1_121 : Cond.methodLink RL 26 yX3_recovery ∈ bg := bg_in1 (List.mem_of_getElem? (i := 121) (by decide +kernel)) (by rfl)
set_option maxRecDepth 20000 in
theorem bw_1_122 : Cond.instanceMethod yX3_recovery ∈ bg := bg_in1 (List.mem_of_getElem? (i := 122) (by decide +kernel)) (by rfl)
set_option maxRecDepth 20000 in
theorem bw_1_123 : Cond.selects RX3 yX3_recovery yX3_recovery ∈ bg := bg_in1 (List.mem_of_getElem? (i := 123) (by decide +kernel)) (by rfl)
set_option maxRecDepth 20000 in
theorem bw_1_124 : Cond.code yX3_recovery cX3_recovery 3 (some .boolean) ∈ bg := bg_in1 (List.mem_of_getElem? (i := 124) (rfl)) (by rfl)
set_option maxRecDepth 20000 in
theorem bw_1_125 : Cond.methodLink RL 31 yX3_step ∈ bg := bg_in1 (List.mem_of_getElem? (i := 125) (by decide +kernel)) (by rfl)
set_option maxRecDepth 20000 in
theorem bw_1_126 : Cond.instanceMethod yX3_step ∈ bg := bg_in1 (List.mem_of_getElem? (i := 126) (by decide +kernel)) (by rfl)
set_option maxRecDepth 20000 in
theorem bw_1_127 : Cond.selects RX3 yX3_step yX3_step ∈ bg := bg_in1 (List.mem_of_getElem? (i := 127) (by decide +kernel)) (by rfl)
set_option maxRecDepth 20000 in
theorem bw_1_128 : Cond.code yX3_step cX3_step 2 (some .int) ∈ bg := bg_in1 (List.mem_of_getElem? (i := 128) (rfl)) (by rfl)
set_option maxRecDepth 20000 in
theorem bw_1_131 : Cond.instanceMethod yX1_doInstruction ∈ bg := bg_in1 (List.mem_of_getElem? (i := 131) (by decide +kernel)) (by rfl)
set_option maxRecDepth 20000 in
theorem bw_1_132 : Cond.code yX1_doInstruction cX1_doInstruction 3 (some .int) ∈ bg := bg_in1 (List.mem_of_getElem? (i := 132) (rfl)) (by rfl)
set_option maxRecDepth 20000 in
theorem bw_1_133 : Cond.methodLink RX1 40 yX1_mustWait ∈ bg := bg_in1 (List.mem_of_getElem? (i := 133) (by decide +kernel)) (by rfl)
set_option maxRecDepth 20000 in
theorem bw_1_135 : Cond.instanceMethod yX1_mustWait ∈ bg := bg_in1 (List.mem_of_getElem? (i := 135) (by decide +kernel)) (by rfl)
set_option maxRecDepth 20000 in
theorem bw_1_136 : Cond.code yX1_mustWait cX1_mustWait 2 (some .boolean) ∈ bg := bg_in1 (List.mem_of_getElem? (i := 136) (rfl)) (by rfl)
set_option maxRecDepth 20000 in
theorem bw_1_139 : Cond.instanceMethod yX0_isFull ∈ bg := bg_in1 (List.mem_of_getElem? (i := 139) (by decide +kernel)) (by rfl)
set_option maxRecDepth 20000 in
theorem bw_1_140 : Cond.code yX0_isFull cX0_isFull 1 (some .boolean) ∈ bg := bg_in1 (List.mem_of_getElem? (i := 140) (rfl)) (by rfl)
set_option maxRecDepth 20000 in
theorem bw_1_141 : Cond.methodLink RX1 44 yX1_nextPlace ∈ bg := bg_in1 (List.mem_of_getElem? (i := 141) (by decide +kernel)) (by rfl)
set_option maxRecDepth 20000 in
theorem bw_1_143 : Cond.instanceMethod yX1_nextPlace ∈ bg := bg_in1 (List.mem_of_getElem? (i := 143) (by decide +kernel)) (by rfl)
set_option maxRecDepth 20000 in
theorem bw_1_144 : Cond.code yX1_nextPlace cX1_nextPlace 2 (some .int) ∈ bg := bg_in1 (List.mem_of_getElem? (i := 144) (rfl)) (by rfl)
set_option maxRecDepth 20000 in
theorem bw_1_145 : Cond.methodLink RX1 48 yX1_perform ∈ bg := bg_in1 (List.mem_of_getElem? (i := 145) (by decide +kernel)) (by rfl)
set_option maxRecDepth 20000 in
theorem bw_1_147 : Cond.instanceMethod yX1_perform ∈ bg := bg_in1 (List.mem_of_getElem? (i := 147) (by decide +kernel)) (by rfl)
set_option maxRecDepth 20000 in
theorem bw_1_148 : Cond.code yX1_perform cX1_perform 6 none ∈ bg := bg_in1 (List.mem_of_getElem? (i := 148) (rfl)) (by rfl)
set_option maxRecDepth 20000 in
theorem bw_1_151 : Cond.instanceMethod yX0_newestValue ∈ bg := bg_in1 (List.mem_of_getElem? (i := 151) (by decide +kernel)) (by rfl)
set_option maxRecDepth 20000 in
theorem bw_1_152 : Cond.code yX0_newestValue cX0_newestValue 4 (some .int) ∈ bg := bg_in1 (List.mem_of_getElem? (i := 152) (rfl)) (by rfl)
set_option maxRecDepth 20000 in
theorem bw_1_155 : Cond.instanceMethod yX0_append ∈ bg := bg_in1 (List.mem_of_getElem? (i := 155) (by decide +kernel)) (by rfl)
set_option maxRecDepth 20000 in
theorem bw_1_156 : Cond.code yX0_append cX0_append 4 none ∈ bg := bg_in1 (List.mem_of_getElem? (i := 156) (rfl)) (by rfl)
set_option maxRecDepth 20000 in
theorem bw_1_157 : Cond.methodLink RX0 25 yX0_isFull ∈ bg := bg_in1 (List.mem_of_getElem? (i := 157) (by decide +kernel)) (by rfl)
set_option maxRecDepth 20000 in
theorem bw_1_158 : Cond.methodLink RX1 72 yX1_swap ∈ bg := bg_in1 (List.mem_of_getElem? (i := 158) (by decide +kernel)) (by rfl)
set_option maxRecDepth 20000 in
theorem bw_1_160 : Cond.instanceMethod yX1_swap ∈ bg := bg_in1 (List.mem_of_getElem? (i := 160) (by decide +kernel)) (by rfl)
set_option maxRecDepth 20000 in
theorem bw_1_161 : Cond.code yX1_swap cX1_swap 4 none ∈ bg := bg_in1 (List.mem_of_getElem? (i := 161) (rfl)) (by rfl)
set_option maxRecDepth 20000 in
theorem bw_1_164 : Cond.instanceMethod yX2_write ∈ bg := bg_in1 (List.mem_of_getElem? (i := 164) (by decide +kernel)) (by rfl)
set_option maxRecDepth 20000 in
theorem bw_1_165 : Cond.code yX2_write cX2_write 3 none ∈ bg := bg_in1 (List.mem_of_getElem? (i := 165) (rfl)) (by rfl)
set_option maxRecDepth 20000 in
theorem bw_1_166 : Cond.methodLink RL 36 yX3_run ∈ bg := bg_in1 (List.mem_of_getElem? (i := 166) (by decide +kernel)) (by rfl)
set_option maxRecDepth 20000 in
theorem bw_1_167 : Cond.instanceMethod yX3_run ∈ bg := bg_in1 (List.mem_of_getElem? (i := 167) (by decide +kernel)) (by rfl)
set_option maxRecDepth 20000 in
theorem bw_1_168 : Cond.selects RX3 yX3_run yX3_run ∈ bg := bg_in1 (List.mem_of_getElem? (i := 168) (by decide +kernel)) (by rfl)
set_option maxRecDepth 20000 in
theorem bw_1_169 : Cond.code yX3_run cX3_run 4 (some .int) ∈ bg := bg_in1 (List.mem_of_getElem? (i := 169) (rfl)) (by rfl)
set_option maxRecDepth 20000 in
theorem bw_1_170 : Cond.methodLink RL 41 yX3_drain ∈ bg := bg_in1 (List.mem_of_getElem? (i := 170) (by decide +kernel)) (by rfl)
set_option maxRecDepth 20000 in
theorem bw_1_171 : Cond.instanceMethod yX3_drain ∈ bg := bg_in1 (List.mem_of_getElem? (i := 171) (by decide +kernel)) (by rfl)
set_option maxRecDepth 20000 in
theorem bw_1_172 : Cond.selects RX3 yX3_drain yX3_drain ∈ bg := bg_in1 (List.mem_of_getElem? (i := 172) (by decide +kernel)) (by rfl)
set_option maxRecDepth 20000 in
theorem bw_1_173 : Cond.code yX3_drain cX3_drain 3 (some .boolean) ∈ bg := bg_in1 (List.mem_of_getElem? (i := 173) (rfl)) (by rfl)
set_option maxRecDepth 20000 in
theorem bw_1_174 : Cond.methodLink RX3 47 yX3_isEntry ∈ bg := bg_in1 (List.mem_of_getElem? (i := 174) (by decide +kernel)) (by rfl)
set_option maxRecDepth 20000 in
theorem bw_1_176 : Cond.instanceMethod yX3_isEntry ∈ bg := bg_in1 (List.mem_of_getElem? (i := 176) (by decide +kernel)) (by rfl)
set_option maxRecDepth 20000 in
theorem bw_1_177 : Cond.code yX3_isEntry cX3_isEntry 3 (some .boolean) ∈ bg := bg_in1 (List.mem_of_getElem? (i := 177) (rfl)) (by rfl)
set_option maxRecDepth 20000 in
theorem bw_1_180 : Cond.instanceMethod yX0_mayLeave ∈ bg := bg_in1 (List.mem_of_getElem? (i := 180) (by decide +kernel)) (by rfl)
set_option maxRecDepth 20000 in
theorem bw_1_181 : Cond.code yX0_mayLeave cX0_mayLeave 3 (some .boolean) ∈ bg := bg_in1 (List.mem_of_getElem? (i := 181) (rfl)) (by rfl)
set_option maxRecDepth 20000 in
theorem bw_1_182 : Cond.methodLink RX0 29 yX0_letsPass ∈ bg := bg_in1 (List.mem_of_getElem? (i := 182) (by decide +kernel)) (by rfl)
set_option maxRecDepth 20000 in
theorem bw_1_184 : Cond.instanceMethod yX0_letsPass ∈ bg := bg_in1 (List.mem_of_getElem? (i := 184) (by decide +kernel)) (by rfl)
set_option maxRecDepth 20000 in
theorem bw_1_185 : Cond.code yX0_letsPass cX0_letsPass 5 (some .boolean) ∈ bg := bg_in1 (List.mem_of_getElem? (i := 185) (rfl)) (by rfl)
set_option maxRecDepth 20000 in
theorem bw_1_186 : Cond.methodLink RX0 33 yX0_lineOf ∈ bg := bg_in1 (List.mem_of_getElem? (i := 186) (by decide +kernel)) (by rfl)
set_option maxRecDepth 20000 in
theorem bw_1_188 : Cond.instanceMethod yX0_lineOf ∈ bg := bg_in1 (List.mem_of_getElem? (i := 188) (by decide +kernel)) (by rfl)
set_option maxRecDepth 20000 in
theorem bw_1_189 : Cond.code yX0_lineOf cX0_lineOf 2 (some .int) ∈ bg := bg_in1 (List.mem_of_getElem? (i := 189) (rfl)) (by rfl)
set_option maxRecDepth 20000 in
theorem bw_1_192 : Cond.instanceMethod yX0_letOut ∈ bg := bg_in1 (List.mem_of_getElem? (i := 192) (by decide +kernel)) (by rfl)
set_option maxRecDepth 20000 in
theorem bw_1_193 : Cond.code yX0_letOut cX0_letOut 3 none ∈ bg := bg_in1 (List.mem_of_getElem? (i := 193) (rfl)) (by rfl)
set_option maxRecDepth 20000 in
theorem bw_1_197 : Cond.instanceMethod yX2_writeBack ∈ bg := bg_in1 (List.mem_of_getElem? (i := 197) (by decide +kernel)) (by rfl)
set_option maxRecDepth 20000 in
theorem bw_1_198 : Cond.code yX2_writeBack cX2_writeBack 4 none ∈ bg := bg_in1 (List.mem_of_getElem? (i := 198) (rfl)) (by rfl)
set_option maxRecDepth 20000 in
theorem bw_1_199 : Cond.methodLink RX0 47 yX0_remove ∈ bg := bg_in1 (List.mem_of_getElem? (i := 199) (by decide +kernel)) (by rfl)
set_option maxRecDepth 20000 in
theorem bw_1_201 : Cond.instanceMethod yX0_remove ∈ bg := bg_in1 (List.mem_of_getElem? (i := 201) (by decide +kernel)) (by rfl)
set_option maxRecDepth 20000 in
theorem bw_1_202 : Cond.code yX0_remove cX0_remove 3 none ∈ bg := bg_in1 (List.mem_of_getElem? (i := 202) (rfl)) (by rfl)
set_option maxRecDepth 20000 in
theorem bw_1_203 : Cond.methodLink RL 45 yX3_settle ∈ bg := bg_in1 (List.mem_of_getElem? (i := 203) (by decide +kernel)) (by rfl)
set_option maxRecDepth 20000 in
theorem bw_1_204 : Cond.instanceMethod yX3_settle ∈ bg := bg_in1 (List.mem_of_getElem? (i := 204) (by decide +kernel)) (by rfl)
set_option maxRecDepth 20000 in
theorem bw_1_205 : Cond.selects RX3 yX3_settle yX3_settle ∈ bg := bg_in1 (List.mem_of_getElem? (i := 205) (by decide +kernel)) (by rfl)
set_option maxRecDepth 20000 in
theorem bw_1_206 : Cond.code yX3_settle cX3_settle 5 (some .int) ∈ bg := bg_in1 (List.mem_of_getElem? (i := 206) (rfl)) (by rfl)
set_option maxRecDepth 20000 in
theorem bw_1_207 : Cond.methodLink RL 49 yX3_evict ∈ bg := bg_in1 (List.mem_of_getElem? (i := 207) (by decide +kernel)) (by rfl)
set_option maxRecDepth 20000 in
theorem bw_1_208 : Cond.instanceMethod yX3_evict ∈ bg := bg_in1 (List.mem_of_getElem? (i := 208) (by decide +kernel)) (by rfl)
set_option maxRecDepth 20000 in
theorem bw_1_209 : Cond.selects RX3 yX3_evict yX3_evict ∈ bg := bg_in1 (List.mem_of_getElem? (i := 209) (by decide +kernel)) (by rfl)
set_option maxRecDepth 20000 in
theorem bw_1_210 : Cond.code yX3_evict cX3_evict 2 (some .boolean) ∈ bg := bg_in1 (List.mem_of_getElem? (i := 210) (rfl)) (by rfl)
set_option maxRecDepth 20000 in
theorem bw_1_211 : Cond.methodLink RX3 67 yX3_isLine ∈ bg := bg_in1 (List.mem_of_getElem? (i := 211) (by decide +kernel)) (by rfl)
set_option maxRecDepth 20000 in
theorem bw_1_212 : Cond.static yX3_isLine ∈ bg := bg_in1 (List.mem_of_getElem? (i := 212) (by decide +kernel)) (by rfl)
set_option maxRecDepth 20000 in
theorem bw_1_213 : Cond.code yX3_isLine cX3_isLine 1 (some .boolean) ∈ bg := bg_in1 (List.mem_of_getElem? (i := 213) (rfl)) (by rfl)
set_option maxRecDepth 20000 in
theorem bw_1_215 : Cond.methodLink RL 54 yX3_crash ∈ bg := bg_in1 (List.mem_of_getElem? (i := 215) (by decide +kernel)) (by rfl)
set_option maxRecDepth 20000 in
theorem bw_1_216 : Cond.instanceMethod yX3_crash ∈ bg := bg_in1 (List.mem_of_getElem? (i := 216) (by decide +kernel)) (by rfl)
set_option maxRecDepth 20000 in
theorem bw_1_217 : Cond.selects RX3 yX3_crash yX3_crash ∈ bg := bg_in1 (List.mem_of_getElem? (i := 217) (by decide +kernel)) (by rfl)
set_option maxRecDepth 20000 in
theorem bw_1_218 : Cond.code yX3_crash cX3_crash 2 none ∈ bg := bg_in1 (List.mem_of_getElem? (i := 218) (rfl)) (by rfl)
set_option maxRecDepth 20000 in
theorem bw_1_221 : Cond.instanceMethod yX2_fallBackToStorage ∈ bg := bg_in1 (List.mem_of_getElem? (i := 221) (by decide +kernel)) (by rfl)
set_option maxRecDepth 20000 in
theorem bw_1_222 : Cond.code yX2_fallBackToStorage cX2_fallBackToStorage 2 none ∈ bg := bg_in1 (List.mem_of_getElem? (i := 222) (rfl)) (by rfl)
set_option maxRecDepth 20000 in
theorem bw_1_225 : Cond.instanceMethod yX1_beginAgain ∈ bg := bg_in1 (List.mem_of_getElem? (i := 225) (by decide +kernel)) (by rfl)
set_option maxRecDepth 20000 in
theorem bw_1_226 : Cond.code yX1_beginAgain cX1_beginAgain 2 none ∈ bg := bg_in1 (List.mem_of_getElem? (i := 226) (rfl)) (by rfl)
set_option maxRecDepth 20000 in
theorem bw_1_227 : Cond.methodLink RL 58 yX3_register ∈ bg := bg_in1 (List.mem_of_getElem? (i := 227) (by decide +kernel)) (by rfl)
set_option maxRecDepth 20000 in
theorem bw_1_228 : Cond.instanceMethod yX3_register ∈ bg := bg_in1 (List.mem_of_getElem? (i := 228) (by decide +kernel)) (by rfl)
set_option maxRecDepth 20000 in
theorem bw_1_229 : Cond.selects RX3 yX3_register yX3_register ∈ bg := bg_in1 (List.mem_of_getElem? (i := 229) (by decide +kernel)) (by rfl)
set_option maxRecDepth 20000 in
theorem bw_1_230 : Cond.code yX3_register cX3_register 3 (some .int) ∈ bg := bg_in1 (List.mem_of_getElem? (i := 230) (rfl)) (by rfl)
set_option maxRecDepth 20000 in
theorem bw_1_231 : Cond.methodLink RL 62 yX3_place ∈ bg := bg_in1 (List.mem_of_getElem? (i := 231) (by decide +kernel)) (by rfl)
set_option maxRecDepth 20000 in
theorem bw_1_232 : Cond.instanceMethod yX3_place ∈ bg := bg_in1 (List.mem_of_getElem? (i := 232) (by decide +kernel)) (by rfl)
set_option maxRecDepth 20000 in
theorem bw_1_233 : Cond.selects RX3 yX3_place yX3_place ∈ bg := bg_in1 (List.mem_of_getElem? (i := 233) (by decide +kernel)) (by rfl)
set_option maxRecDepth 20000 in
theorem bw_1_234 : Cond.code yX3_place cX3_place 2 (some .int) ∈ bg := bg_in1 (List.mem_of_getElem? (i := 234) (rfl)) (by rfl)
set_option maxRecDepth 20000 in
theorem bw_1_235 : Cond.methodLink RL 66 yX3_pending ∈ bg := bg_in1 (List.mem_of_getElem? (i := 235) (by decide +kernel)) (by rfl)
set_option maxRecDepth 20000 in
theorem bw_1_236 : Cond.instanceMethod yX3_pending ∈ bg := bg_in1 (List.mem_of_getElem? (i := 236) (by decide +kernel)) (by rfl)
set_option maxRecDepth 20000 in
theorem bw_1_237 : Cond.selects RX3 yX3_pending yX3_pending ∈ bg := bg_in1 (List.mem_of_getElem? (i := 237) (by decide +kernel)) (by rfl)
set_option maxRecDepth 20000 in
theorem bw_1_238 : Cond.code yX3_pending cX3_pending 2 (some .int) ∈ bg := bg_in1 (List.mem_of_getElem? (i := 238) (rfl)) (by rfl)
set_option maxRecDepth 20000 in
theorem bw_1_239 : Cond.methodLink RL 70 yX3_entry ∈ bg := bg_in1 (List.mem_of_getElem? (i := 239) (by decide +kernel)) (by rfl)
set_option maxRecDepth 20000 in
theorem bw_2_0 : Cond.instanceMethod yX3_entry ∈ bg := bg_in2 (List.mem_of_getElem? (i := 0) (by decide +kernel)) (by rfl)
set_option maxRecDepth 20000 in
theorem bw_2_1 : Cond.selects RX3 yX3_entry yX3_entry ∈ bg := bg_in2 (List.mem_of_getElem? (i := 1) (by decide +kernel)) (by rfl)
set_option maxRecDepth 20000 in
theorem bw_2_2 : Cond.code yX3_entry cX3_entry 5 (some .int) ∈ bg := bg_in2 (List.mem_of_getElem? (i := 2) (rfl)) (by rfl)
set_option maxRecDepth 20000 in
theorem bw_2_3 : Cond.methodLink RL 75 yX3_sees ∈ bg := bg_in2 (List.mem_of_getElem? (i := 3) (by decide +kernel)) (by rfl)
set_option maxRecDepth 20000 in
theorem bw_2_4 : Cond.instanceMethod yX3_sees ∈ bg := bg_in2 (List.mem_of_getElem? (i := 4) (by decide +kernel)) (by rfl)
set_option maxRecDepth 20000 in
theorem bw_2_5 : Cond.selects RX3 yX3_sees yX3_sees ∈ bg := bg_in2 (List.mem_of_getElem? (i := 5) (by decide +kernel)) (by rfl)
set_option maxRecDepth 20000 in
theorem bw_2_6 : Cond.code yX3_sees cX3_sees 3 (some .int) ∈ bg := bg_in2 (List.mem_of_getElem? (i := 6) (rfl)) (by rfl)
set_option maxRecDepth 20000 in
theorem bw_2_7 : Cond.methodLink RX3 95 yX3_isWord ∈ bg := bg_in2 (List.mem_of_getElem? (i := 7) (by decide +kernel)) (by rfl)
set_option maxRecDepth 20000 in
theorem bw_2_8 : Cond.static yX3_isWord ∈ bg := bg_in2 (List.mem_of_getElem? (i := 8) (by decide +kernel)) (by rfl)
set_option maxRecDepth 20000 in
theorem bw_2_9 : Cond.code yX3_isWord cX3_isWord 1 (some .boolean) ∈ bg := bg_in2 (List.mem_of_getElem? (i := 9) (rfl)) (by rfl)
set_option maxRecDepth 20000 in
theorem bw_2_11 : Cond.methodLink RL 79 yX3_memory ∈ bg := bg_in2 (List.mem_of_getElem? (i := 11) (by decide +kernel)) (by rfl)
set_option maxRecDepth 20000 in
theorem bw_2_12 : Cond.instanceMethod yX3_memory ∈ bg := bg_in2 (List.mem_of_getElem? (i := 12) (by decide +kernel)) (by rfl)
set_option maxRecDepth 20000 in
theorem bw_2_13 : Cond.selects RX3 yX3_memory yX3_memory ∈ bg := bg_in2 (List.mem_of_getElem? (i := 13) (by decide +kernel)) (by rfl)
set_option maxRecDepth 20000 in
theorem bw_2_14 : Cond.code yX3_memory cX3_memory 2 (some .int) ∈ bg := bg_in2 (List.mem_of_getElem? (i := 14) (rfl)) (by rfl)
set_option maxRecDepth 20000 in
theorem bw_2_15 : Cond.methodLink RL 83 yX3_storage ∈ bg := bg_in2 (List.mem_of_getElem? (i := 15) (by decide +kernel)) (by rfl)
set_option maxRecDepth 20000 in
theorem bw_2_16 : Cond.instanceMethod yX3_storage ∈ bg := bg_in2 (List.mem_of_getElem? (i := 16) (by decide +kernel)) (by rfl)
set_option maxRecDepth 20000 in
theorem bw_2_17 : Cond.selects RX3 yX3_storage yX3_storage ∈ bg := bg_in2 (List.mem_of_getElem? (i := 17) (by decide +kernel)) (by rfl)
set_option maxRecDepth 20000 in
theorem bw_2_18 : Cond.code yX3_storage cX3_storage 2 (some .int) ∈ bg := bg_in2 (List.mem_of_getElem? (i := 18) (rfl)) (by rfl)
set_option maxRecDepth 20000 in
theorem bw_2_19 : Cond.methodLink RL 87 yX3_dirty ∈ bg := bg_in2 (List.mem_of_getElem? (i := 19) (by decide +kernel)) (by rfl)
set_option maxRecDepth 20000 in
theorem bw_2_20 : Cond.instanceMethod yX3_dirty ∈ bg := bg_in2 (List.mem_of_getElem? (i := 20) (by decide +kernel)) (by rfl)
set_option maxRecDepth 20000 in
theorem bw_2_21 : Cond.selects RX3 yX3_dirty yX3_dirty ∈ bg := bg_in2 (List.mem_of_getElem? (i := 21) (by decide +kernel)) (by rfl)
set_option maxRecDepth 20000 in
theorem bw_2_22 : Cond.code yX3_dirty cX3_dirty 2 (some .boolean) ∈ bg := bg_in2 (List.mem_of_getElem? (i := 22) (rfl)) (by rfl)
set_option maxRecDepth 20000 in
theorem bw_2_23 : Cond.methodLink RL 91 yX3_cores ∈ bg := bg_in2 (List.mem_of_getElem? (i := 23) (by decide +kernel)) (by rfl)
set_option maxRecDepth 20000 in
theorem bw_2_24 : Cond.instanceMethod yX3_cores ∈ bg := bg_in2 (List.mem_of_getElem? (i := 24) (by decide +kernel)) (by rfl)
set_option maxRecDepth 20000 in
theorem bw_2_25 : Cond.selects RX3 yX3_cores yX3_cores ∈ bg := bg_in2 (List.mem_of_getElem? (i := 25) (by decide +kernel)) (by rfl)
set_option maxRecDepth 20000 in
theorem bw_2_26 : Cond.code yX3_cores cX3_cores 1 (some .int) ∈ bg := bg_in2 (List.mem_of_getElem? (i := 26) (rfl)) (by rfl)
set_option maxRecDepth 20000 in
theorem bw_2_27 : Cond.methodLink RL 9 yL_cell ∈ bg := bg_in2 (List.mem_of_getElem? (i := 27) (by decide +kernel)) (by rfl)
set_option maxRecDepth 20000 in
theorem bw_2_28 : Cond.static yL_cell ∈ bg := bg_in2 (List.mem_of_getElem? (i := 28) (by decide +kernel)) (by rfl)
set_option maxRecDepth 20000 in
theorem bw_2_29 : Cond.code yL_cell cL_cell 2 (some .int) ∈ bg := bg_in2 (List.mem_of_getElem? (i := 29) (rfl)) (by rfl)
set_option maxRecDepth 20000 in
theorem bw_2_30 : Cond.classLink RL 18 RX4 ∈ bg := bg_in2 (List.mem_of_getElem? (i := 30) (by decide +kernel)) (by rfl)
set_option maxRecDepth 20000 in
theorem bw_2_31 : Cond.instantiable RX4 18 ∈ bg := bg_in2 (List.mem_of_getElem? (i := 31) (by decide +kernel)) (by rfl)
set_option maxRecDepth 20000 in
theorem bw_2_32 : Cond.methodLink RL 20 yX4_init ∈ bg := bg_in2 (List.mem_of_getElem? (i := 32) (by decide +kernel)) (by rfl)
set_option maxRecDepth 20000 in
theorem bw_2_33 : Cond.instanceMethod yX4_init ∈ bg := bg_in2 (List.mem_of_getElem? (i := 33) (by decide +kernel)) (by rfl)
set_option maxRecDepth 20000 in
theorem bw_2_34 : Cond.code yX4_init cX4_init 3 none ∈ bg := bg_in2 (List.mem_of_getElem? (i := 34) (rfl)) (by rfl)
set_option maxRecDepth 20000 in
theorem bw_2_35 : Cond.methodLink RX4 1 objectInit ∈ bg := bg_in2 (List.mem_of_getElem? (i := 35) (by decide +kernel)) (by rfl)
set_option maxRecDepth 20000 in
theorem bw_2_36 : Cond.fieldLink RX4 55 "StoreBufferCoresModel" "cores" "I" ∈ bg := bg_in2 (List.mem_of_getElem? (i := 36) (by decide +kernel)) (by rfl)
set_option maxRecDepth 20000 in
theorem bw_2_37 : Cond.fieldLink RX4 59 "StoreBufferCoresModel" "room" "I" ∈ bg := bg_in2 (List.mem_of_getElem? (i := 37) (by decide +kernel)) (by rfl)
set_option maxRecDepth 20000 in
theorem bw_2_38 : Cond.fieldLink RX4 7 "StoreBufferCoresModel" "codes" "[I" ∈ bg := bg_in2 (List.mem_of_getElem? (i := 38) (by decide +kernel)) (by rfl)
set_option maxRecDepth 20000 in
theorem bw_2_39 : Cond.fieldLink RX4 13 "StoreBufferCoresModel" "firsts" "[I" ∈ bg := bg_in2 (List.mem_of_getElem? (i := 39) (by decide +kernel)) (by rfl)
set_option maxRecDepth 20000 in
theorem bw_2_40 : Cond.fieldLink RX4 16 "StoreBufferCoresModel" "seconds" "[I" ∈ bg := bg_in2 (List.mem_of_getElem? (i := 40) (by decide +kernel)) (by rfl)
set_option maxRecDepth 20000 in
theorem bw_2_41 : Cond.fieldLink RX4 19 "StoreBufferCoresModel" "numbers" "[I" ∈ bg := bg_in2 (List.mem_of_getElem? (i := 41) (by decide +kernel)) (by rfl)
set_option maxRecDepth 20000 in
theorem bw_2_42 : Cond.fieldLink RX4 22 "StoreBufferCoresModel" "registers" "[I" ∈ bg := bg_in2 (List.mem_of_getElem? (i := 42) (by decide +kernel)) (by rfl)
set_option maxRecDepth 20000 in
theorem bw_2_43 : Cond.fieldLink RX4 25 "StoreBufferCoresModel" "place" "[I" ∈ bg := bg_in2 (List.mem_of_getElem? (i := 43) (by decide +kernel)) (by rfl)
set_option maxRecDepth 20000 in
theorem bw_2_44 : Cond.fieldLink RX4 28 "StoreBufferCoresModel" "recovery" "[I" ∈ bg := bg_in2 (List.mem_of_getElem? (i := 44) (by decide +kernel)) (by rfl)
set_option maxRecDepth 20000 in
theorem bw_2_45 : Cond.fieldLink RX4 31 "StoreBufferCoresModel" "held" "[I" ∈ bg := bg_in2 (List.mem_of_getElem? (i := 45) (by decide +kernel)) (by rfl)
set_option maxRecDepth 20000 in
theorem bw_2_46 : Cond.fieldLink RX4 34 "StoreBufferCoresModel" "kind" "[I" ∈ bg := bg_in2 (List.mem_of_getElem? (i := 46) (by decide +kernel)) (by rfl)
set_option maxRecDepth 20000 in
theorem bw_2_47 : Cond.fieldLink RX4 37 "StoreBufferCoresModel" "target" "[I" ∈ bg := bg_in2 (List.mem_of_getElem? (i := 47) (by decide +kernel)) (by rfl)
set_option maxRecDepth 20000 in
theorem bw_2_48 : Cond.fieldLink RX4 40 "StoreBufferCoresModel" "value" "[I" ∈ bg := bg_in2 (List.mem_of_getElem? (i := 48) (by decide +kernel)) (by rfl)
set_option maxRecDepth 20000 in
theorem bw_2_49 : Cond.fieldLink RX4 43 "StoreBufferCoresModel" "memory" "[I" ∈ bg := bg_in2 (List.mem_of_getElem? (i := 49) (by decide +kernel)) (by rfl)
set_option maxRecDepth 20000 in
theorem bw_2_50 : Cond.fieldLink RX4 46 "StoreBufferCoresModel" "storage" "[I" ∈ bg := bg_in2 (List.mem_of_getElem? (i := 50) (by decide +kernel)) (by rfl)
set_option maxRecDepth 20000 in
theorem bw_2_51 : Cond.fieldLink RX4 66 "StoreBufferCoresModel" "time" "I" ∈ bg := bg_in2 (List.mem_of_getElem? (i := 51) (by decide +kernel)) (by rfl)
set_option maxRecDepth 20000 in
theorem bw_2_52 : Cond.fieldLink RX4 49 "StoreBufferCoresModel" "putAt" "[I" ∈ bg := bg_in2 (List.mem_of_getElem? (i := 52) (by decide +kernel)) (by rfl)
set_option maxRecDepth 20000 in
theorem bw_2_53 : Cond.fieldLink RX4 52 "StoreBufferCoresModel" "backAt" "[I" ∈ bg := bg_in2 (List.mem_of_getElem? (i := 53) (by decide +kernel)) (by rfl)
set_option maxRecDepth 20000 in
theorem bw_2_54 : Cond.laysFinal "StoreBufferCoresModel" "StoreBufferCoresModel" "cores" "I" ∈ bg := bg_in2 (List.mem_of_getElem? (i := 54) (by decide +kernel)) (by rfl)
set_option maxRecDepth 20000 in
theorem bw_2_56 : Cond.laysFinal "StoreBufferCoresModel" "StoreBufferCoresModel" "room" "I" ∈ bg := bg_in2 (List.mem_of_getElem? (i := 56) (by decide +kernel)) (by rfl)
set_option maxRecDepth 20000 in
theorem bw_2_58 : Cond.laysFinal "StoreBufferCoresModel" "StoreBufferCoresModel" "codes" "[I" ∈ bg := bg_in2 (List.mem_of_getElem? (i := 58) (by decide +kernel)) (by rfl)
set_option maxRecDepth 20000 in
theorem bw_2_60 : Cond.laysFinal "StoreBufferCoresModel" "StoreBufferCoresModel" "firsts" "[I" ∈ bg := bg_in2 (List.mem_of_getElem? (i := 60) (by decide +kernel)) (by rfl)
set_option maxRecDepth 20000 in
theorem bw_2_62 : Cond.laysFinal "StoreBufferCoresModel" "StoreBufferCoresModel" "seconds" "[I" ∈ bg := bg_in2 (List.mem_of_getElem? (i := 62) (by decide +kernel)) (by rfl)
set_option maxRecDepth 20000 in
theorem bw_2_64 : Cond.laysFinal "StoreBufferCoresModel" "StoreBufferCoresModel" "numbers" "[I" ∈ bg := bg_in2 (List.mem_of_getElem? (i := 64) (by decide +kernel)) (by rfl)
set_option maxRecDepth 20000 in
theorem bw_2_66 : Cond.laysFinal "StoreBufferCoresModel" "StoreBufferCoresModel" "registers" "[I" ∈ bg := bg_in2 (List.mem_of_getElem? (i := 66) (by decide +kernel)) (by rfl)
set_option maxRecDepth 20000 in
theorem bw_2_68 : Cond.laysFinal "StoreBufferCoresModel" "StoreBufferCoresModel" "place" "[I" ∈ bg := bg_in2 (List.mem_of_getElem? (i := 68) (by decide +kernel)) (by rfl)
set_option maxRecDepth 20000 in
theorem bw_2_70 : Cond.laysFinal "StoreBufferCoresModel" "StoreBufferCoresModel" "recovery" "[I" ∈ bg := bg_in2 (List.mem_of_getElem? (i := 70) (by decide +kernel)) (by rfl)
set_option maxRecDepth 20000 in
theorem bw_2_72 : Cond.laysFinal "StoreBufferCoresModel" "StoreBufferCoresModel" "held" "[I" ∈ bg := bg_in2 (List.mem_of_getElem? (i := 72) (by decide +kernel)) (by rfl)
set_option maxRecDepth 20000 in
theorem bw_2_74 : Cond.laysFinal "StoreBufferCoresModel" "StoreBufferCoresModel" "kind" "[I" ∈ bg := bg_in2 (List.mem_of_getElem? (i := 74) (by decide +kernel)) (by rfl)
set_option maxRecDepth 20000 in
theorem bw_2_76 : Cond.laysFinal "StoreBufferCoresModel" "StoreBufferCoresModel" "target" "[I" ∈ bg := bg_in2 (List.mem_of_getElem? (i := 76) (by decide +kernel)) (by rfl)
set_option maxRecDepth 20000 in
theorem bw_2_78 : Cond.laysFinal "StoreBufferCoresModel" "StoreBufferCoresModel" "value" "[I" ∈ bg := bg_in2 (List.mem_of_getElem? (i := 78) (by decide +kernel)) (by rfl)
set_option maxRecDepth 20000 in
theorem bw_2_80 : Cond.laysFinal "StoreBufferCoresModel" "StoreBufferCoresModel" "memory" "[I" ∈ bg := bg_in2 (List.mem_of_getElem? (i := 80) (by decide +kernel)) (by rfl)
set_option maxRecDepth 20000 in
theorem bw_2_82 : Cond.laysFinal "StoreBufferCoresModel" "StoreBufferCoresModel" "storage" "[I" ∈ bg := bg_in2 (List.mem_of_getElem? (i := 82) (by decide +kernel)) (by rfl)
set_option maxRecDepth 20000 in
theorem bw_2_84 : Cond.lays "StoreBufferCoresModel" "StoreBufferCoresModel" "time" "I" ∈ bg := bg_in2 (List.mem_of_getElem? (i := 84) (by decide +kernel)) (by rfl)
set_option maxRecDepth 20000 in
theorem bw_2_86 : Cond.laysFinal "StoreBufferCoresModel" "StoreBufferCoresModel" "putAt" "[I" ∈ bg := bg_in2 (List.mem_of_getElem? (i := 86) (by decide +kernel)) (by rfl)
set_option maxRecDepth 20000 in
theorem bw_2_88 : Cond.laysFinal "StoreBufferCoresModel" "StoreBufferCoresModel" "backAt" "[I" ∈ bg := bg_in2 (List.mem_of_getElem? (i := 88) (by decide +kernel)) (by rfl)
set_option maxRecDepth 20000 in
theorem bw_2_91 : Cond.methodLink RL 25 yX4_put ∈ bg := bg_in2 (List.mem_of_getElem? (i := 91) (by decide +kernel)) (by rfl)
set_option maxRecDepth 20000 in
theorem bw_2_92 : Cond.instanceMethod yX4_put ∈ bg := bg_in2 (List.mem_of_getElem? (i := 92) (by decide +kernel)) (by rfl)
set_option maxRecDepth 20000 in
theorem bw_2_93 : Cond.selects RX4 yX4_put yX4_put ∈ bg := bg_in2 (List.mem_of_getElem? (i := 93) (by decide +kernel)) (by rfl)
set_option maxRecDepth 20000 in
theorem bw_2_94 : Cond.code yX4_put cX4_put 8 (some .boolean) ∈ bg := bg_in2 (List.mem_of_getElem? (i := 94) (rfl)) (by rfl)
set_option maxRecDepth 20000 in
theorem bw_2_95 : Cond.methodLink RX4 62 yX4_isCore ∈ bg := bg_in2 (List.mem_of_getElem? (i := 95) (by decide +kernel)) (by rfl)
set_option maxRecDepth 20000 in
theorem bw_2_97 : Cond.instanceMethod yX4_isCore ∈ bg := bg_in2 (List.mem_of_getElem? (i := 97) (by decide +kernel)) (by rfl)
set_option maxRecDepth 20000 in
theorem bw_2_98 : Cond.code yX4_isCore cX4_isCore 2 (some .boolean) ∈ bg := bg_in2 (List.mem_of_getElem? (i := 98) (rfl)) (by rfl)
set_option maxRecDepth 20000 in
theorem bw_2_99 : Cond.methodLink RL 30 yX4_recovery ∈ bg := bg_in2 (List.mem_of_getElem? (i := 99) (by decide +kernel)) (by rfl)
set_option maxRecDepth 20000 in
theorem bw_2_100 : Cond.instanceMethod yX4_recovery ∈ bg := bg_in2 (List.mem_of_getElem? (i := 100) (by decide +kernel)) (by rfl)
set_option maxRecDepth 20000 in
theorem bw_2_101 : Cond.selects RX4 yX4_recovery yX4_recovery ∈ bg := bg_in2 (List.mem_of_getElem? (i := 101) (by decide +kernel)) (by rfl)
set_option maxRecDepth 20000 in
theorem bw_2_102 : Cond.code yX4_recovery cX4_recovery 3 (some .boolean) ∈ bg := bg_in2 (List.mem_of_getElem? (i := 102) (rfl)) (by rfl)
set_option maxRecDepth 20000 in
theorem bw_2_103 : Cond.methodLink RL 53 yX4_evict ∈ bg := bg_in2 (List.mem_of_getElem? (i := 103) (by decide +kernel)) (by rfl)
set_option maxRecDepth 20000 in
theorem bw_2_104 : Cond.instanceMethod yX4_evict ∈ bg := bg_in2 (List.mem_of_getElem? (i := 104) (by decide +kernel)) (by rfl)
set_option maxRecDepth 20000 in
theorem bw_2_105 : Cond.selects RX4 yX4_evict yX4_evict ∈ bg := bg_in2 (List.mem_of_getElem? (i := 105) (by decide +kernel)) (by rfl)
set_option maxRecDepth 20000 in
theorem bw_2_106 : Cond.code yX4_evict cX4_evict 2 (some .boolean) ∈ bg := bg_in2 (List.mem_of_getElem? (i := 106) (rfl)) (by rfl)
set_option maxRecDepth 20000 in
theorem bw_2_107 : Cond.methodLink RX4 69 yX4_writeBack ∈ bg := bg_in2 (List.mem_of_getElem? (i := 107) (by decide +kernel)) (by rfl)
set_option maxRecDepth 20000 in
theorem bw_2_109 : Cond.instanceMethod yX4_writeBack ∈ bg := bg_in2 (List.mem_of_getElem? (i := 109) (by decide +kernel)) (by rfl)
set_option maxRecDepth 20000 in
theorem bw_2_110 : Cond.code yX4_writeBack cX4_writeBack 3 none ∈ bg := bg_in2 (List.mem_of_getElem? (i := 110) (rfl)) (by rfl)
set_option maxRecDepth 20000 in
theorem bw_2_111 : Cond.methodLink RL 90 yX4_dirty ∈ bg := bg_in2 (List.mem_of_getElem? (i := 111) (by decide +kernel)) (by rfl)
set_option maxRecDepth 20000 in
theorem bw_2_112 : Cond.instanceMethod yX4_dirty ∈ bg := bg_in2 (List.mem_of_getElem? (i := 112) (by decide +kernel)) (by rfl)
set_option maxRecDepth 20000 in
theorem bw_2_113 : Cond.selects RX4 yX4_dirty yX4_dirty ∈ bg := bg_in2 (List.mem_of_getElem? (i := 113) (by decide +kernel)) (by rfl)
set_option maxRecDepth 20000 in
theorem bw_2_114 : Cond.code yX4_dirty cX4_dirty 4 (some .boolean) ∈ bg := bg_in2 (List.mem_of_getElem? (i := 114) (rfl)) (by rfl)
set_option maxRecDepth 20000 in
theorem bw_2_115 : Cond.methodLink RL 57 yX4_crash ∈ bg := bg_in2 (List.mem_of_getElem? (i := 115) (by decide +kernel)) (by rfl)
set_option maxRecDepth 20000 in
theorem bw_2_116 : Cond.instanceMethod yX4_crash ∈ bg := bg_in2 (List.mem_of_getElem? (i := 116) (by decide +kernel)) (by rfl)
set_option maxRecDepth 20000 in
theorem bw_2_117 : Cond.selects RX4 yX4_crash yX4_crash ∈ bg := bg_in2 (List.mem_of_getElem? (i := 117) (by decide +kernel)) (by rfl)
set_option maxRecDepth 20000 in
theorem bw_2_118 : Cond.code yX4_crash cX4_crash 2 none ∈ bg := bg_in2 (List.mem_of_getElem? (i := 118) (rfl)) (by rfl)
set_option maxRecDepth 20000 in
theorem bw_2_119 : Cond.methodLink RL 44 yX4_drain ∈ bg := bg_in2 (List.mem_of_getElem? (i := 119) (by decide +kernel)) (by rfl)
set_option maxRecDepth 20000 in
theorem bw_2_120 : Cond.instanceMethod yX4_drain ∈ bg := bg_in2 (List.mem_of_getElem? (i := 120) (by decide +kernel)) (by rfl)
set_option maxRecDepth 20000 in
theorem bw_2_121 : Cond.selects RX4 yX4_drain yX4_drain ∈ bg := bg_in2 (List.mem_of_getElem? (i := 121) (by decide +kernel)) (by rfl)
set_option maxRecDepth 20000 in
theorem bw_2_122 : Cond.code yX4_drain cX4_drain 5 (some .boolean) ∈ bg := bg_in2 (List.mem_of_getElem? (i := 122) (rfl)) (by rfl)
set_option maxRecDepth 20000 in
theorem bw_2_123 : Cond.methodLink RX4 77 yX4_passes ∈ bg := bg_in2 (List.mem_of_getElem? (i := 123) (by decide +kernel)) (by rfl)
set_option maxRecDepth 20000 in
theorem bw_2_125 : Cond.instanceMethod yX4_passes ∈ bg := bg_in2 (List.mem_of_getElem? (i := 125) (by decide +kernel)) (by rfl)
set_option maxRecDepth 20000 in
theorem bw_2_126 : Cond.code yX4_passes cX4_passes 5 (some .boolean) ∈ bg := bg_in2 (List.mem_of_getElem? (i := 126) (rfl)) (by rfl)
set_option maxRecDepth 20000 in
theorem bw_2_127 : Cond.methodLink RX4 73 yX4_lineOf ∈ bg := bg_in2 (List.mem_of_getElem? (i := 127) (by decide +kernel)) (by rfl)
set_option maxRecDepth 20000 in
theorem bw_2_129 : Cond.instanceMethod yX4_lineOf ∈ bg := bg_in2 (List.mem_of_getElem? (i := 129) (by decide +kernel)) (by rfl)
set_option maxRecDepth 20000 in
theorem bw_2_130 : Cond.code yX4_lineOf cX4_lineOf 2 (some .int) ∈ bg := bg_in2 (List.mem_of_getElem? (i := 130) (rfl)) (by rfl)
set_option maxRecDepth 20000 in
theorem bw_2_131 : Cond.methodLink RX4 81 yX4_store ∈ bg := bg_in2 (List.mem_of_getElem? (i := 131) (by decide +kernel)) (by rfl)
set_option maxRecDepth 20000 in
theorem bw_2_133 : Cond.instanceMethod yX4_store ∈ bg := bg_in2 (List.mem_of_getElem? (i := 133) (by decide +kernel)) (by rfl)
set_option maxRecDepth 20000 in
theorem bw_2_134 : Cond.code yX4_store cX4_store 3 none ∈ bg := bg_in2 (List.mem_of_getElem? (i := 134) (rfl)) (by rfl)
set_option maxRecDepth 20000 in
theorem bw_2_135 : Cond.methodLink RL 48 yX4_settle ∈ bg := bg_in2 (List.mem_of_getElem? (i := 135) (by decide +kernel)) (by rfl)
set_option maxRecDepth 20000 in
theorem bw_2_136 : Cond.instanceMethod yX4_settle ∈ bg := bg_in2 (List.mem_of_getElem? (i := 136) (by decide +kernel)) (by rfl)
set_option maxRecDepth 20000 in
theorem bw_2_137 : Cond.selects RX4 yX4_settle yX4_settle ∈ bg := bg_in2 (List.mem_of_getElem? (i := 137) (by decide +kernel)) (by rfl)
set_option maxRecDepth 20000 in
theorem bw_2_138 : Cond.code yX4_settle cX4_settle 3 (some .int) ∈ bg := bg_in2 (List.mem_of_getElem? (i := 138) (rfl)) (by rfl)
set_option maxRecDepth 20000 in
theorem bw_2_139 : Cond.methodLink RX4 85 yX4_drain ∈ bg := bg_in2 (List.mem_of_getElem? (i := 139) (by decide +kernel)) (by rfl)
set_option maxRecDepth 20000 in
theorem bw_2_140 : Cond.methodLink RL 78 yX4_sees ∈ bg := bg_in2 (List.mem_of_getElem? (i := 140) (by decide +kernel)) (by rfl)
set_option maxRecDepth 20000 in
theorem bw_2_141 : Cond.instanceMethod yX4_sees ∈ bg := bg_in2 (List.mem_of_getElem? (i := 141) (by decide +kernel)) (by rfl)
set_option maxRecDepth 20000 in
theorem bw_2_142 : Cond.selects RX4 yX4_sees yX4_sees ∈ bg := bg_in2 (List.mem_of_getElem? (i := 142) (by decide +kernel)) (by rfl)
set_option maxRecDepth 20000 in
theorem bw_2_143 : Cond.code yX4_sees cX4_sees 5 (some .int) ∈ bg := bg_in2 (List.mem_of_getElem? (i := 143) (rfl)) (by rfl)
set_option maxRecDepth 20000 in
theorem bw_2_144 : Cond.methodLink RL 35 yX4_step ∈ bg := bg_in2 (List.mem_of_getElem? (i := 144) (by decide +kernel)) (by rfl)
set_option maxRecDepth 20000 in
theorem bw_2_145 : Cond.instanceMethod yX4_step ∈ bg := bg_in2 (List.mem_of_getElem? (i := 145) (by decide +kernel)) (by rfl)
set_option maxRecDepth 20000 in
theorem bw_2_146 : Cond.selects RX4 yX4_step yX4_step ∈ bg := bg_in2 (List.mem_of_getElem? (i := 146) (by decide +kernel)) (by rfl)
set_option maxRecDepth 20000 in
theorem bw_2_147 : Cond.code yX4_step cX4_step 7 (some .int) ∈ bg := bg_in2 (List.mem_of_getElem? (i := 147) (rfl)) (by rfl)
set_option maxRecDepth 20000 in
theorem bw_2_148 : Cond.methodLink RX4 88 yX4_append ∈ bg := bg_in2 (List.mem_of_getElem? (i := 148) (by decide +kernel)) (by rfl)
set_option maxRecDepth 20000 in
theorem bw_2_150 : Cond.instanceMethod yX4_append ∈ bg := bg_in2 (List.mem_of_getElem? (i := 150) (by decide +kernel)) (by rfl)
set_option maxRecDepth 20000 in
theorem bw_2_151 : Cond.code yX4_append cX4_append 6 (some .int) ∈ bg := bg_in2 (List.mem_of_getElem? (i := 151) (rfl)) (by rfl)
set_option maxRecDepth 20000 in
theorem bw_2_152 : Cond.methodLink RX4 92 yX4_swap ∈ bg := bg_in2 (List.mem_of_getElem? (i := 152) (by decide +kernel)) (by rfl)
set_option maxRecDepth 20000 in
theorem bw_2_154 : Cond.instanceMethod yX4_swap ∈ bg := bg_in2 (List.mem_of_getElem? (i := 154) (by decide +kernel)) (by rfl)
set_option maxRecDepth 20000 in
theorem bw_2_155 : Cond.code yX4_swap cX4_swap 4 none ∈ bg := bg_in2 (List.mem_of_getElem? (i := 155) (rfl)) (by rfl)
set_option maxRecDepth 20000 in
theorem bw_2_156 : Cond.methodLink RX4 96 yX4_sees ∈ bg := bg_in2 (List.mem_of_getElem? (i := 156) (by decide +kernel)) (by rfl)
set_option maxRecDepth 20000 in
theorem bw_2_157 : Cond.methodLink RL 40 yX4_run ∈ bg := bg_in2 (List.mem_of_getElem? (i := 157) (by decide +kernel)) (by rfl)
set_option maxRecDepth 20000 in
theorem bw_2_158 : Cond.instanceMethod yX4_run ∈ bg := bg_in2 (List.mem_of_getElem? (i := 158) (by decide +kernel)) (by rfl)
set_option maxRecDepth 20000 in
theorem bw_2_159 : Cond.selects RX4 yX4_run yX4_run ∈ bg := bg_in2 (List.mem_of_getElem? (i := 159) (by decide +kernel)) (by rfl)
set_option maxRecDepth 20000 in
theorem bw_2_160 : Cond.code yX4_run cX4_run 4 (some .int) ∈ bg := bg_in2 (List.mem_of_getElem? (i := 160) (rfl)) (by rfl)
set_option maxRecDepth 20000 in
theorem bw_2_161 : Cond.methodLink RX4 100 yX4_step ∈ bg := bg_in2 (List.mem_of_getElem? (i := 161) (by decide +kernel)) (by rfl)
set_option maxRecDepth 20000 in
theorem bw_2_162 : Cond.methodLink RL 61 yX4_register ∈ bg := bg_in2 (List.mem_of_getElem? (i := 162) (by decide +kernel)) (by rfl)
set_option maxRecDepth 20000 in
theorem bw_2_163 : Cond.instanceMethod yX4_register ∈ bg := bg_in2 (List.mem_of_getElem? (i := 163) (by decide +kernel)) (by rfl)
set_option maxRecDepth 20000 in
theorem bw_2_164 : Cond.selects RX4 yX4_register yX4_register ∈ bg := bg_in2 (List.mem_of_getElem? (i := 164) (by decide +kernel)) (by rfl)
set_option maxRecDepth 20000 in
theorem bw_2_165 : Cond.code yX4_register cX4_register 3 (some .int) ∈ bg := bg_in2 (List.mem_of_getElem? (i := 165) (rfl)) (by rfl)
set_option maxRecDepth 20000 in
theorem bw_2_166 : Cond.methodLink RL 65 yX4_place ∈ bg := bg_in2 (List.mem_of_getElem? (i := 166) (by decide +kernel)) (by rfl)
set_option maxRecDepth 20000 in
theorem bw_2_167 : Cond.instanceMethod yX4_place ∈ bg := bg_in2 (List.mem_of_getElem? (i := 167) (by decide +kernel)) (by rfl)
set_option maxRecDepth 20000 in
theorem bw_2_168 : Cond.selects RX4 yX4_place yX4_place ∈ bg := bg_in2 (List.mem_of_getElem? (i := 168) (by decide +kernel)) (by rfl)
set_option maxRecDepth 20000 in
theorem bw_2_169 : Cond.code yX4_place cX4_place 2 (some .int) ∈ bg := bg_in2 (List.mem_of_getElem? (i := 169) (rfl)) (by rfl)
set_option maxRecDepth 20000 in
theorem bw_2_170 : Cond.methodLink RL 69 yX4_pending ∈ bg := bg_in2 (List.mem_of_getElem? (i := 170) (by decide +kernel)) (by rfl)
set_option maxRecDepth 20000 in
theorem bw_2_171 : Cond.instanceMethod yX4_pending ∈ bg := bg_in2 (List.mem_of_getElem? (i := 171) (by decide +kernel)) (by rfl)
set_option maxRecDepth 20000 in
theorem bw_2_172 : Cond.selects RX4 yX4_pending yX4_pending ∈ bg := bg_in2 (List.mem_of_getElem? (i := 172) (by decide +kernel)) (by rfl)
set_option maxRecDepth 20000 in
theorem bw_2_173 : Cond.code yX4_pending cX4_pending 2 (some .int) ∈ bg := bg_in2 (List.mem_of_getElem? (i := 173) (rfl)) (by rfl)
set_option maxRecDepth 20000 in
theorem bw_2_174 : Cond.methodLink RL 74 yX4_entry ∈ bg := bg_in2 (List.mem_of_getElem? (i := 174) (by decide +kernel)) (by rfl)
set_option maxRecDepth 20000 in
theorem bw_2_175 : Cond.instanceMethod yX4_entry ∈ bg := bg_in2 (List.mem_of_getElem? (i := 175) (by decide +kernel)) (by rfl)
set_option maxRecDepth 20000 in
theorem bw_2_176 : Cond.selects RX4 yX4_entry yX4_entry ∈ bg := bg_in2 (List.mem_of_getElem? (i := 176) (by decide +kernel)) (by rfl)
set_option maxRecDepth 20000 in
theorem bw_2_177 : Cond.code yX4_entry cX4_entry 5 (some .int) ∈ bg := bg_in2 (List.mem_of_getElem? (i := 177) (rfl)) (by rfl)
set_option maxRecDepth 20000 in
theorem bw_2_178 : Cond.methodLink RL 82 yX4_memory ∈ bg := bg_in2 (List.mem_of_getElem? (i := 178) (by decide +kernel)) (by rfl)
set_option maxRecDepth 20000 in
theorem bw_2_179 : Cond.instanceMethod yX4_memory ∈ bg := bg_in2 (List.mem_of_getElem? (i := 179) (by decide +kernel)) (by rfl)
set_option maxRecDepth 20000 in
theorem bw_2_180 : Cond.selects RX4 yX4_memory yX4_memory ∈ bg := bg_in2 (List.mem_of_getElem? (i := 180) (by decide +kernel)) (by rfl)
set_option maxRecDepth 20000 in
theorem bw_2_181 : Cond.code yX4_memory cX4_memory 2 (some .int) ∈ bg := bg_in2 (List.mem_of_getElem? (i := 181) (rfl)) (by rfl)
set_option maxRecDepth 20000 in
theorem bw_2_182 : Cond.methodLink RL 86 yX4_storage ∈ bg := bg_in2 (List.mem_of_getElem? (i := 182) (by decide +kernel)) (by rfl)
set_option maxRecDepth 20000 in
theorem bw_2_183 : Cond.instanceMethod yX4_storage ∈ bg := bg_in2 (List.mem_of_getElem? (i := 183) (by decide +kernel)) (by rfl)
set_option maxRecDepth 20000 in
theorem bw_2_184 : Cond.selects RX4 yX4_storage yX4_storage ∈ bg := bg_in2 (List.mem_of_getElem? (i := 184) (by decide +kernel)) (by rfl)
set_option maxRecDepth 20000 in
theorem bw_2_185 : Cond.code yX4_storage cX4_storage 2 (some .int) ∈ bg := bg_in2 (List.mem_of_getElem? (i := 185) (rfl)) (by rfl)
set_option maxRecDepth 20000 in
theorem bw_2_186 : Cond.methodLink RL 95 yX4_cores ∈ bg := bg_in2 (List.mem_of_getElem? (i := 186) (by decide +kernel)) (by rfl)
set_option maxRecDepth 20000 in
theorem bw_2_187 : Cond.instanceMethod yX4_cores ∈ bg := bg_in2 (List.mem_of_getElem? (i := 187) (by decide +kernel)) (by rfl)
set_option maxRecDepth 20000 in
theorem bw_2_188 : Cond.selects RX4 yX4_cores yX4_cores ∈ bg := bg_in2 (List.mem_of_getElem? (i := 188) (by decide +kernel)) (by rfl)
set_option maxRecDepth 20000 in
theorem bw_2_189 : Cond.code yX4_cores cX4_cores 1 (some .int) ∈ bg := bg_in2 (List.mem_of_getElem? (i := 189) (rfl)) (by rfl)
set_option maxRecDepth 20000 in
theorem bw_s_0 : Cond.selects RX3 yX3_isCore yX3_isCore ∈ bg := bg_sel (y := yX3_isCore) (n := 2) (List.mem_of_getElem? (i := 0) (by decide +kernel))
set_option maxRecDepth 20000 in
theorem bw_s_1 : Cond.selects RX1 yX1_setInstruction yX1_setInstruction ∈ bg := bg_sel (y := yX1_setInstruction) (n := 8) (List.mem_of_getElem? (i := 1) (by decide +kernel))
set_option maxRecDepth 20000 in
theorem bw_s_2 : Cond.selects RX1 yX1_doInstruction yX1_doInstruction ∈ bg := bg_sel (y := yX1_doInstruction) (n := 8) (List.mem_of_getElem? (i := 2) (by decide +kernel))
set_option maxRecDepth 20000 in
theorem bw_s_3 : Cond.selects RX1 yX1_mustWait yX1_mustWait ∈ bg := bg_sel (y := yX1_mustWait) (n := 8) (List.mem_of_getElem? (i := 3) (by decide +kernel))
set_option maxRecDepth 20000 in
theorem bw_s_4 : Cond.selects RX0 yX0_isFull yX0_isFull ∈ bg := bg_sel (y := yX0_isFull) (n := 4) (List.mem_of_getElem? (i := 4) (by decide +kernel))
set_option maxRecDepth 20000 in
theorem bw_s_5 : Cond.selects RX1 yX1_nextPlace yX1_nextPlace ∈ bg := bg_sel (y := yX1_nextPlace) (n := 8) (List.mem_of_getElem? (i := 5) (by decide +kernel))
set_option maxRecDepth 20000 in
theorem bw_s_6 : Cond.selects RX1 yX1_perform yX1_perform ∈ bg := bg_sel (y := yX1_perform) (n := 8) (List.mem_of_getElem? (i := 6) (by decide +kernel))
set_option maxRecDepth 20000 in
theorem bw_s_7 : Cond.selects RX0 yX0_newestValue yX0_newestValue ∈ bg := bg_sel (y := yX0_newestValue) (n := 4) (List.mem_of_getElem? (i := 7) (by decide +kernel))
set_option maxRecDepth 20000 in
theorem bw_s_8 : Cond.selects RX0 yX0_append yX0_append ∈ bg := bg_sel (y := yX0_append) (n := 4) (List.mem_of_getElem? (i := 8) (by decide +kernel))
set_option maxRecDepth 20000 in
theorem bw_s_9 : Cond.selects RX1 yX1_swap yX1_swap ∈ bg := bg_sel (y := yX1_swap) (n := 8) (List.mem_of_getElem? (i := 9) (by decide +kernel))
set_option maxRecDepth 20000 in
theorem bw_s_10 : Cond.selects RX2 yX2_write yX2_write ∈ bg := bg_sel (y := yX2_write) (n := 3) (List.mem_of_getElem? (i := 10) (by decide +kernel))
set_option maxRecDepth 20000 in
theorem bw_s_11 : Cond.selects RX3 yX3_isEntry yX3_isEntry ∈ bg := bg_sel (y := yX3_isEntry) (n := 2) (List.mem_of_getElem? (i := 11) (by decide +kernel))
set_option maxRecDepth 20000 in
theorem bw_s_12 : Cond.selects RX0 yX0_mayLeave yX0_mayLeave ∈ bg := bg_sel (y := yX0_mayLeave) (n := 4) (List.mem_of_getElem? (i := 12) (by decide +kernel))
set_option maxRecDepth 20000 in
theorem bw_s_13 : Cond.selects RX0 yX0_letsPass yX0_letsPass ∈ bg := bg_sel (y := yX0_letsPass) (n := 4) (List.mem_of_getElem? (i := 13) (by decide +kernel))
set_option maxRecDepth 20000 in
theorem bw_s_14 : Cond.selects RX0 yX0_lineOf yX0_lineOf ∈ bg := bg_sel (y := yX0_lineOf) (n := 4) (List.mem_of_getElem? (i := 14) (by decide +kernel))
set_option maxRecDepth 20000 in
theorem bw_s_15 : Cond.selects RX0 yX0_letOut yX0_letOut ∈ bg := bg_sel (y := yX0_letOut) (n := 4) (List.mem_of_getElem? (i := 15) (by decide +kernel))
set_option maxRecDepth 20000 in
theorem bw_s_16 : Cond.selects RX2 yX2_writeBack yX2_writeBack ∈ bg := bg_sel (y := yX2_writeBack) (n := 3) (List.mem_of_getElem? (i := 16) (by decide +kernel))
set_option maxRecDepth 20000 in
theorem bw_s_17 : Cond.selects RX0 yX0_remove yX0_remove ∈ bg := bg_sel (y := yX0_remove) (n := 4) (List.mem_of_getElem? (i := 17) (by decide +kernel))
set_option maxRecDepth 20000 in
theorem bw_s_18 : Cond.selects RX2 yX2_fallBackToStorage yX2_fallBackToStorage ∈ bg := bg_sel (y := yX2_fallBackToStorage) (n := 3) (List.mem_of_getElem? (i := 18) (by decide +kernel))
set_option maxRecDepth 20000 in
theorem bw_s_19 : Cond.selects RX1 yX1_beginAgain yX1_beginAgain ∈ bg := bg_sel (y := yX1_beginAgain) (n := 8) (List.mem_of_getElem? (i := 19) (by decide +kernel))
set_option maxRecDepth 20000 in
theorem bw_s_20 : Cond.selects RX4 yX4_isCore yX4_isCore ∈ bg := bg_sel (y := yX4_isCore) (n := 18) (List.mem_of_getElem? (i := 20) (by decide +kernel))
set_option maxRecDepth 20000 in
theorem bw_s_21 : Cond.selects RX4 yX4_writeBack yX4_writeBack ∈ bg := bg_sel (y := yX4_writeBack) (n := 18) (List.mem_of_getElem? (i := 21) (by decide +kernel))
set_option maxRecDepth 20000 in
theorem bw_s_22 : Cond.selects RX4 yX4_passes yX4_passes ∈ bg := bg_sel (y := yX4_passes) (n := 18) (List.mem_of_getElem? (i := 22) (by decide +kernel))
set_option maxRecDepth 20000 in
theorem bw_s_23 : Cond.selects RX4 yX4_lineOf yX4_lineOf ∈ bg := bg_sel (y := yX4_lineOf) (n := 18) (List.mem_of_getElem? (i := 23) (by decide +kernel))
set_option maxRecDepth 20000 in
theorem bw_s_24 : Cond.selects RX4 yX4_store yX4_store ∈ bg := bg_sel (y := yX4_store) (n := 18) (List.mem_of_getElem? (i := 24) (by decide +kernel))
set_option maxRecDepth 20000 in
theorem bw_s_25 : Cond.selects RX4 yX4_append yX4_append ∈ bg := bg_sel (y := yX4_append) (n := 18) (List.mem_of_getElem? (i := 25) (by decide +kernel))
set_option maxRecDepth 20000 in
theorem bw_s_26 : Cond.selects RX4 yX4_swap yX4_swap ∈ bg := bg_sel (y := yX4_swap) (n := 18) (List.mem_of_getElem? (i := 26) (by decide +kernel))
theorem inX0 : ∀ w ∈ u_ws RX0 TX0 4, w ∈ bg := by
  have e : u_ws RX0 TX0 4 = [Cond.laysFinal "StoreBufferCores$Buffer" "StoreBufferCores$Buffer" "kinds" "[I", Cond.laysFinal "StoreBufferCores$Buffer" "StoreBufferCores$Buffer" "targets" "[I", Cond.laysFinal "StoreBufferCores$Buffer" "StoreBufferCores$Buffer" "values" "[I", Cond.lays "StoreBufferCores$Buffer" "StoreBufferCores$Buffer" "count" "I"] := by decide +kernel
  rw [e]
  intro w h
  simp only [List.mem_cons, List.not_mem_nil, or_false] at h
  rcases h with rfl | rfl | rfl | rfl
  · exact bw_1_58
  · exact bw_1_60
  · exact bw_1_62
  · exact bw_1_64
theorem inX1 : ∀ w ∈ u_ws RX1 TX1 8, w ∈ bg := by
  have e : u_ws RX1 TX1 8 = [Cond.laysFinal "StoreBufferCores$Core" "StoreBufferCores$Core" "registers" "[I", Cond.laysFinal "StoreBufferCores$Core" "StoreBufferCores$Core" "codes" "[I", Cond.laysFinal "StoreBufferCores$Core" "StoreBufferCores$Core" "xs" "[I", Cond.laysFinal "StoreBufferCores$Core" "StoreBufferCores$Core" "ys" "[I", Cond.laysFinal "StoreBufferCores$Core" "StoreBufferCores$Core" "numbers" "[I", Cond.laysFinal "StoreBufferCores$Core" "StoreBufferCores$Core" "buffer" "LStoreBufferCores$Buffer;", Cond.lays "StoreBufferCores$Core" "StoreBufferCores$Core" "pc" "I", Cond.lays "StoreBufferCores$Core" "StoreBufferCores$Core" "recoveryEntry" "I"] := by decide +kernel
  rw [e]
  intro w h
  simp only [List.mem_cons, List.not_mem_nil, or_false] at h
  rcases h with rfl | rfl | rfl | rfl | rfl | rfl | rfl | rfl
  · exact bw_1_79
  · exact bw_1_81
  · exact bw_1_83
  · exact bw_1_85
  · exact bw_1_87
  · exact bw_1_89
  · exact bw_1_91
  · exact bw_1_93
theorem inX2 : ∀ w ∈ u_ws RX2 TX2 3, w ∈ bg := by
  have e : u_ws RX2 TX2 3 = [Cond.laysFinal "StoreBufferCores$SharedMemory" "StoreBufferCores$SharedMemory" "words" "[I", Cond.laysFinal "StoreBufferCores$SharedMemory" "StoreBufferCores$SharedMemory" "stored" "[I", Cond.laysFinal "StoreBufferCores$SharedMemory" "StoreBufferCores$SharedMemory" "unwritten" "[Z"] := by decide +kernel
  rw [e]
  intro w h
  simp only [List.mem_cons, List.not_mem_nil, or_false] at h
  rcases h with rfl | rfl | rfl
  · exact bw_1_27
  · exact bw_1_29
  · exact bw_1_31
theorem inX3 : ∀ w ∈ u_ws RX3 TX3 2, w ∈ bg := by
  have e : u_ws RX3 TX3 2 = [Cond.laysFinal "StoreBufferCores" "StoreBufferCores" "shared" "LStoreBufferCores$SharedMemory;", Cond.laysFinal "StoreBufferCores" "StoreBufferCores" "row" "[LStoreBufferCores$Core;"] := by decide +kernel
  rw [e]
  intro w h
  simp only [List.mem_cons, List.not_mem_nil, or_false] at h
  rcases h with rfl | rfl
  · exact bw_1_98
  · exact bw_1_100
theorem inX4 : ∀ w ∈ u_ws RX4 TX4 18, w ∈ bg := by
  have e : u_ws RX4 TX4 18 = [Cond.laysFinal "StoreBufferCoresModel" "StoreBufferCoresModel" "cores" "I", Cond.laysFinal "StoreBufferCoresModel" "StoreBufferCoresModel" "room" "I", Cond.laysFinal "StoreBufferCoresModel" "StoreBufferCoresModel" "codes" "[I", Cond.laysFinal "StoreBufferCoresModel" "StoreBufferCoresModel" "firsts" "[I", Cond.laysFinal "StoreBufferCoresModel" "StoreBufferCoresModel" "seconds" "[I", Cond.laysFinal "StoreBufferCoresModel" "StoreBufferCoresModel" "numbers" "[I", Cond.laysFinal "StoreBufferCoresModel" "StoreBufferCoresModel" "registers" "[I", Cond.laysFinal "StoreBufferCoresModel" "StoreBufferCoresModel" "place" "[I", Cond.laysFinal "StoreBufferCoresModel" "StoreBufferCoresModel" "recovery" "[I", Cond.laysFinal "StoreBufferCoresModel" "StoreBufferCoresModel" "held" "[I", Cond.laysFinal "StoreBufferCoresModel" "StoreBufferCoresModel" "kind" "[I", Cond.laysFinal "StoreBufferCoresModel" "StoreBufferCoresModel" "target" "[I", Cond.laysFinal "StoreBufferCoresModel" "StoreBufferCoresModel" "value" "[I", Cond.laysFinal "StoreBufferCoresModel" "StoreBufferCoresModel" "memory" "[I", Cond.laysFinal "StoreBufferCoresModel" "StoreBufferCoresModel" "storage" "[I", Cond.lays "StoreBufferCoresModel" "StoreBufferCoresModel" "time" "I", Cond.laysFinal "StoreBufferCoresModel" "StoreBufferCoresModel" "putAt" "[I", Cond.laysFinal "StoreBufferCoresModel" "StoreBufferCoresModel" "backAt" "[I"] := by decide +kernel
  rw [e]
  intro w h
  simp only [List.mem_cons, List.not_mem_nil, or_false] at h
  rcases h with rfl | rfl | rfl | rfl | rfl | rfl | rfl | rfl | rfl | rfl | rfl | rfl | rfl | rfl | rfl | rfl | rfl | rfl
  · exact bw_2_54
  · exact bw_2_56
  · exact bw_2_58
  · exact bw_2_60
  · exact bw_2_62
  · exact bw_2_64
  · exact bw_2_66
  · exact bw_2_68
  · exact bw_2_70
  · exact bw_2_72
  · exact bw_2_74
  · exact bw_2_76
  · exact bw_2_78
  · exact bw_2_80
  · exact bw_2_82
  · exact bw_2_84
  · exact bw_2_86
  · exact bw_2_88
