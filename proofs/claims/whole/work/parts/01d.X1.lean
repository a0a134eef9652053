theorem dX1_init_0 : decode cX1_init 0 = .ok (.aload_n 0, 1) := by decide +kernel
theorem dX1_init_1 : decode cX1_init 1 = .ok (.invokespecial 3, 3) := by decide +kernel
theorem dX1_init_4 : decode cX1_init 4 = .ok (.aload_n 0, 1) := by decide +kernel
theorem dX1_init_5 : decode cX1_init 5 = .ok (.iconst 4, 1) := by decide +kernel
theorem dX1_init_6 : decode cX1_init 6 = .ok (.newarray .int, 2) := by decide +kernel
theorem dX1_init_8 : decode cX1_init 8 = .ok (.putfield 9, 3) := by decide +kernel
theorem dX1_init_11 : decode cX1_init 11 = .ok (.aload_n 0, 1) := by decide +kernel
theorem dX1_init_12 : decode cX1_init 12 = .ok (.bipush 24, 2) := by decide +kernel
theorem dX1_init_14 : decode cX1_init 14 = .ok (.newarray .int, 2) := by decide +kernel
theorem dX1_init_16 : decode cX1_init 16 = .ok (.putfield 15, 3) := by decide +kernel
theorem dX1_init_19 : decode cX1_init 19 = .ok (.aload_n 0, 1) := by decide +kernel
theorem dX1_init_20 : decode cX1_init 20 = .ok (.bipush 24, 2) := by decide +kernel
theorem dX1_init_22 : decode cX1_init 22 = .ok (.newarray .int, 2) := by decide +kernel
theorem dX1_init_24 : decode cX1_init 24 = .ok (.putfield 18, 3) := by decide +kernel
theorem dX1_init_27 : decode cX1_init 27 = .ok (.aload_n 0, 1) := by decide +kernel
theorem dX1_init_28 : decode cX1_init 28 = .ok (.bipush 24, 2) := by decide +kernel
theorem dX1_init_30 : decode cX1_init 30 = .ok (.newarray .int, 2) := by decide +kernel
theorem dX1_init_32 : decode cX1_init 32 = .ok (.putfield 21, 3) := by decide +kernel
theorem dX1_init_35 : decode cX1_init 35 = .ok (.aload_n 0, 1) := by decide +kernel
theorem dX1_init_36 : decode cX1_init 36 = .ok (.bipush 24, 2) := by decide +kernel
theorem dX1_init_38 : decode cX1_init 38 = .ok (.newarray .int, 2) := by decide +kernel
theorem dX1_init_40 : decode cX1_init 40 = .ok (.putfield 24, 3) := by decide +kernel
theorem dX1_init_43 : decode cX1_init 43 = .ok (.aload_n 0, 1) := by decide +kernel
theorem dX1_init_44 : decode cX1_init 44 = .ok (.new 27, 3) := by decide +kernel
theorem dX1_init_47 : decode cX1_init 47 = .ok (.dup, 1) := by decide +kernel
theorem dX1_init_48 : decode cX1_init 48 = .ok (.iload_n 1, 1) := by decide +kernel
theorem dX1_init_49 : decode cX1_init 49 = .ok (.invokespecial 29, 3) := by decide +kernel
theorem dX1_init_52 : decode cX1_init 52 = .ok (.putfield 32, 3) := by decide +kernel
theorem dX1_init_55 : decode cX1_init 55 = .ok (.return_, 1) := by decide +kernel
theorem dX1_setInstruction_0 : decode cX1_setInstruction 0 = .ok (.aload_n 0, 1) := by decide +kernel
theorem dX1_setInstruction_1 : decode cX1_setInstruction 1 = .ok (.getfield 15, 3) := by decide +kernel
theorem dX1_setInstruction_4 : decode cX1_setInstruction 4 = .ok (.iload_n 1, 1) := by decide +kernel
theorem dX1_setInstruction_5 : decode cX1_setInstruction 5 = .ok (.iload_n 2, 1) := by decide +kernel
theorem dX1_setInstruction_6 : decode cX1_setInstruction 6 = .ok (.iastore, 1) := by decide +kernel
theorem dX1_setInstruction_7 : decode cX1_setInstruction 7 = .ok (.aload_n 0, 1) := by decide +kernel
theorem dX1_setInstruction_8 : decode cX1_setInstruction 8 = .ok (.getfield 18, 3) := by decide +kernel
theorem dX1_setInstruction_11 : decode cX1_setInstruction 11 = .ok (.iload_n 1, 1) := by decide +kernel
theorem dX1_setInstruction_12 : decode cX1_setInstruction 12 = .ok (.iload_n 3, 1) := by decide +kernel
theorem dX1_setInstruction_13 : decode cX1_setInstruction 13 = .ok (.iastore, 1) := by decide +kernel
theorem dX1_setInstruction_14 : decode cX1_setInstruction 14 = .ok (.aload_n 0, 1) := by decide +kernel
theorem dX1_setInstruction_15 : decode cX1_setInstruction 15 = .ok (.getfield 21, 3) := by decide +kernel
theorem dX1_setInstruction_18 : decode cX1_setInstruction 18 = .ok (.iload_n 1, 1) := by decide +kernel
theorem dX1_setInstruction_19 : decode cX1_setInstruction 19 = .ok (.iload 4, 2) := by decide +kernel
theorem dX1_setInstruction_21 : decode cX1_setInstruction 21 = .ok (.iastore, 1) := by decide +kernel
theorem dX1_setInstruction_22 : decode cX1_setInstruction 22 = .ok (.aload_n 0, 1) := by decide +kernel
theorem dX1_setInstruction_23 : decode cX1_setInstruction 23 = .ok (.getfield 24, 3) := by decide +kernel
theorem dX1_setInstruction_26 : decode cX1_setInstruction 26 = .ok (.iload_n 1, 1) := by decide +kernel
theorem dX1_setInstruction_27 : decode cX1_setInstruction 27 = .ok (.iload 5, 2) := by decide +kernel
theorem dX1_setInstruction_29 : decode cX1_setInstruction 29 = .ok (.iastore, 1) := by decide +kernel
theorem dX1_setInstruction_30 : decode cX1_setInstruction 30 = .ok (.return_, 1) := by decide +kernel
theorem dX1_doInstruction_0 : decode cX1_doInstruction 0 = .ok (.aload_n 0, 1) := by decide +kernel
theorem dX1_doInstruction_1 : decode cX1_doInstruction 1 = .ok (.getfield 36, 3) := by decide +kernel
theorem dX1_doInstruction_4 : decode cX1_doInstruction 4 = .ok (.bipush 24, 2) := by decide +kernel
theorem dX1_doInstruction_6 : decode cX1_doInstruction 6 = .ok (.if_icmp .ge 15, 3) := by decide +kernel
theorem dX1_doInstruction_9 : decode cX1_doInstruction 9 = .ok (.aload_n 0, 1) := by decide +kernel
theorem dX1_doInstruction_10 : decode cX1_doInstruction 10 = .ok (.getfield 15, 3) := by decide +kernel
theorem dX1_doInstruction_13 : decode cX1_doInstruction 13 = .ok (.aload_n 0, 1) := by decide +kernel
theorem dX1_doInstruction_14 : decode cX1_doInstruction 14 = .ok (.getfield 36, 3) := by decide +kernel
theorem dX1_doInstruction_17 : decode cX1_doInstruction 17 = .ok (.iaload, 1) := by decide +kernel
theorem dX1_doInstruction_18 : decode cX1_doInstruction 18 = .ok (.ifCond .ne 5, 3) := by decide +kernel
theorem dX1_doInstruction_21 : decode cX1_doInstruction 21 = .ok (.iconst 2, 1) := by decide +kernel
theorem dX1_doInstruction_22 : decode cX1_doInstruction 22 = .ok (.ireturn, 1) := by decide +kernel
theorem dX1_doInstruction_23 : decode cX1_doInstruction 23 = .ok (.aload_n 0, 1) := by decide +kernel
theorem dX1_doInstruction_24 : decode cX1_doInstruction 24 = .ok (.aload_n 0, 1) := by decide +kernel
theorem dX1_doInstruction_25 : decode cX1_doInstruction 25 = .ok (.getfield 15, 3) := by decide +kernel
theorem dX1_doInstruction_28 : decode cX1_doInstruction 28 = .ok (.aload_n 0, 1) := by decide +kernel
theorem dX1_doInstruction_29 : decode cX1_doInstruction 29 = .ok (.getfield 36, 3) := by decide +kernel
theorem dX1_doInstruction_32 : decode cX1_doInstruction 32 = .ok (.iaload, 1) := by decide +kernel
theorem dX1_doInstruction_33 : decode cX1_doInstruction 33 = .ok (.invokevirtual 40, 3) := by decide +kernel
theorem dX1_doInstruction_36 : decode cX1_doInstruction 36 = .ok (.ifCond .eq 5, 3) := by decide +kernel
theorem dX1_doInstruction_39 : decode cX1_doInstruction 39 = .ok (.iconst 1, 1) := by decide +kernel
theorem dX1_doInstruction_40 : decode cX1_doInstruction 40 = .ok (.ireturn, 1) := by decide +kernel
theorem dX1_doInstruction_41 : decode cX1_doInstruction 41 = .ok (.aload_n 0, 1) := by decide +kernel
theorem dX1_doInstruction_42 : decode cX1_doInstruction 42 = .ok (.invokevirtual 44, 3) := by decide +kernel
theorem dX1_doInstruction_45 : decode cX1_doInstruction 45 = .ok (.istore_n 2, 1) := by decide +kernel
theorem dX1_doInstruction_46 : decode cX1_doInstruction 46 = .ok (.aload_n 0, 1) := by decide +kernel
theorem dX1_doInstruction_47 : decode cX1_doInstruction 47 = .ok (.aload_n 1, 1) := by decide +kernel
theorem dX1_doInstruction_48 : decode cX1_doInstruction 48 = .ok (.invokevirtual 48, 3) := by decide +kernel
theorem dX1_doInstruction_51 : decode cX1_doInstruction 51 = .ok (.aload_n 0, 1) := by decide +kernel
theorem dX1_doInstruction_52 : decode cX1_doInstruction 52 = .ok (.iload_n 2, 1) := by decide +kernel
theorem dX1_doInstruction_53 : decode cX1_doInstruction 53 = .ok (.putfield 36, 3) := by decide +kernel
theorem dX1_doInstruction_56 : decode cX1_doInstruction 56 = .ok (.iconst 0, 1) := by decide +kernel
theorem dX1_doInstruction_57 : decode cX1_doInstruction 57 = .ok (.ireturn, 1) := by decide +kernel
theorem dX1_mustWait_0 : decode cX1_mustWait 0 = .ok (.iload_n 1, 1) := by decide +kernel
theorem dX1_mustWait_1 : decode cX1_mustWait 1 = .ok (.tableswitch 67 3 9 #[43, 67, 51, 51, 43, 43, 43], 43) := by decide +kernel
theorem dX1_mustWait_44 : decode cX1_mustWait 44 = .ok (.aload_n 0, 1) := by decide +kernel
theorem dX1_mustWait_45 : decode cX1_mustWait 45 = .ok (.getfield 32, 3) := by decide +kernel
theorem dX1_mustWait_48 : decode cX1_mustWait 48 = .ok (.invokevirtual 52, 3) := by decide +kernel
theorem dX1_mustWait_51 : decode cX1_mustWait 51 = .ok (.ireturn, 1) := by decide +kernel
theorem dX1_mustWait_52 : decode cX1_mustWait 52 = .ok (.aload_n 0, 1) := by decide +kernel
theorem dX1_mustWait_53 : decode cX1_mustWait 53 = .ok (.getfield 32, 3) := by decide +kernel
theorem dX1_mustWait_56 : decode cX1_mustWait 56 = .ok (.getfield 56, 3) := by decide +kernel
theorem dX1_mustWait_59 : decode cX1_mustWait 59 = .ok (.ifCond .le 7, 3) := by decide +kernel
theorem dX1_mustWait_62 : decode cX1_mustWait 62 = .ok (.iconst 1, 1) := by decide +kernel
theorem dX1_mustWait_63 : decode cX1_mustWait 63 = .ok (.goto 4, 3) := by decide +kernel
theorem dX1_mustWait_66 : decode cX1_mustWait 66 = .ok (.iconst 0, 1) := by decide +kernel
theorem dX1_mustWait_67 : decode cX1_mustWait 67 = .ok (.ireturn, 1) := by decide +kernel
theorem dX1_mustWait_68 : decode cX1_mustWait 68 = .ok (.iconst 0, 1) := by decide +kernel
theorem dX1_mustWait_69 : decode cX1_mustWait 69 = .ok (.ireturn, 1) := by decide +kernel
theorem dX1_nextPlace_0 : decode cX1_nextPlace 0 = .ok (.aload_n 0, 1) := by decide +kernel
theorem dX1_nextPlace_1 : decode cX1_nextPlace 1 = .ok (.getfield 15, 3) := by decide +kernel
theorem dX1_nextPlace_4 : decode cX1_nextPlace 4 = .ok (.aload_n 0, 1) := by decide +kernel
theorem dX1_nextPlace_5 : decode cX1_nextPlace 5 = .ok (.getfield 36, 3) := by decide +kernel
theorem dX1_nextPlace_8 : decode cX1_nextPlace 8 = .ok (.iaload, 1) := by decide +kernel
theorem dX1_nextPlace_9 : decode cX1_nextPlace 9 = .ok (.bipush 10, 2) := by decide +kernel
theorem dX1_nextPlace_11 : decode cX1_nextPlace 11 = .ok (.if_icmp .ne 24, 3) := by decide +kernel
theorem dX1_nextPlace_14 : decode cX1_nextPlace 14 = .ok (.aload_n 0, 1) := by decide +kernel
theorem dX1_nextPlace_15 : decode cX1_nextPlace 15 = .ok (.getfield 9, 3) := by decide +kernel
theorem dX1_nextPlace_18 : decode cX1_nextPlace 18 = .ok (.aload_n 0, 1) := by decide +kernel
theorem dX1_nextPlace_19 : decode cX1_nextPlace 19 = .ok (.getfield 18, 3) := by decide +kernel
theorem dX1_nextPlace_22 : decode cX1_nextPlace 22 = .ok (.aload_n 0, 1) := by decide +kernel
theorem dX1_nextPlace_23 : decode cX1_nextPlace 23 = .ok (.getfield 36, 3) := by decide +kernel
theorem dX1_nextPlace_26 : decode cX1_nextPlace 26 = .ok (.iaload, 1) := by decide +kernel
theorem dX1_nextPlace_27 : decode cX1_nextPlace 27 = .ok (.iaload, 1) := by decide +kernel
theorem dX1_nextPlace_28 : decode cX1_nextPlace 28 = .ok (.ifCond .eq 7, 3) := by decide +kernel
theorem dX1_nextPlace_31 : decode cX1_nextPlace 31 = .ok (.iconst 1, 1) := by decide +kernel
theorem dX1_nextPlace_32 : decode cX1_nextPlace 32 = .ok (.goto 4, 3) := by decide +kernel
theorem dX1_nextPlace_35 : decode cX1_nextPlace 35 = .ok (.iconst 0, 1) := by decide +kernel
theorem dX1_nextPlace_36 : decode cX1_nextPlace 36 = .ok (.istore_n 1, 1) := by decide +kernel
theorem dX1_nextPlace_37 : decode cX1_nextPlace 37 = .ok (.iload_n 1, 1) := by decide +kernel
theorem dX1_nextPlace_38 : decode cX1_nextPlace 38 = .ok (.ifCond .eq 15, 3) := by decide +kernel
theorem dX1_nextPlace_41 : decode cX1_nextPlace 41 = .ok (.aload_n 0, 1) := by decide +kernel
theorem dX1_nextPlace_42 : decode cX1_nextPlace 42 = .ok (.getfield 24, 3) := by decide +kernel
theorem dX1_nextPlace_45 : decode cX1_nextPlace 45 = .ok (.aload_n 0, 1) := by decide +kernel
theorem dX1_nextPlace_46 : decode cX1_nextPlace 46 = .ok (.getfield 36, 3) := by decide +kernel
theorem dX1_nextPlace_49 : decode cX1_nextPlace 49 = .ok (.iaload, 1) := by decide +kernel
theorem dX1_nextPlace_50 : decode cX1_nextPlace 50 = .ok (.goto 9, 3) := by decide +kernel
theorem dX1_nextPlace_53 : decode cX1_nextPlace 53 = .ok (.aload_n 0, 1) := by decide +kernel
theorem dX1_nextPlace_54 : decode cX1_nextPlace 54 = .ok (.getfield 36, 3) := by decide +kernel
theorem dX1_nextPlace_57 : decode cX1_nextPlace 57 = .ok (.iconst 1, 1) := by decide +kernel
theorem dX1_nextPlace_58 : decode cX1_nextPlace 58 = .ok (.iadd, 1) := by decide +kernel
theorem dX1_nextPlace_59 : decode cX1_nextPlace 59 = .ok (.ireturn, 1) := by decide +kernel
theorem dX1_perform_0 : decode cX1_perform 0 = .ok (.aload_n 0, 1) := by decide +kernel
theorem dX1_perform_1 : decode cX1_perform 1 = .ok (.getfield 18, 3) := by decide +kernel
theorem dX1_perform_4 : decode cX1_perform 4 = .ok (.aload_n 0, 1) := by decide +kernel
theorem dX1_perform_5 : decode cX1_perform 5 = .ok (.getfield 36, 3) := by decide +kernel
theorem dX1_perform_8 : decode cX1_perform 8 = .ok (.iaload, 1) := by decide +kernel
theorem dX1_perform_9 : decode cX1_perform 9 = .ok (.istore_n 2, 1) := by decide +kernel
theorem dX1_perform_10 : decode cX1_perform 10 = .ok (.aload_n 0, 1) := by decide +kernel
theorem dX1_perform_11 : decode cX1_perform 11 = .ok (.getfield 21, 3) := by decide +kernel
theorem dX1_perform_14 : decode cX1_perform 14 = .ok (.aload_n 0, 1) := by decide +kernel
theorem dX1_perform_15 : decode cX1_perform 15 = .ok (.getfield 36, 3) := by decide +kernel
theorem dX1_perform_18 : decode cX1_perform 18 = .ok (.iaload, 1) := by decide +kernel
theorem dX1_perform_19 : decode cX1_perform 19 = .ok (.istore_n 3, 1) := by decide +kernel
theorem dX1_perform_20 : decode cX1_perform 20 = .ok (.aload_n 0, 1) := by decide +kernel
theorem dX1_perform_21 : decode cX1_perform 21 = .ok (.getfield 24, 3) := by decide +kernel
theorem dX1_perform_24 : decode cX1_perform 24 = .ok (.aload_n 0, 1) := by decide +kernel
theorem dX1_perform_25 : decode cX1_perform 25 = .ok (.getfield 36, 3) := by decide +kernel
theorem dX1_perform_28 : decode cX1_perform 28 = .ok (.iaload, 1) := by decide +kernel
theorem dX1_perform_29 : decode cX1_perform 29 = .ok (.istore 4, 2) := by decide +kernel
theorem dX1_perform_31 : decode cX1_perform 31 = .ok (.aload_n 0, 1) := by decide +kernel
theorem dX1_perform_32 : decode cX1_perform 32 = .ok (.getfield 9, 3) := by decide +kernel
theorem dX1_perform_35 : decode cX1_perform 35 = .ok (.iload_n 3, 1) := by decide +kernel
theorem dX1_perform_36 : decode cX1_perform 36 = .ok (.iaload, 1) := by decide +kernel
theorem dX1_perform_37 : decode cX1_perform 37 = .ok (.iload 4, 2) := by decide +kernel
theorem dX1_perform_39 : decode cX1_perform 39 = .ok (.iadd, 1) := by decide +kernel
theorem dX1_perform_40 : decode cX1_perform 40 = .ok (.bipush 31, 2) := by decide +kernel
theorem dX1_perform_42 : decode cX1_perform 42 = .ok (.iand, 1) := by decide +kernel
theorem dX1_perform_43 : decode cX1_perform 43 = .ok (.istore 5, 2) := by decide +kernel
theorem dX1_perform_45 : decode cX1_perform 45 = .ok (.aload_n 0, 1) := by decide +kernel
theorem dX1_perform_46 : decode cX1_perform 46 = .ok (.getfield 15, 3) := by decide +kernel
theorem dX1_perform_49 : decode cX1_perform 49 = .ok (.aload_n 0, 1) := by decide +kernel
theorem dX1_perform_50 : decode cX1_perform 50 = .ok (.getfield 36, 3) := by decide +kernel
theorem dX1_perform_53 : decode cX1_perform 53 = .ok (.iaload, 1) := by decide +kernel
theorem dX1_perform_54 : decode cX1_perform 54 = .ok (.tableswitch 183 1 9 #[50, 61, 86, 105, 127, 183, 138, 151, 167], 50) := by decide +kernel
theorem dX1_perform_104 : decode cX1_perform 104 = .ok (.aload_n 0, 1) := by decide +kernel
theorem dX1_perform_105 : decode cX1_perform 105 = .ok (.getfield 9, 3) := by decide +kernel
theorem dX1_perform_108 : decode cX1_perform 108 = .ok (.iload_n 2, 1) := by decide +kernel
theorem dX1_perform_109 : decode cX1_perform 109 = .ok (.iload 4, 2) := by decide +kernel
theorem dX1_perform_111 : decode cX1_perform 111 = .ok (.iastore, 1) := by decide +kernel
theorem dX1_perform_112 : decode cX1_perform 112 = .ok (.goto 125, 3) := by decide +kernel
theorem dX1_perform_115 : decode cX1_perform 115 = .ok (.aload_n 0, 1) := by decide +kernel
theorem dX1_perform_116 : decode cX1_perform 116 = .ok (.getfield 9, 3) := by decide +kernel
theorem dX1_perform_119 : decode cX1_perform 119 = .ok (.iload_n 2, 1) := by decide +kernel
theorem dX1_perform_120 : decode cX1_perform 120 = .ok (.aload_n 0, 1) := by decide +kernel
theorem dX1_perform_121 : decode cX1_perform 121 = .ok (.getfield 32, 3) := by decide +kernel
theorem dX1_perform_124 : decode cX1_perform 124 = .ok (.iload 5, 2) := by decide +kernel
theorem dX1_perform_126 : decode cX1_perform 126 = .ok (.aload_n 1, 1) := by decide +kernel
theorem dX1_perform_127 : decode cX1_perform 127 = .ok (.getfield 59, 3) := by decide +kernel
theorem dX1_perform_130 : decode cX1_perform 130 = .ok (.iload 5, 2) := by decide +kernel
theorem dX1_perform_132 : decode cX1_perform 132 = .ok (.iaload, 1) := by decide +kernel
theorem dX1_perform_133 : decode cX1_perform 133 = .ok (.invokevirtual 64, 3) := by decide +kernel
theorem dX1_perform_136 : decode cX1_perform 136 = .ok (.iastore, 1) := by decide +kernel
theorem dX1_perform_137 : decode cX1_perform 137 = .ok (.goto 100, 3) := by decide +kernel
theorem dX1_perform_140 : decode cX1_perform 140 = .ok (.aload_n 0, 1) := by decide +kernel
theorem dX1_perform_141 : decode cX1_perform 141 = .ok (.getfield 32, 3) := by decide +kernel
theorem dX1_perform_144 : decode cX1_perform 144 = .ok (.iconst 0, 1) := by decide +kernel
theorem dX1_perform_145 : decode cX1_perform 145 = .ok (.iload 5, 2) := by decide +kernel
theorem dX1_perform_147 : decode cX1_perform 147 = .ok (.aload_n 0, 1) := by decide +kernel
theorem dX1_perform_148 : decode cX1_perform 148 = .ok (.getfield 9, 3) := by decide +kernel
theorem dX1_perform_151 : decode cX1_perform 151 = .ok (.iload_n 2, 1) := by decide +kernel
theorem dX1_perform_152 : decode cX1_perform 152 = .ok (.iaload, 1) := by decide +kernel
theorem dX1_perform_153 : decode cX1_perform 153 = .ok (.invokevirtual 68, 3) := by decide +kernel
theorem dX1_perform_156 : decode cX1_perform 156 = .ok (.goto 81, 3) := by decide +kernel
theorem dX1_perform_159 : decode cX1_perform 159 = .ok (.aload_n 0, 1) := by decide +kernel
theorem dX1_perform_160 : decode cX1_perform 160 = .ok (.getfield 9, 3) := by decide +kernel
theorem dX1_perform_163 : decode cX1_perform 163 = .ok (.iload_n 2, 1) := by decide +kernel
theorem dX1_perform_164 : decode cX1_perform 164 = .ok (.aload_n 0, 1) := by decide +kernel
theorem dX1_perform_165 : decode cX1_perform 165 = .ok (.getfield 9, 3) := by decide +kernel
theorem dX1_perform_168 : decode cX1_perform 168 = .ok (.iload_n 2, 1) := by decide +kernel
theorem dX1_perform_169 : decode cX1_perform 169 = .ok (.iaload, 1) := by decide +kernel
theorem dX1_perform_170 : decode cX1_perform 170 = .ok (.aload_n 0, 1) := by decide +kernel
theorem dX1_perform_171 : decode cX1_perform 171 = .ok (.getfield 9, 3) := by decide +kernel
theorem dX1_perform_174 : decode cX1_perform 174 = .ok (.iload_n 3, 1) := by decide +kernel
theorem dX1_perform_175 : decode cX1_perform 175 = .ok (.iaload, 1) := by decide +kernel
theorem dX1_perform_176 : decode cX1_perform 176 = .ok (.iadd, 1) := by decide +kernel
theorem dX1_perform_177 : decode cX1_perform 177 = .ok (.iastore, 1) := by decide +kernel
theorem dX1_perform_178 : decode cX1_perform 178 = .ok (.goto 59, 3) := by decide +kernel
theorem dX1_perform_181 : decode cX1_perform 181 = .ok (.aload_n 0, 1) := by decide +kernel
theorem dX1_perform_182 : decode cX1_perform 182 = .ok (.iload 5, 2) := by decide +kernel
theorem dX1_perform_184 : decode cX1_perform 184 = .ok (.iload_n 2, 1) := by decide +kernel
theorem dX1_perform_185 : decode cX1_perform 185 = .ok (.aload_n 1, 1) := by decide +kernel
theorem dX1_perform_186 : decode cX1_perform 186 = .ok (.invokevirtual 72, 3) := by decide +kernel
theorem dX1_perform_189 : decode cX1_perform 189 = .ok (.goto 48, 3) := by decide +kernel
theorem dX1_perform_192 : decode cX1_perform 192 = .ok (.aload_n 0, 1) := by decide +kernel
theorem dX1_perform_193 : decode cX1_perform 193 = .ok (.getfield 32, 3) := by decide +kernel
theorem dX1_perform_196 : decode cX1_perform 196 = .ok (.iconst 3, 1) := by decide +kernel
theorem dX1_perform_197 : decode cX1_perform 197 = .ok (.iconst 0, 1) := by decide +kernel
theorem dX1_perform_198 : decode cX1_perform 198 = .ok (.iconst 0, 1) := by decide +kernel
theorem dX1_perform_199 : decode cX1_perform 199 = .ok (.invokevirtual 68, 3) := by decide +kernel
theorem dX1_perform_202 : decode cX1_perform 202 = .ok (.goto 35, 3) := by decide +kernel
theorem dX1_perform_205 : decode cX1_perform 205 = .ok (.aload_n 0, 1) := by decide +kernel
theorem dX1_perform_206 : decode cX1_perform 206 = .ok (.getfield 32, 3) := by decide +kernel
theorem dX1_perform_209 : decode cX1_perform 209 = .ok (.iconst 1, 1) := by decide +kernel
theorem dX1_perform_210 : decode cX1_perform 210 = .ok (.iload 5, 2) := by decide +kernel
theorem dX1_perform_212 : decode cX1_perform 212 = .ok (.iconst 4, 1) := by decide +kernel
theorem dX1_perform_213 : decode cX1_perform 213 = .ok (.idiv, 1) := by decide +kernel
theorem dX1_perform_214 : decode cX1_perform 214 = .ok (.iconst 0, 1) := by decide +kernel
theorem dX1_perform_215 : decode cX1_perform 215 = .ok (.invokevirtual 68, 3) := by decide +kernel
theorem dX1_perform_218 : decode cX1_perform 218 = .ok (.goto 19, 3) := by decide +kernel
theorem dX1_perform_221 : decode cX1_perform 221 = .ok (.aload_n 0, 1) := by decide +kernel
theorem dX1_perform_222 : decode cX1_perform 222 = .ok (.getfield 32, 3) := by decide +kernel
theorem dX1_perform_225 : decode cX1_perform 225 = .ok (.iconst 2, 1) := by decide +kernel
theorem dX1_perform_226 : decode cX1_perform 226 = .ok (.iload 5, 2) := by decide +kernel
theorem dX1_perform_228 : decode cX1_perform 228 = .ok (.iconst 4, 1) := by decide +kernel
theorem dX1_perform_229 : decode cX1_perform 229 = .ok (.idiv, 1) := by decide +kernel
theorem dX1_perform_230 : decode cX1_perform 230 = .ok (.iconst 0, 1) := by decide +kernel
theorem dX1_perform_231 : decode cX1_perform 231 = .ok (.invokevirtual 68, 3) := by decide +kernel
theorem dX1_perform_234 : decode cX1_perform 234 = .ok (.goto 3, 3) := by decide +kernel
theorem dX1_perform_237 : decode cX1_perform 237 = .ok (.return_, 1) := by decide +kernel
theorem dX1_swap_0 : decode cX1_swap 0 = .ok (.aload_n 3, 1) := by decide +kernel
theorem dX1_swap_1 : decode cX1_swap 1 = .ok (.getfield 59, 3) := by decide +kernel
theorem dX1_swap_4 : decode cX1_swap 4 = .ok (.iload_n 1, 1) := by decide +kernel
theorem dX1_swap_5 : decode cX1_swap 5 = .ok (.iaload, 1) := by decide +kernel
theorem dX1_swap_6 : decode cX1_swap 6 = .ok (.aload_n 0, 1) := by decide +kernel
theorem dX1_swap_7 : decode cX1_swap 7 = .ok (.getfield 9, 3) := by decide +kernel
theorem dX1_swap_10 : decode cX1_swap 10 = .ok (.iconst 0, 1) := by decide +kernel
theorem dX1_swap_11 : decode cX1_swap 11 = .ok (.iaload, 1) := by decide +kernel
theorem dX1_swap_12 : decode cX1_swap 12 = .ok (.if_icmp .ne 17, 3) := by decide +kernel
theorem dX1_swap_15 : decode cX1_swap 15 = .ok (.aload_n 3, 1) := by decide +kernel
theorem dX1_swap_16 : decode cX1_swap 16 = .ok (.iload_n 1, 1) := by decide +kernel
theorem dX1_swap_17 : decode cX1_swap 17 = .ok (.aload_n 0, 1) := by decide +kernel
theorem dX1_swap_18 : decode cX1_swap 18 = .ok (.getfield 9, 3) := by decide +kernel
theorem dX1_swap_21 : decode cX1_swap 21 = .ok (.iload_n 2, 1) := by decide +kernel
theorem dX1_swap_22 : decode cX1_swap 22 = .ok (.iaload, 1) := by decide +kernel
theorem dX1_swap_23 : decode cX1_swap 23 = .ok (.invokevirtual 76, 3) := by decide +kernel
theorem dX1_swap_26 : decode cX1_swap 26 = .ok (.goto 15, 3) := by decide +kernel
theorem dX1_swap_29 : decode cX1_swap 29 = .ok (.aload_n 0, 1) := by decide +kernel
theorem dX1_swap_30 : decode cX1_swap 30 = .ok (.getfield 9, 3) := by decide +kernel
theorem dX1_swap_33 : decode cX1_swap 33 = .ok (.iconst 0, 1) := by decide +kernel
theorem dX1_swap_34 : decode cX1_swap 34 = .ok (.aload_n 3, 1) := by decide +kernel
theorem dX1_swap_35 : decode cX1_swap 35 = .ok (.getfield 59, 3) := by decide +kernel
theorem dX1_swap_38 : decode cX1_swap 38 = .ok (.iload_n 1, 1) := by decide +kernel
theorem dX1_swap_39 : decode cX1_swap 39 = .ok (.iaload, 1) := by decide +kernel
theorem dX1_swap_40 : decode cX1_swap 40 = .ok (.iastore, 1) := by decide +kernel
theorem dX1_swap_41 : decode cX1_swap 41 = .ok (.return_, 1) := by decide +kernel
theorem dX1_beginAgain_0 : decode cX1_beginAgain 0 = .ok (.aload_n 0, 1) := by decide +kernel
theorem dX1_beginAgain_1 : decode cX1_beginAgain 1 = .ok (.getfield 32, 3) := by decide +kernel
theorem dX1_beginAgain_4 : decode cX1_beginAgain 4 = .ok (.iconst 0, 1) := by decide +kernel
theorem dX1_beginAgain_5 : decode cX1_beginAgain 5 = .ok (.putfield 56, 3) := by decide +kernel
theorem dX1_beginAgain_8 : decode cX1_beginAgain 8 = .ok (.iconst 0, 1) := by decide +kernel
theorem dX1_beginAgain_9 : decode cX1_beginAgain 9 = .ok (.istore_n 1, 1) := by decide +kernel
theorem dX1_beginAgain_10 : decode cX1_beginAgain 10 = .ok (.iload_n 1, 1) := by decide +kernel
theorem dX1_beginAgain_11 : decode cX1_beginAgain 11 = .ok (.iconst 4, 1) := by decide +kernel
theorem dX1_beginAgain_12 : decode cX1_beginAgain 12 = .ok (.if_icmp .ge 16, 3) := by decide +kernel
theorem dX1_beginAgain_15 : decode cX1_beginAgain 15 = .ok (.aload_n 0, 1) := by decide +kernel
theorem dX1_beginAgain_16 : decode cX1_beginAgain 16 = .ok (.getfield 9, 3) := by decide +kernel
theorem dX1_beginAgain_19 : decode cX1_beginAgain 19 = .ok (.iload_n 1, 1) := by decide +kernel
theorem dX1_beginAgain_20 : decode cX1_beginAgain 20 = .ok (.iconst 0, 1) := by decide +kernel
theorem dX1_beginAgain_21 : decode cX1_beginAgain 21 = .ok (.iastore, 1) := by decide +kernel
theorem dX1_beginAgain_22 : decode cX1_beginAgain 22 = .ok (.iinc 1 1, 3) := by decide +kernel
theorem dX1_beginAgain_25 : decode cX1_beginAgain 25 = .ok (.goto (-15), 3) := by decide +kernel
theorem dX1_beginAgain_28 : decode cX1_beginAgain 28 = .ok (.aload_n 0, 1) := by decide +kernel
theorem dX1_beginAgain_29 : decode cX1_beginAgain 29 = .ok (.aload_n 0, 1) := by decide +kernel
theorem dX1_beginAgain_30 : decode cX1_beginAgain 30 = .ok (.getfield 80, 3) := by decide +kernel
theorem dX1_beginAgain_33 : decode cX1_beginAgain 33 = .ok (.putfield 36, 3) := by decide +kernel
theorem dX1_beginAgain_36 : decode cX1_beginAgain 36 = .ok (.return_, 1) := by decide +kernel
