theorem dX4_init_0 : decode cX4_init 0 = .ok (.aload_n 0, 1) := by decide +kernel
theorem dX4_init_1 : decode cX4_init 1 = .ok (.invokespecial 1, 3) := by decide +kernel
theorem dX4_init_4 : decode cX4_init 4 = .ok (.aload_n 0, 1) := by decide +kernel
theorem dX4_init_5 : decode cX4_init 5 = .ok (.bipush 96, 2) := by decide +kernel
theorem dX4_init_7 : decode cX4_init 7 = .ok (.newarray .int, 2) := by decide +kernel
theorem dX4_init_9 : decode cX4_init 9 = .ok (.putfield 7, 3) := by decide +kernel
theorem dX4_init_12 : decode cX4_init 12 = .ok (.aload_n 0, 1) := by decide +kernel
theorem dX4_init_13 : decode cX4_init 13 = .ok (.bipush 96, 2) := by decide +kernel
theorem dX4_init_15 : decode cX4_init 15 = .ok (.newarray .int, 2) := by decide +kernel
theorem dX4_init_17 : decode cX4_init 17 = .ok (.putfield 13, 3) := by decide +kernel
theorem dX4_init_20 : decode cX4_init 20 = .ok (.aload_n 0, 1) := by decide +kernel
theorem dX4_init_21 : decode cX4_init 21 = .ok (.bipush 96, 2) := by decide +kernel
theorem dX4_init_23 : decode cX4_init 23 = .ok (.newarray .int, 2) := by decide +kernel
theorem dX4_init_25 : decode cX4_init 25 = .ok (.putfield 16, 3) := by decide +kernel
theorem dX4_init_28 : decode cX4_init 28 = .ok (.aload_n 0, 1) := by decide +kernel
theorem dX4_init_29 : decode cX4_init 29 = .ok (.bipush 96, 2) := by decide +kernel
theorem dX4_init_31 : decode cX4_init 31 = .ok (.newarray .int, 2) := by decide +kernel
theorem dX4_init_33 : decode cX4_init 33 = .ok (.putfield 19, 3) := by decide +kernel
theorem dX4_init_36 : decode cX4_init 36 = .ok (.aload_n 0, 1) := by decide +kernel
theorem dX4_init_37 : decode cX4_init 37 = .ok (.bipush 16, 2) := by decide +kernel
theorem dX4_init_39 : decode cX4_init 39 = .ok (.newarray .int, 2) := by decide +kernel
theorem dX4_init_41 : decode cX4_init 41 = .ok (.putfield 22, 3) := by decide +kernel
theorem dX4_init_44 : decode cX4_init 44 = .ok (.aload_n 0, 1) := by decide +kernel
theorem dX4_init_45 : decode cX4_init 45 = .ok (.iconst 4, 1) := by decide +kernel
theorem dX4_init_46 : decode cX4_init 46 = .ok (.newarray .int, 2) := by decide +kernel
theorem dX4_init_48 : decode cX4_init 48 = .ok (.putfield 25, 3) := by decide +kernel
theorem dX4_init_51 : decode cX4_init 51 = .ok (.aload_n 0, 1) := by decide +kernel
theorem dX4_init_52 : decode cX4_init 52 = .ok (.iconst 4, 1) := by decide +kernel
theorem dX4_init_53 : decode cX4_init 53 = .ok (.newarray .int, 2) := by decide +kernel
theorem dX4_init_55 : decode cX4_init 55 = .ok (.putfield 28, 3) := by decide +kernel
theorem dX4_init_58 : decode cX4_init 58 = .ok (.aload_n 0, 1) := by decide +kernel
theorem dX4_init_59 : decode cX4_init 59 = .ok (.iconst 4, 1) := by decide +kernel
theorem dX4_init_60 : decode cX4_init 60 = .ok (.newarray .int, 2) := by decide +kernel
theorem dX4_init_62 : decode cX4_init 62 = .ok (.putfield 31, 3) := by decide +kernel
theorem dX4_init_65 : decode cX4_init 65 = .ok (.aload_n 0, 1) := by decide +kernel
theorem dX4_init_66 : decode cX4_init 66 = .ok (.bipush 32, 2) := by decide +kernel
theorem dX4_init_68 : decode cX4_init 68 = .ok (.newarray .int, 2) := by decide +kernel
theorem dX4_init_70 : decode cX4_init 70 = .ok (.putfield 34, 3) := by decide +kernel
theorem dX4_init_73 : decode cX4_init 73 = .ok (.aload_n 0, 1) := by decide +kernel
theorem dX4_init_74 : decode cX4_init 74 = .ok (.bipush 32, 2) := by decide +kernel
theorem dX4_init_76 : decode cX4_init 76 = .ok (.newarray .int, 2) := by decide +kernel
theorem dX4_init_78 : decode cX4_init 78 = .ok (.putfield 37, 3) := by decide +kernel
theorem dX4_init_81 : decode cX4_init 81 = .ok (.aload_n 0, 1) := by decide +kernel
theorem dX4_init_82 : decode cX4_init 82 = .ok (.bipush 32, 2) := by decide +kernel
theorem dX4_init_84 : decode cX4_init 84 = .ok (.newarray .int, 2) := by decide +kernel
theorem dX4_init_86 : decode cX4_init 86 = .ok (.putfield 40, 3) := by decide +kernel
theorem dX4_init_89 : decode cX4_init 89 = .ok (.aload_n 0, 1) := by decide +kernel
theorem dX4_init_90 : decode cX4_init 90 = .ok (.bipush 32, 2) := by decide +kernel
theorem dX4_init_92 : decode cX4_init 92 = .ok (.newarray .int, 2) := by decide +kernel
theorem dX4_init_94 : decode cX4_init 94 = .ok (.putfield 43, 3) := by decide +kernel
theorem dX4_init_97 : decode cX4_init 97 = .ok (.aload_n 0, 1) := by decide +kernel
theorem dX4_init_98 : decode cX4_init 98 = .ok (.bipush 32, 2) := by decide +kernel
theorem dX4_init_100 : decode cX4_init 100 = .ok (.newarray .int, 2) := by decide +kernel
theorem dX4_init_102 : decode cX4_init 102 = .ok (.putfield 46, 3) := by decide +kernel
theorem dX4_init_105 : decode cX4_init 105 = .ok (.aload_n 0, 1) := by decide +kernel
theorem dX4_init_106 : decode cX4_init 106 = .ok (.bipush 32, 2) := by decide +kernel
theorem dX4_init_108 : decode cX4_init 108 = .ok (.newarray .int, 2) := by decide +kernel
theorem dX4_init_110 : decode cX4_init 110 = .ok (.putfield 49, 3) := by decide +kernel
theorem dX4_init_113 : decode cX4_init 113 = .ok (.aload_n 0, 1) := by decide +kernel
theorem dX4_init_114 : decode cX4_init 114 = .ok (.bipush 8, 2) := by decide +kernel
theorem dX4_init_116 : decode cX4_init 116 = .ok (.newarray .int, 2) := by decide +kernel
theorem dX4_init_118 : decode cX4_init 118 = .ok (.putfield 52, 3) := by decide +kernel
theorem dX4_init_121 : decode cX4_init 121 = .ok (.aload_n 0, 1) := by decide +kernel
theorem dX4_init_122 : decode cX4_init 122 = .ok (.iload_n 1, 1) := by decide +kernel
theorem dX4_init_123 : decode cX4_init 123 = .ok (.iconst 2, 1) := by decide +kernel
theorem dX4_init_124 : decode cX4_init 124 = .ok (.if_icmp .lt 12, 3) := by decide +kernel
theorem dX4_init_127 : decode cX4_init 127 = .ok (.iload_n 1, 1) := by decide +kernel
theorem dX4_init_128 : decode cX4_init 128 = .ok (.iconst 4, 1) := by decide +kernel
theorem dX4_init_129 : decode cX4_init 129 = .ok (.if_icmp .gt 7, 3) := by decide +kernel
theorem dX4_init_132 : decode cX4_init 132 = .ok (.iload_n 1, 1) := by decide +kernel
theorem dX4_init_133 : decode cX4_init 133 = .ok (.goto 4, 3) := by decide +kernel
theorem dX4_init_136 : decode cX4_init 136 = .ok (.iconst 2, 1) := by decide +kernel
theorem dX4_init_137 : decode cX4_init 137 = .ok (.putfield 55, 3) := by decide +kernel
theorem dX4_init_140 : decode cX4_init 140 = .ok (.aload_n 0, 1) := by decide +kernel
theorem dX4_init_141 : decode cX4_init 141 = .ok (.iload_n 2, 1) := by decide +kernel
theorem dX4_init_142 : decode cX4_init 142 = .ok (.iconst 1, 1) := by decide +kernel
theorem dX4_init_143 : decode cX4_init 143 = .ok (.if_icmp .lt 13, 3) := by decide +kernel
theorem dX4_init_146 : decode cX4_init 146 = .ok (.iload_n 2, 1) := by decide +kernel
theorem dX4_init_147 : decode cX4_init 147 = .ok (.bipush 8, 2) := by decide +kernel
theorem dX4_init_149 : decode cX4_init 149 = .ok (.if_icmp .gt 7, 3) := by decide +kernel
theorem dX4_init_152 : decode cX4_init 152 = .ok (.iload_n 2, 1) := by decide +kernel
theorem dX4_init_153 : decode cX4_init 153 = .ok (.goto 4, 3) := by decide +kernel
theorem dX4_init_156 : decode cX4_init 156 = .ok (.iconst 4, 1) := by decide +kernel
theorem dX4_init_157 : decode cX4_init 157 = .ok (.putfield 59, 3) := by decide +kernel
theorem dX4_init_160 : decode cX4_init 160 = .ok (.return_, 1) := by decide +kernel
theorem dX4_isCore_0 : decode cX4_isCore 0 = .ok (.iload_n 1, 1) := by decide +kernel
theorem dX4_isCore_1 : decode cX4_isCore 1 = .ok (.ifCond .lt 15, 3) := by decide +kernel
theorem dX4_isCore_4 : decode cX4_isCore 4 = .ok (.iload_n 1, 1) := by decide +kernel
theorem dX4_isCore_5 : decode cX4_isCore 5 = .ok (.aload_n 0, 1) := by decide +kernel
theorem dX4_isCore_6 : decode cX4_isCore 6 = .ok (.getfield 55, 3) := by decide +kernel
theorem dX4_isCore_9 : decode cX4_isCore 9 = .ok (.if_icmp .ge 7, 3) := by decide +kernel
theorem dX4_isCore_12 : decode cX4_isCore 12 = .ok (.iconst 1, 1) := by decide +kernel
theorem dX4_isCore_13 : decode cX4_isCore 13 = .ok (.goto 4, 3) := by decide +kernel
theorem dX4_isCore_16 : decode cX4_isCore 16 = .ok (.iconst 0, 1) := by decide +kernel
theorem dX4_isCore_17 : decode cX4_isCore 17 = .ok (.ireturn, 1) := by decide +kernel
theorem dX4_put_0 : decode cX4_put 0 = .ok (.aload_n 0, 1) := by decide +kernel
theorem dX4_put_1 : decode cX4_put 1 = .ok (.iload_n 1, 1) := by decide +kernel
theorem dX4_put_2 : decode cX4_put 2 = .ok (.invokevirtual 62, 3) := by decide +kernel
theorem dX4_put_5 : decode cX4_put 5 = .ok (.ifCond .eq 27, 3) := by decide +kernel
theorem dX4_put_8 : decode cX4_put 8 = .ok (.iload_n 2, 1) := by decide +kernel
theorem dX4_put_9 : decode cX4_put 9 = .ok (.ifCond .lt 23, 3) := by decide +kernel
theorem dX4_put_12 : decode cX4_put 12 = .ok (.iload_n 2, 1) := by decide +kernel
theorem dX4_put_13 : decode cX4_put 13 = .ok (.bipush 23, 2) := by decide +kernel
theorem dX4_put_15 : decode cX4_put 15 = .ok (.if_icmp .gt 17, 3) := by decide +kernel
theorem dX4_put_18 : decode cX4_put 18 = .ok (.iload_n 3, 1) := by decide +kernel
theorem dX4_put_19 : decode cX4_put 19 = .ok (.ifCond .lt 13, 3) := by decide +kernel
theorem dX4_put_22 : decode cX4_put 22 = .ok (.iload_n 3, 1) := by decide +kernel
theorem dX4_put_23 : decode cX4_put 23 = .ok (.bipush 10, 2) := by decide +kernel
theorem dX4_put_25 : decode cX4_put 25 = .ok (.if_icmp .gt 7, 3) := by decide +kernel
theorem dX4_put_28 : decode cX4_put 28 = .ok (.iconst 1, 1) := by decide +kernel
theorem dX4_put_29 : decode cX4_put 29 = .ok (.goto 4, 3) := by decide +kernel
theorem dX4_put_32 : decode cX4_put 32 = .ok (.iconst 0, 1) := by decide +kernel
theorem dX4_put_33 : decode cX4_put 33 = .ok (.istore 7, 2) := by decide +kernel
theorem dX4_put_35 : decode cX4_put 35 = .ok (.iload 7, 2) := by decide +kernel
theorem dX4_put_37 : decode cX4_put 37 = .ok (.ifCond .eq 43, 3) := by decide +kernel
theorem dX4_put_40 : decode cX4_put 40 = .ok (.iload 4, 2) := by decide +kernel
theorem dX4_put_42 : decode cX4_put 42 = .ok (.ifCond .lt 38, 3) := by decide +kernel
theorem dX4_put_45 : decode cX4_put 45 = .ok (.iload 4, 2) := by decide +kernel
theorem dX4_put_47 : decode cX4_put 47 = .ok (.iconst 3, 1) := by decide +kernel
theorem dX4_put_48 : decode cX4_put 48 = .ok (.if_icmp .gt 32, 3) := by decide +kernel
theorem dX4_put_51 : decode cX4_put 51 = .ok (.iload 5, 2) := by decide +kernel
theorem dX4_put_53 : decode cX4_put 53 = .ok (.ifCond .lt 27, 3) := by decide +kernel
theorem dX4_put_56 : decode cX4_put 56 = .ok (.iload 5, 2) := by decide +kernel
theorem dX4_put_58 : decode cX4_put 58 = .ok (.iconst 3, 1) := by decide +kernel
theorem dX4_put_59 : decode cX4_put 59 = .ok (.if_icmp .gt 21, 3) := by decide +kernel
theorem dX4_put_62 : decode cX4_put 62 = .ok (.iload_n 3, 1) := by decide +kernel
theorem dX4_put_63 : decode cX4_put 63 = .ok (.bipush 10, 2) := by decide +kernel
theorem dX4_put_65 : decode cX4_put 65 = .ok (.if_icmp .ne 17, 3) := by decide +kernel
theorem dX4_put_68 : decode cX4_put 68 = .ok (.iload 6, 2) := by decide +kernel
theorem dX4_put_70 : decode cX4_put 70 = .ok (.ifCond .lt 10, 3) := by decide +kernel
theorem dX4_put_73 : decode cX4_put 73 = .ok (.iload 6, 2) := by decide +kernel
theorem dX4_put_75 : decode cX4_put 75 = .ok (.bipush 23, 2) := by decide +kernel
theorem dX4_put_77 : decode cX4_put 77 = .ok (.if_icmp .le 5, 3) := by decide +kernel
theorem dX4_put_80 : decode cX4_put 80 = .ok (.iconst 0, 1) := by decide +kernel
theorem dX4_put_81 : decode cX4_put 81 = .ok (.ireturn, 1) := by decide +kernel
theorem dX4_put_82 : decode cX4_put 82 = .ok (.aload_n 0, 1) := by decide +kernel
theorem dX4_put_83 : decode cX4_put 83 = .ok (.getfield 7, 3) := by decide +kernel
theorem dX4_put_86 : decode cX4_put 86 = .ok (.bipush 24, 2) := by decide +kernel
theorem dX4_put_88 : decode cX4_put 88 = .ok (.iload_n 1, 1) := by decide +kernel
theorem dX4_put_89 : decode cX4_put 89 = .ok (.imul, 1) := by decide +kernel
theorem dX4_put_90 : decode cX4_put 90 = .ok (.iload_n 2, 1) := by decide +kernel
theorem dX4_put_91 : decode cX4_put 91 = .ok (.iadd, 1) := by decide +kernel
theorem dX4_put_92 : decode cX4_put 92 = .ok (.iload_n 3, 1) := by decide +kernel
theorem dX4_put_93 : decode cX4_put 93 = .ok (.iastore, 1) := by decide +kernel
theorem dX4_put_94 : decode cX4_put 94 = .ok (.aload_n 0, 1) := by decide +kernel
theorem dX4_put_95 : decode cX4_put 95 = .ok (.getfield 13, 3) := by decide +kernel
theorem dX4_put_98 : decode cX4_put 98 = .ok (.bipush 24, 2) := by decide +kernel
theorem dX4_put_100 : decode cX4_put 100 = .ok (.iload_n 1, 1) := by decide +kernel
theorem dX4_put_101 : decode cX4_put 101 = .ok (.imul, 1) := by decide +kernel
theorem dX4_put_102 : decode cX4_put 102 = .ok (.iload_n 2, 1) := by decide +kernel
theorem dX4_put_103 : decode cX4_put 103 = .ok (.iadd, 1) := by decide +kernel
theorem dX4_put_104 : decode cX4_put 104 = .ok (.iload 4, 2) := by decide +kernel
theorem dX4_put_106 : decode cX4_put 106 = .ok (.iastore, 1) := by decide +kernel
theorem dX4_put_107 : decode cX4_put 107 = .ok (.aload_n 0, 1) := by decide +kernel
theorem dX4_put_108 : decode cX4_put 108 = .ok (.getfield 16, 3) := by decide +kernel
theorem dX4_put_111 : decode cX4_put 111 = .ok (.bipush 24, 2) := by decide +kernel
theorem dX4_put_113 : decode cX4_put 113 = .ok (.iload_n 1, 1) := by decide +kernel
theorem dX4_put_114 : decode cX4_put 114 = .ok (.imul, 1) := by decide +kernel
theorem dX4_put_115 : decode cX4_put 115 = .ok (.iload_n 2, 1) := by decide +kernel
theorem dX4_put_116 : decode cX4_put 116 = .ok (.iadd, 1) := by decide +kernel
theorem dX4_put_117 : decode cX4_put 117 = .ok (.iload 5, 2) := by decide +kernel
theorem dX4_put_119 : decode cX4_put 119 = .ok (.iastore, 1) := by decide +kernel
theorem dX4_put_120 : decode cX4_put 120 = .ok (.aload_n 0, 1) := by decide +kernel
theorem dX4_put_121 : decode cX4_put 121 = .ok (.getfield 19, 3) := by decide +kernel
theorem dX4_put_124 : decode cX4_put 124 = .ok (.bipush 24, 2) := by decide +kernel
theorem dX4_put_126 : decode cX4_put 126 = .ok (.iload_n 1, 1) := by decide +kernel
theorem dX4_put_127 : decode cX4_put 127 = .ok (.imul, 1) := by decide +kernel
theorem dX4_put_128 : decode cX4_put 128 = .ok (.iload_n 2, 1) := by decide +kernel
theorem dX4_put_129 : decode cX4_put 129 = .ok (.iadd, 1) := by decide +kernel
theorem dX4_put_130 : decode cX4_put 130 = .ok (.iload 6, 2) := by decide +kernel
theorem dX4_put_132 : decode cX4_put 132 = .ok (.iastore, 1) := by decide +kernel
theorem dX4_put_133 : decode cX4_put 133 = .ok (.iconst 1, 1) := by decide +kernel
theorem dX4_put_134 : decode cX4_put 134 = .ok (.ireturn, 1) := by decide +kernel
theorem dX4_recovery_0 : decode cX4_recovery 0 = .ok (.aload_n 0, 1) := by decide +kernel
theorem dX4_recovery_1 : decode cX4_recovery 1 = .ok (.iload_n 1, 1) := by decide +kernel
theorem dX4_recovery_2 : decode cX4_recovery 2 = .ok (.invokevirtual 62, 3) := by decide +kernel
theorem dX4_recovery_5 : decode cX4_recovery 5 = .ok (.ifCond .eq 13, 3) := by decide +kernel
theorem dX4_recovery_8 : decode cX4_recovery 8 = .ok (.iload_n 2, 1) := by decide +kernel
theorem dX4_recovery_9 : decode cX4_recovery 9 = .ok (.ifCond .lt 9, 3) := by decide +kernel
theorem dX4_recovery_12 : decode cX4_recovery 12 = .ok (.iload_n 2, 1) := by decide +kernel
theorem dX4_recovery_13 : decode cX4_recovery 13 = .ok (.bipush 23, 2) := by decide +kernel
theorem dX4_recovery_15 : decode cX4_recovery 15 = .ok (.if_icmp .le 5, 3) := by decide +kernel
theorem dX4_recovery_18 : decode cX4_recovery 18 = .ok (.iconst 0, 1) := by decide +kernel
theorem dX4_recovery_19 : decode cX4_recovery 19 = .ok (.ireturn, 1) := by decide +kernel
theorem dX4_recovery_20 : decode cX4_recovery 20 = .ok (.aload_n 0, 1) := by decide +kernel
theorem dX4_recovery_21 : decode cX4_recovery 21 = .ok (.getfield 28, 3) := by decide +kernel
theorem dX4_recovery_24 : decode cX4_recovery 24 = .ok (.iload_n 1, 1) := by decide +kernel
theorem dX4_recovery_25 : decode cX4_recovery 25 = .ok (.iload_n 2, 1) := by decide +kernel
theorem dX4_recovery_26 : decode cX4_recovery 26 = .ok (.iastore, 1) := by decide +kernel
theorem dX4_recovery_27 : decode cX4_recovery 27 = .ok (.iconst 1, 1) := by decide +kernel
theorem dX4_recovery_28 : decode cX4_recovery 28 = .ok (.ireturn, 1) := by decide +kernel
theorem dX4_store_0 : decode cX4_store 0 = .ok (.aload_n 0, 1) := by decide +kernel
theorem dX4_store_1 : decode cX4_store 1 = .ok (.getfield 43, 3) := by decide +kernel
theorem dX4_store_4 : decode cX4_store 4 = .ok (.iload_n 1, 1) := by decide +kernel
theorem dX4_store_5 : decode cX4_store 5 = .ok (.iload_n 2, 1) := by decide +kernel
theorem dX4_store_6 : decode cX4_store 6 = .ok (.iastore, 1) := by decide +kernel
theorem dX4_store_7 : decode cX4_store 7 = .ok (.aload_n 0, 1) := by decide +kernel
theorem dX4_store_8 : decode cX4_store 8 = .ok (.dup, 1) := by decide +kernel
theorem dX4_store_9 : decode cX4_store 9 = .ok (.getfield 66, 3) := by decide +kernel
theorem dX4_store_12 : decode cX4_store 12 = .ok (.iconst 1, 1) := by decide +kernel
theorem dX4_store_13 : decode cX4_store 13 = .ok (.iadd, 1) := by decide +kernel
theorem dX4_store_14 : decode cX4_store 14 = .ok (.putfield 66, 3) := by decide +kernel
theorem dX4_store_17 : decode cX4_store 17 = .ok (.aload_n 0, 1) := by decide +kernel
theorem dX4_store_18 : decode cX4_store 18 = .ok (.getfield 49, 3) := by decide +kernel
theorem dX4_store_21 : decode cX4_store 21 = .ok (.iload_n 1, 1) := by decide +kernel
theorem dX4_store_22 : decode cX4_store 22 = .ok (.aload_n 0, 1) := by decide +kernel
theorem dX4_store_23 : decode cX4_store 23 = .ok (.getfield 66, 3) := by decide +kernel
theorem dX4_store_26 : decode cX4_store 26 = .ok (.iastore, 1) := by decide +kernel
theorem dX4_store_27 : decode cX4_store 27 = .ok (.return_, 1) := by decide +kernel
theorem dX4_writeBack_0 : decode cX4_writeBack 0 = .ok (.iconst 4, 1) := by decide +kernel
theorem dX4_writeBack_1 : decode cX4_writeBack 1 = .ok (.iload_n 1, 1) := by decide +kernel
theorem dX4_writeBack_2 : decode cX4_writeBack 2 = .ok (.imul, 1) := by decide +kernel
theorem dX4_writeBack_3 : decode cX4_writeBack 3 = .ok (.istore_n 2, 1) := by decide +kernel
theorem dX4_writeBack_4 : decode cX4_writeBack 4 = .ok (.iload_n 2, 1) := by decide +kernel
theorem dX4_writeBack_5 : decode cX4_writeBack 5 = .ok (.iconst 4, 1) := by decide +kernel
theorem dX4_writeBack_6 : decode cX4_writeBack 6 = .ok (.iload_n 1, 1) := by decide +kernel
theorem dX4_writeBack_7 : decode cX4_writeBack 7 = .ok (.imul, 1) := by decide +kernel
theorem dX4_writeBack_8 : decode cX4_writeBack 8 = .ok (.iconst 4, 1) := by decide +kernel
theorem dX4_writeBack_9 : decode cX4_writeBack 9 = .ok (.iadd, 1) := by decide +kernel
theorem dX4_writeBack_10 : decode cX4_writeBack 10 = .ok (.if_icmp .ge 21, 3) := by decide +kernel
theorem dX4_writeBack_13 : decode cX4_writeBack 13 = .ok (.aload_n 0, 1) := by decide +kernel
theorem dX4_writeBack_14 : decode cX4_writeBack 14 = .ok (.getfield 46, 3) := by decide +kernel
theorem dX4_writeBack_17 : decode cX4_writeBack 17 = .ok (.iload_n 2, 1) := by decide +kernel
theorem dX4_writeBack_18 : decode cX4_writeBack 18 = .ok (.aload_n 0, 1) := by decide +kernel
theorem dX4_writeBack_19 : decode cX4_writeBack 19 = .ok (.getfield 43, 3) := by decide +kernel
theorem dX4_writeBack_22 : decode cX4_writeBack 22 = .ok (.iload_n 2, 1) := by decide +kernel
theorem dX4_writeBack_23 : decode cX4_writeBack 23 = .ok (.iaload, 1) := by decide +kernel
theorem dX4_writeBack_24 : decode cX4_writeBack 24 = .ok (.iastore, 1) := by decide +kernel
theorem dX4_writeBack_25 : decode cX4_writeBack 25 = .ok (.iinc 2 1, 3) := by decide +kernel
theorem dX4_writeBack_28 : decode cX4_writeBack 28 = .ok (.goto (-24), 3) := by decide +kernel
theorem dX4_writeBack_31 : decode cX4_writeBack 31 = .ok (.aload_n 0, 1) := by decide +kernel
theorem dX4_writeBack_32 : decode cX4_writeBack 32 = .ok (.dup, 1) := by decide +kernel
theorem dX4_writeBack_33 : decode cX4_writeBack 33 = .ok (.getfield 66, 3) := by decide +kernel
theorem dX4_writeBack_36 : decode cX4_writeBack 36 = .ok (.iconst 1, 1) := by decide +kernel
theorem dX4_writeBack_37 : decode cX4_writeBack 37 = .ok (.iadd, 1) := by decide +kernel
theorem dX4_writeBack_38 : decode cX4_writeBack 38 = .ok (.putfield 66, 3) := by decide +kernel
theorem dX4_writeBack_41 : decode cX4_writeBack 41 = .ok (.aload_n 0, 1) := by decide +kernel
theorem dX4_writeBack_42 : decode cX4_writeBack 42 = .ok (.getfield 52, 3) := by decide +kernel
theorem dX4_writeBack_45 : decode cX4_writeBack 45 = .ok (.iload_n 1, 1) := by decide +kernel
theorem dX4_writeBack_46 : decode cX4_writeBack 46 = .ok (.aload_n 0, 1) := by decide +kernel
theorem dX4_writeBack_47 : decode cX4_writeBack 47 = .ok (.getfield 66, 3) := by decide +kernel
theorem dX4_writeBack_50 : decode cX4_writeBack 50 = .ok (.iastore, 1) := by decide +kernel
theorem dX4_writeBack_51 : decode cX4_writeBack 51 = .ok (.return_, 1) := by decide +kernel
theorem dX4_evict_0 : decode cX4_evict 0 = .ok (.iload_n 1, 1) := by decide +kernel
theorem dX4_evict_1 : decode cX4_evict 1 = .ok (.ifCond .lt 9, 3) := by decide +kernel
theorem dX4_evict_4 : decode cX4_evict 4 = .ok (.iload_n 1, 1) := by decide +kernel
theorem dX4_evict_5 : decode cX4_evict 5 = .ok (.bipush 7, 2) := by decide +kernel
theorem dX4_evict_7 : decode cX4_evict 7 = .ok (.if_icmp .le 5, 3) := by decide +kernel
theorem dX4_evict_10 : decode cX4_evict 10 = .ok (.iconst 0, 1) := by decide +kernel
theorem dX4_evict_11 : decode cX4_evict 11 = .ok (.ireturn, 1) := by decide +kernel
theorem dX4_evict_12 : decode cX4_evict 12 = .ok (.aload_n 0, 1) := by decide +kernel
theorem dX4_evict_13 : decode cX4_evict 13 = .ok (.iload_n 1, 1) := by decide +kernel
theorem dX4_evict_14 : decode cX4_evict 14 = .ok (.invokevirtual 69, 3) := by decide +kernel
theorem dX4_evict_17 : decode cX4_evict 17 = .ok (.iconst 1, 1) := by decide +kernel
theorem dX4_evict_18 : decode cX4_evict 18 = .ok (.ireturn, 1) := by decide +kernel
theorem dX4_dirty_0 : decode cX4_dirty 0 = .ok (.iload_n 1, 1) := by decide +kernel
theorem dX4_dirty_1 : decode cX4_dirty 1 = .ok (.ifCond .lt 9, 3) := by decide +kernel
theorem dX4_dirty_4 : decode cX4_dirty 4 = .ok (.iload_n 1, 1) := by decide +kernel
theorem dX4_dirty_5 : decode cX4_dirty 5 = .ok (.bipush 7, 2) := by decide +kernel
theorem dX4_dirty_7 : decode cX4_dirty 7 = .ok (.if_icmp .le 5, 3) := by decide +kernel
theorem dX4_dirty_10 : decode cX4_dirty 10 = .ok (.iconst 0, 1) := by decide +kernel
theorem dX4_dirty_11 : decode cX4_dirty 11 = .ok (.ireturn, 1) := by decide +kernel
theorem dX4_dirty_12 : decode cX4_dirty 12 = .ok (.iconst 0, 1) := by decide +kernel
theorem dX4_dirty_13 : decode cX4_dirty 13 = .ok (.istore_n 2, 1) := by decide +kernel
theorem dX4_dirty_14 : decode cX4_dirty 14 = .ok (.iconst 4, 1) := by decide +kernel
theorem dX4_dirty_15 : decode cX4_dirty 15 = .ok (.iload_n 1, 1) := by decide +kernel
theorem dX4_dirty_16 : decode cX4_dirty 16 = .ok (.imul, 1) := by decide +kernel
theorem dX4_dirty_17 : decode cX4_dirty 17 = .ok (.istore_n 3, 1) := by decide +kernel
theorem dX4_dirty_18 : decode cX4_dirty 18 = .ok (.iload_n 3, 1) := by decide +kernel
theorem dX4_dirty_19 : decode cX4_dirty 19 = .ok (.iconst 4, 1) := by decide +kernel
theorem dX4_dirty_20 : decode cX4_dirty 20 = .ok (.iload_n 1, 1) := by decide +kernel
theorem dX4_dirty_21 : decode cX4_dirty 21 = .ok (.imul, 1) := by decide +kernel
theorem dX4_dirty_22 : decode cX4_dirty 22 = .ok (.iconst 4, 1) := by decide +kernel
theorem dX4_dirty_23 : decode cX4_dirty 23 = .ok (.iadd, 1) := by decide +kernel
theorem dX4_dirty_24 : decode cX4_dirty 24 = .ok (.if_icmp .ge 34, 3) := by decide +kernel
theorem dX4_dirty_27 : decode cX4_dirty 27 = .ok (.iload_n 2, 1) := by decide +kernel
theorem dX4_dirty_28 : decode cX4_dirty 28 = .ok (.ifCond .ne 18, 3) := by decide +kernel
theorem dX4_dirty_31 : decode cX4_dirty 31 = .ok (.aload_n 0, 1) := by decide +kernel
theorem dX4_dirty_32 : decode cX4_dirty 32 = .ok (.getfield 49, 3) := by decide +kernel
theorem dX4_dirty_35 : decode cX4_dirty 35 = .ok (.iload_n 3, 1) := by decide +kernel
theorem dX4_dirty_36 : decode cX4_dirty 36 = .ok (.iaload, 1) := by decide +kernel
theorem dX4_dirty_37 : decode cX4_dirty 37 = .ok (.aload_n 0, 1) := by decide +kernel
theorem dX4_dirty_38 : decode cX4_dirty 38 = .ok (.getfield 52, 3) := by decide +kernel
theorem dX4_dirty_41 : decode cX4_dirty 41 = .ok (.iload_n 1, 1) := by decide +kernel
theorem dX4_dirty_42 : decode cX4_dirty 42 = .ok (.iaload, 1) := by decide +kernel
theorem dX4_dirty_43 : decode cX4_dirty 43 = .ok (.if_icmp .le 7, 3) := by decide +kernel
theorem dX4_dirty_46 : decode cX4_dirty 46 = .ok (.iconst 1, 1) := by decide +kernel
theorem dX4_dirty_47 : decode cX4_dirty 47 = .ok (.goto 4, 3) := by decide +kernel
theorem dX4_dirty_50 : decode cX4_dirty 50 = .ok (.iconst 0, 1) := by decide +kernel
theorem dX4_dirty_51 : decode cX4_dirty 51 = .ok (.istore_n 2, 1) := by decide +kernel
theorem dX4_dirty_52 : decode cX4_dirty 52 = .ok (.iinc 3 1, 3) := by decide +kernel
theorem dX4_dirty_55 : decode cX4_dirty 55 = .ok (.goto (-37), 3) := by decide +kernel
theorem dX4_dirty_58 : decode cX4_dirty 58 = .ok (.iload_n 2, 1) := by decide +kernel
theorem dX4_dirty_59 : decode cX4_dirty 59 = .ok (.ireturn, 1) := by decide +kernel
theorem dX4_crash_0 : decode cX4_crash 0 = .ok (.aload_n 0, 1) := by decide +kernel
theorem dX4_crash_1 : decode cX4_crash 1 = .ok (.dup, 1) := by decide +kernel
theorem dX4_crash_2 : decode cX4_crash 2 = .ok (.getfield 66, 3) := by decide +kernel
theorem dX4_crash_5 : decode cX4_crash 5 = .ok (.iconst 1, 1) := by decide +kernel
theorem dX4_crash_6 : decode cX4_crash 6 = .ok (.iadd, 1) := by decide +kernel
theorem dX4_crash_7 : decode cX4_crash 7 = .ok (.putfield 66, 3) := by decide +kernel
theorem dX4_crash_10 : decode cX4_crash 10 = .ok (.iconst 0, 1) := by decide +kernel
theorem dX4_crash_11 : decode cX4_crash 11 = .ok (.istore_n 1, 1) := by decide +kernel
theorem dX4_crash_12 : decode cX4_crash 12 = .ok (.iload_n 1, 1) := by decide +kernel
theorem dX4_crash_13 : decode cX4_crash 13 = .ok (.bipush 32, 2) := by decide +kernel
theorem dX4_crash_15 : decode cX4_crash 15 = .ok (.if_icmp .ge 21, 3) := by decide +kernel
theorem dX4_crash_18 : decode cX4_crash 18 = .ok (.aload_n 0, 1) := by decide +kernel
theorem dX4_crash_19 : decode cX4_crash 19 = .ok (.getfield 43, 3) := by decide +kernel
theorem dX4_crash_22 : decode cX4_crash 22 = .ok (.iload_n 1, 1) := by decide +kernel
theorem dX4_crash_23 : decode cX4_crash 23 = .ok (.aload_n 0, 1) := by decide +kernel
theorem dX4_crash_24 : decode cX4_crash 24 = .ok (.getfield 46, 3) := by decide +kernel
theorem dX4_crash_27 : decode cX4_crash 27 = .ok (.iload_n 1, 1) := by decide +kernel
theorem dX4_crash_28 : decode cX4_crash 28 = .ok (.iaload, 1) := by decide +kernel
theorem dX4_crash_29 : decode cX4_crash 29 = .ok (.iastore, 1) := by decide +kernel
theorem dX4_crash_30 : decode cX4_crash 30 = .ok (.iinc 1 1, 3) := by decide +kernel
theorem dX4_crash_33 : decode cX4_crash 33 = .ok (.goto (-21), 3) := by decide +kernel
theorem dX4_crash_36 : decode cX4_crash 36 = .ok (.iconst 0, 1) := by decide +kernel
theorem dX4_crash_37 : decode cX4_crash 37 = .ok (.istore_n 1, 1) := by decide +kernel
theorem dX4_crash_38 : decode cX4_crash 38 = .ok (.iload_n 1, 1) := by decide +kernel
theorem dX4_crash_39 : decode cX4_crash 39 = .ok (.bipush 8, 2) := by decide +kernel
theorem dX4_crash_41 : decode cX4_crash 41 = .ok (.if_icmp .ge 19, 3) := by decide +kernel
theorem dX4_crash_44 : decode cX4_crash 44 = .ok (.aload_n 0, 1) := by decide +kernel
theorem dX4_crash_45 : decode cX4_crash 45 = .ok (.getfield 52, 3) := by decide +kernel
theorem dX4_crash_48 : decode cX4_crash 48 = .ok (.iload_n 1, 1) := by decide +kernel
theorem dX4_crash_49 : decode cX4_crash 49 = .ok (.aload_n 0, 1) := by decide +kernel
theorem dX4_crash_50 : decode cX4_crash 50 = .ok (.getfield 66, 3) := by decide +kernel
theorem dX4_crash_53 : decode cX4_crash 53 = .ok (.iastore, 1) := by decide +kernel
theorem dX4_crash_54 : decode cX4_crash 54 = .ok (.iinc 1 1, 3) := by decide +kernel
theorem dX4_crash_57 : decode cX4_crash 57 = .ok (.goto (-19), 3) := by decide +kernel
theorem dX4_crash_60 : decode cX4_crash 60 = .ok (.iconst 0, 1) := by decide +kernel
theorem dX4_crash_61 : decode cX4_crash 61 = .ok (.istore_n 1, 1) := by decide +kernel
theorem dX4_crash_62 : decode cX4_crash 62 = .ok (.iload_n 1, 1) := by decide +kernel
theorem dX4_crash_63 : decode cX4_crash 63 = .ok (.bipush 16, 2) := by decide +kernel
theorem dX4_crash_65 : decode cX4_crash 65 = .ok (.if_icmp .ge 16, 3) := by decide +kernel
theorem dX4_crash_68 : decode cX4_crash 68 = .ok (.aload_n 0, 1) := by decide +kernel
theorem dX4_crash_69 : decode cX4_crash 69 = .ok (.getfield 22, 3) := by decide +kernel
theorem dX4_crash_72 : decode cX4_crash 72 = .ok (.iload_n 1, 1) := by decide +kernel
theorem dX4_crash_73 : decode cX4_crash 73 = .ok (.iconst 0, 1) := by decide +kernel
theorem dX4_crash_74 : decode cX4_crash 74 = .ok (.iastore, 1) := by decide +kernel
theorem dX4_crash_75 : decode cX4_crash 75 = .ok (.iinc 1 1, 3) := by decide +kernel
theorem dX4_crash_78 : decode cX4_crash 78 = .ok (.goto (-16), 3) := by decide +kernel
theorem dX4_crash_81 : decode cX4_crash 81 = .ok (.iconst 0, 1) := by decide +kernel
theorem dX4_crash_82 : decode cX4_crash 82 = .ok (.istore_n 1, 1) := by decide +kernel
theorem dX4_crash_83 : decode cX4_crash 83 = .ok (.iload_n 1, 1) := by decide +kernel
theorem dX4_crash_84 : decode cX4_crash 84 = .ok (.iconst 4, 1) := by decide +kernel
theorem dX4_crash_85 : decode cX4_crash 85 = .ok (.if_icmp .ge 28, 3) := by decide +kernel
theorem dX4_crash_88 : decode cX4_crash 88 = .ok (.aload_n 0, 1) := by decide +kernel
theorem dX4_crash_89 : decode cX4_crash 89 = .ok (.getfield 31, 3) := by decide +kernel
theorem dX4_crash_92 : decode cX4_crash 92 = .ok (.iload_n 1, 1) := by decide +kernel
theorem dX4_crash_93 : decode cX4_crash 93 = .ok (.iconst 0, 1) := by decide +kernel
theorem dX4_crash_94 : decode cX4_crash 94 = .ok (.iastore, 1) := by decide +kernel
theorem dX4_crash_95 : decode cX4_crash 95 = .ok (.aload_n 0, 1) := by decide +kernel
theorem dX4_crash_96 : decode cX4_crash 96 = .ok (.getfield 25, 3) := by decide +kernel
theorem dX4_crash_99 : decode cX4_crash 99 = .ok (.iload_n 1, 1) := by decide +kernel
theorem dX4_crash_100 : decode cX4_crash 100 = .ok (.aload_n 0, 1) := by decide +kernel
theorem dX4_crash_101 : decode cX4_crash 101 = .ok (.getfield 28, 3) := by decide +kernel
theorem dX4_crash_104 : decode cX4_crash 104 = .ok (.iload_n 1, 1) := by decide +kernel
theorem dX4_crash_105 : decode cX4_crash 105 = .ok (.iaload, 1) := by decide +kernel
theorem dX4_crash_106 : decode cX4_crash 106 = .ok (.iastore, 1) := by decide +kernel
theorem dX4_crash_107 : decode cX4_crash 107 = .ok (.iinc 1 1, 3) := by decide +kernel
theorem dX4_crash_110 : decode cX4_crash 110 = .ok (.goto (-27), 3) := by decide +kernel
theorem dX4_crash_113 : decode cX4_crash 113 = .ok (.return_, 1) := by decide +kernel
theorem dX4_lineOf_0 : decode cX4_lineOf 0 = .ok (.aload_n 0, 1) := by decide +kernel
theorem dX4_lineOf_1 : decode cX4_lineOf 1 = .ok (.getfield 34, 3) := by decide +kernel
theorem dX4_lineOf_4 : decode cX4_lineOf 4 = .ok (.iload_n 1, 1) := by decide +kernel
theorem dX4_lineOf_5 : decode cX4_lineOf 5 = .ok (.iaload, 1) := by decide +kernel
theorem dX4_lineOf_6 : decode cX4_lineOf 6 = .ok (.ifCond .ne 14, 3) := by decide +kernel
theorem dX4_lineOf_9 : decode cX4_lineOf 9 = .ok (.aload_n 0, 1) := by decide +kernel
theorem dX4_lineOf_10 : decode cX4_lineOf 10 = .ok (.getfield 37, 3) := by decide +kernel
theorem dX4_lineOf_13 : decode cX4_lineOf 13 = .ok (.iload_n 1, 1) := by decide +kernel
theorem dX4_lineOf_14 : decode cX4_lineOf 14 = .ok (.iaload, 1) := by decide +kernel
theorem dX4_lineOf_15 : decode cX4_lineOf 15 = .ok (.iconst 4, 1) := by decide +kernel
theorem dX4_lineOf_16 : decode cX4_lineOf 16 = .ok (.idiv, 1) := by decide +kernel
theorem dX4_lineOf_17 : decode cX4_lineOf 17 = .ok (.goto 9, 3) := by decide +kernel
theorem dX4_lineOf_20 : decode cX4_lineOf 20 = .ok (.aload_n 0, 1) := by decide +kernel
theorem dX4_lineOf_21 : decode cX4_lineOf 21 = .ok (.getfield 37, 3) := by decide +kernel
theorem dX4_lineOf_24 : decode cX4_lineOf 24 = .ok (.iload_n 1, 1) := by decide +kernel
theorem dX4_lineOf_25 : decode cX4_lineOf 25 = .ok (.iaload, 1) := by decide +kernel
theorem dX4_lineOf_26 : decode cX4_lineOf 26 = .ok (.ireturn, 1) := by decide +kernel
theorem dX4_passes_0 : decode cX4_passes 0 = .ok (.aload_n 0, 1) := by decide +kernel
theorem dX4_passes_1 : decode cX4_passes 1 = .ok (.getfield 34, 3) := by decide +kernel
theorem dX4_passes_4 : decode cX4_passes 4 = .ok (.iload_n 1, 1) := by decide +kernel
theorem dX4_passes_5 : decode cX4_passes 5 = .ok (.iaload, 1) := by decide +kernel
theorem dX4_passes_6 : decode cX4_passes 6 = .ok (.istore_n 3, 1) := by decide +kernel
theorem dX4_passes_7 : decode cX4_passes 7 = .ok (.aload_n 0, 1) := by decide +kernel
theorem dX4_passes_8 : decode cX4_passes 8 = .ok (.getfield 34, 3) := by decide +kernel
theorem dX4_passes_11 : decode cX4_passes 11 = .ok (.iload_n 2, 1) := by decide +kernel
theorem dX4_passes_12 : decode cX4_passes 12 = .ok (.iaload, 1) := by decide +kernel
theorem dX4_passes_13 : decode cX4_passes 13 = .ok (.istore 4, 2) := by decide +kernel
theorem dX4_passes_15 : decode cX4_passes 15 = .ok (.iload_n 3, 1) := by decide +kernel
theorem dX4_passes_16 : decode cX4_passes 16 = .ok (.iconst 3, 1) := by decide +kernel
theorem dX4_passes_17 : decode cX4_passes 17 = .ok (.if_icmp .eq 9, 3) := by decide +kernel
theorem dX4_passes_20 : decode cX4_passes 20 = .ok (.iload 4, 2) := by decide +kernel
theorem dX4_passes_22 : decode cX4_passes 22 = .ok (.iconst 3, 1) := by decide +kernel
theorem dX4_passes_23 : decode cX4_passes 23 = .ok (.if_icmp .ne 5, 3) := by decide +kernel
theorem dX4_passes_26 : decode cX4_passes 26 = .ok (.iconst 0, 1) := by decide +kernel
theorem dX4_passes_27 : decode cX4_passes 27 = .ok (.ireturn, 1) := by decide +kernel
theorem dX4_passes_28 : decode cX4_passes 28 = .ok (.iload_n 3, 1) := by decide +kernel
theorem dX4_passes_29 : decode cX4_passes 29 = .ok (.iconst 2, 1) := by decide +kernel
theorem dX4_passes_30 : decode cX4_passes 30 = .ok (.if_icmp .ne 16, 3) := by decide +kernel
theorem dX4_passes_33 : decode cX4_passes 33 = .ok (.iload 4, 2) := by decide +kernel
theorem dX4_passes_35 : decode cX4_passes 35 = .ok (.ifCond .eq 9, 3) := by decide +kernel
theorem dX4_passes_38 : decode cX4_passes 38 = .ok (.iload 4, 2) := by decide +kernel
theorem dX4_passes_40 : decode cX4_passes 40 = .ok (.iconst 2, 1) := by decide +kernel
theorem dX4_passes_41 : decode cX4_passes 41 = .ok (.if_icmp .ne 5, 3) := by decide +kernel
theorem dX4_passes_44 : decode cX4_passes 44 = .ok (.iconst 1, 1) := by decide +kernel
theorem dX4_passes_45 : decode cX4_passes 45 = .ok (.ireturn, 1) := by decide +kernel
theorem dX4_passes_46 : decode cX4_passes 46 = .ok (.iload_n 3, 1) := by decide +kernel
theorem dX4_passes_47 : decode cX4_passes 47 = .ok (.iconst 2, 1) := by decide +kernel
theorem dX4_passes_48 : decode cX4_passes 48 = .ok (.if_icmp .eq 9, 3) := by decide +kernel
theorem dX4_passes_51 : decode cX4_passes 51 = .ok (.iload 4, 2) := by decide +kernel
theorem dX4_passes_53 : decode cX4_passes 53 = .ok (.iconst 2, 1) := by decide +kernel
theorem dX4_passes_54 : decode cX4_passes 54 = .ok (.if_icmp .ne 20, 3) := by decide +kernel
theorem dX4_passes_57 : decode cX4_passes 57 = .ok (.aload_n 0, 1) := by decide +kernel
theorem dX4_passes_58 : decode cX4_passes 58 = .ok (.iload_n 1, 1) := by decide +kernel
theorem dX4_passes_59 : decode cX4_passes 59 = .ok (.invokevirtual 73, 3) := by decide +kernel
theorem dX4_passes_62 : decode cX4_passes 62 = .ok (.aload_n 0, 1) := by decide +kernel
theorem dX4_passes_63 : decode cX4_passes 63 = .ok (.iload_n 2, 1) := by decide +kernel
theorem dX4_passes_64 : decode cX4_passes 64 = .ok (.invokevirtual 73, 3) := by decide +kernel
theorem dX4_passes_67 : decode cX4_passes 67 = .ok (.if_icmp .eq 7, 3) := by decide +kernel
theorem dX4_passes_70 : decode cX4_passes 70 = .ok (.iconst 1, 1) := by decide +kernel
theorem dX4_passes_71 : decode cX4_passes 71 = .ok (.goto 4, 3) := by decide +kernel
theorem dX4_passes_74 : decode cX4_passes 74 = .ok (.iconst 0, 1) := by decide +kernel
theorem dX4_passes_75 : decode cX4_passes 75 = .ok (.ireturn, 1) := by decide +kernel
theorem dX4_drain_0 : decode cX4_drain 0 = .ok (.aload_n 0, 1) := by decide +kernel
theorem dX4_drain_1 : decode cX4_drain 1 = .ok (.iload_n 1, 1) := by decide +kernel
theorem dX4_drain_2 : decode cX4_drain 2 = .ok (.invokevirtual 62, 3) := by decide +kernel
theorem dX4_drain_5 : decode cX4_drain 5 = .ok (.ifCond .eq 17, 3) := by decide +kernel
theorem dX4_drain_8 : decode cX4_drain 8 = .ok (.iload_n 2, 1) := by decide +kernel
theorem dX4_drain_9 : decode cX4_drain 9 = .ok (.ifCond .lt 13, 3) := by decide +kernel
theorem dX4_drain_12 : decode cX4_drain 12 = .ok (.iload_n 2, 1) := by decide +kernel
theorem dX4_drain_13 : decode cX4_drain 13 = .ok (.aload_n 0, 1) := by decide +kernel
theorem dX4_drain_14 : decode cX4_drain 14 = .ok (.getfield 31, 3) := by decide +kernel
theorem dX4_drain_17 : decode cX4_drain 17 = .ok (.iload_n 1, 1) := by decide +kernel
theorem dX4_drain_18 : decode cX4_drain 18 = .ok (.iaload, 1) := by decide +kernel
theorem dX4_drain_19 : decode cX4_drain 19 = .ok (.if_icmp .lt 5, 3) := by decide +kernel
theorem dX4_drain_22 : decode cX4_drain 22 = .ok (.iconst 0, 1) := by decide +kernel
theorem dX4_drain_23 : decode cX4_drain 23 = .ok (.ireturn, 1) := by decide +kernel
theorem dX4_drain_24 : decode cX4_drain 24 = .ok (.bipush 8, 2) := by decide +kernel
theorem dX4_drain_26 : decode cX4_drain 26 = .ok (.iload_n 1, 1) := by decide +kernel
theorem dX4_drain_27 : decode cX4_drain 27 = .ok (.imul, 1) := by decide +kernel
theorem dX4_drain_28 : decode cX4_drain 28 = .ok (.iload_n 2, 1) := by decide +kernel
theorem dX4_drain_29 : decode cX4_drain 29 = .ok (.iadd, 1) := by decide +kernel
theorem dX4_drain_30 : decode cX4_drain 30 = .ok (.istore_n 3, 1) := by decide +kernel
theorem dX4_drain_31 : decode cX4_drain 31 = .ok (.bipush 8, 2) := by decide +kernel
theorem dX4_drain_33 : decode cX4_drain 33 = .ok (.iload_n 1, 1) := by decide +kernel
theorem dX4_drain_34 : decode cX4_drain 34 = .ok (.imul, 1) := by decide +kernel
theorem dX4_drain_35 : decode cX4_drain 35 = .ok (.istore 4, 2) := by decide +kernel
theorem dX4_drain_37 : decode cX4_drain 37 = .ok (.iload 4, 2) := by decide +kernel
theorem dX4_drain_39 : decode cX4_drain 39 = .ok (.iload_n 3, 1) := by decide +kernel
theorem dX4_drain_40 : decode cX4_drain 40 = .ok (.if_icmp .ge 21, 3) := by decide +kernel
theorem dX4_drain_43 : decode cX4_drain 43 = .ok (.aload_n 0, 1) := by decide +kernel
theorem dX4_drain_44 : decode cX4_drain 44 = .ok (.iload 4, 2) := by decide +kernel
theorem dX4_drain_46 : decode cX4_drain 46 = .ok (.iload_n 3, 1) := by decide +kernel
theorem dX4_drain_47 : decode cX4_drain 47 = .ok (.invokevirtual 77, 3) := by decide +kernel
theorem dX4_drain_50 : decode cX4_drain 50 = .ok (.ifCond .ne 5, 3) := by decide +kernel
theorem dX4_drain_53 : decode cX4_drain 53 = .ok (.iconst 0, 1) := by decide +kernel
theorem dX4_drain_54 : decode cX4_drain 54 = .ok (.ireturn, 1) := by decide +kernel
theorem dX4_drain_55 : decode cX4_drain 55 = .ok (.iinc 4 1, 3) := by decide +kernel
theorem dX4_drain_58 : decode cX4_drain 58 = .ok (.goto (-21), 3) := by decide +kernel
theorem dX4_drain_61 : decode cX4_drain 61 = .ok (.aload_n 0, 1) := by decide +kernel
theorem dX4_drain_62 : decode cX4_drain 62 = .ok (.getfield 34, 3) := by decide +kernel
theorem dX4_drain_65 : decode cX4_drain 65 = .ok (.iload_n 3, 1) := by decide +kernel
theorem dX4_drain_66 : decode cX4_drain 66 = .ok (.iaload, 1) := by decide +kernel
theorem dX4_drain_67 : decode cX4_drain 67 = .ok (.ifCond .ne 22, 3) := by decide +kernel
theorem dX4_drain_70 : decode cX4_drain 70 = .ok (.aload_n 0, 1) := by decide +kernel
theorem dX4_drain_71 : decode cX4_drain 71 = .ok (.aload_n 0, 1) := by decide +kernel
theorem dX4_drain_72 : decode cX4_drain 72 = .ok (.getfield 37, 3) := by decide +kernel
theorem dX4_drain_75 : decode cX4_drain 75 = .ok (.iload_n 3, 1) := by decide +kernel
theorem dX4_drain_76 : decode cX4_drain 76 = .ok (.iaload, 1) := by decide +kernel
theorem dX4_drain_77 : decode cX4_drain 77 = .ok (.aload_n 0, 1) := by decide +kernel
theorem dX4_drain_78 : decode cX4_drain 78 = .ok (.getfield 40, 3) := by decide +kernel
theorem dX4_drain_81 : decode cX4_drain 81 = .ok (.iload_n 3, 1) := by decide +kernel
theorem dX4_drain_82 : decode cX4_drain 82 = .ok (.iaload, 1) := by decide +kernel
theorem dX4_drain_83 : decode cX4_drain 83 = .ok (.invokevirtual 81, 3) := by decide +kernel
theorem dX4_drain_86 : decode cX4_drain 86 = .ok (.goto 23, 3) := by decide +kernel
theorem dX4_drain_89 : decode cX4_drain 89 = .ok (.aload_n 0, 1) := by decide +kernel
theorem dX4_drain_90 : decode cX4_drain 90 = .ok (.getfield 34, 3) := by decide +kernel
theorem dX4_drain_93 : decode cX4_drain 93 = .ok (.iload_n 3, 1) := by decide +kernel
theorem dX4_drain_94 : decode cX4_drain 94 = .ok (.iaload, 1) := by decide +kernel
theorem dX4_drain_95 : decode cX4_drain 95 = .ok (.iconst 3, 1) := by decide +kernel
theorem dX4_drain_96 : decode cX4_drain 96 = .ok (.if_icmp .eq 13, 3) := by decide +kernel
theorem dX4_drain_99 : decode cX4_drain 99 = .ok (.aload_n 0, 1) := by decide +kernel
theorem dX4_drain_100 : decode cX4_drain 100 = .ok (.aload_n 0, 1) := by decide +kernel
theorem dX4_drain_101 : decode cX4_drain 101 = .ok (.getfield 37, 3) := by decide +kernel
theorem dX4_drain_104 : decode cX4_drain 104 = .ok (.iload_n 3, 1) := by decide +kernel
theorem dX4_drain_105 : decode cX4_drain 105 = .ok (.iaload, 1) := by decide +kernel
theorem dX4_drain_106 : decode cX4_drain 106 = .ok (.invokevirtual 69, 3) := by decide +kernel
theorem dX4_drain_109 : decode cX4_drain 109 = .ok (.aload_n 0, 1) := by decide +kernel
theorem dX4_drain_110 : decode cX4_drain 110 = .ok (.getfield 31, 3) := by decide +kernel
theorem dX4_drain_113 : decode cX4_drain 113 = .ok (.iload_n 1, 1) := by decide +kernel
theorem dX4_drain_114 : decode cX4_drain 114 = .ok (.dup2, 1) := by decide +kernel
theorem dX4_drain_115 : decode cX4_drain 115 = .ok (.iaload, 1) := by decide +kernel
theorem dX4_drain_116 : decode cX4_drain 116 = .ok (.iconst 1, 1) := by decide +kernel
theorem dX4_drain_117 : decode cX4_drain 117 = .ok (.isub, 1) := by decide +kernel
theorem dX4_drain_118 : decode cX4_drain 118 = .ok (.iastore, 1) := by decide +kernel
theorem dX4_drain_119 : decode cX4_drain 119 = .ok (.iload_n 3, 1) := by decide +kernel
theorem dX4_drain_120 : decode cX4_drain 120 = .ok (.istore 4, 2) := by decide +kernel
theorem dX4_drain_122 : decode cX4_drain 122 = .ok (.iload 4, 2) := by decide +kernel
theorem dX4_drain_124 : decode cX4_drain 124 = .ok (.bipush 8, 2) := by decide +kernel
theorem dX4_drain_126 : decode cX4_drain 126 = .ok (.iload_n 1, 1) := by decide +kernel
theorem dX4_drain_127 : decode cX4_drain 127 = .ok (.imul, 1) := by decide +kernel
theorem dX4_drain_128 : decode cX4_drain 128 = .ok (.aload_n 0, 1) := by decide +kernel
theorem dX4_drain_129 : decode cX4_drain 129 = .ok (.getfield 31, 3) := by decide +kernel
theorem dX4_drain_132 : decode cX4_drain 132 = .ok (.iload_n 1, 1) := by decide +kernel
theorem dX4_drain_133 : decode cX4_drain 133 = .ok (.iaload, 1) := by decide +kernel
theorem dX4_drain_134 : decode cX4_drain 134 = .ok (.iadd, 1) := by decide +kernel
theorem dX4_drain_135 : decode cX4_drain 135 = .ok (.if_icmp .ge 57, 3) := by decide +kernel
theorem dX4_drain_138 : decode cX4_drain 138 = .ok (.aload_n 0, 1) := by decide +kernel
theorem dX4_drain_139 : decode cX4_drain 139 = .ok (.getfield 34, 3) := by decide +kernel
theorem dX4_drain_142 : decode cX4_drain 142 = .ok (.iload 4, 2) := by decide +kernel
theorem dX4_drain_144 : decode cX4_drain 144 = .ok (.aload_n 0, 1) := by decide +kernel
theorem dX4_drain_145 : decode cX4_drain 145 = .ok (.getfield 34, 3) := by decide +kernel
theorem dX4_drain_148 : decode cX4_drain 148 = .ok (.iload 4, 2) := by decide +kernel
theorem dX4_drain_150 : decode cX4_drain 150 = .ok (.iconst 1, 1) := by decide +kernel
theorem dX4_drain_151 : decode cX4_drain 151 = .ok (.iadd, 1) := by decide +kernel
theorem dX4_drain_152 : decode cX4_drain 152 = .ok (.iaload, 1) := by decide +kernel
theorem dX4_drain_153 : decode cX4_drain 153 = .ok (.iastore, 1) := by decide +kernel
theorem dX4_drain_154 : decode cX4_drain 154 = .ok (.aload_n 0, 1) := by decide +kernel
theorem dX4_drain_155 : decode cX4_drain 155 = .ok (.getfield 37, 3) := by decide +kernel
theorem dX4_drain_158 : decode cX4_drain 158 = .ok (.iload 4, 2) := by decide +kernel
theorem dX4_drain_160 : decode cX4_drain 160 = .ok (.aload_n 0, 1) := by decide +kernel
theorem dX4_drain_161 : decode cX4_drain 161 = .ok (.getfield 37, 3) := by decide +kernel
theorem dX4_drain_164 : decode cX4_drain 164 = .ok (.iload 4, 2) := by decide +kernel
theorem dX4_drain_166 : decode cX4_drain 166 = .ok (.iconst 1, 1) := by decide +kernel
theorem dX4_drain_167 : decode cX4_drain 167 = .ok (.iadd, 1) := by decide +kernel
theorem dX4_drain_168 : decode cX4_drain 168 = .ok (.iaload, 1) := by decide +kernel
theorem dX4_drain_169 : decode cX4_drain 169 = .ok (.iastore, 1) := by decide +kernel
theorem dX4_drain_170 : decode cX4_drain 170 = .ok (.aload_n 0, 1) := by decide +kernel
theorem dX4_drain_171 : decode cX4_drain 171 = .ok (.getfield 40, 3) := by decide +kernel
theorem dX4_drain_174 : decode cX4_drain 174 = .ok (.iload 4, 2) := by decide +kernel
theorem dX4_drain_176 : decode cX4_drain 176 = .ok (.aload_n 0, 1) := by decide +kernel
theorem dX4_drain_177 : decode cX4_drain 177 = .ok (.getfield 40, 3) := by decide +kernel
theorem dX4_drain_180 : decode cX4_drain 180 = .ok (.iload 4, 2) := by decide +kernel
theorem dX4_drain_182 : decode cX4_drain 182 = .ok (.iconst 1, 1) := by decide +kernel
theorem dX4_drain_183 : decode cX4_drain 183 = .ok (.iadd, 1) := by decide +kernel
theorem dX4_drain_184 : decode cX4_drain 184 = .ok (.iaload, 1) := by decide +kernel
theorem dX4_drain_185 : decode cX4_drain 185 = .ok (.iastore, 1) := by decide +kernel
theorem dX4_drain_186 : decode cX4_drain 186 = .ok (.iinc 4 1, 3) := by decide +kernel
theorem dX4_drain_189 : decode cX4_drain 189 = .ok (.goto (-67), 3) := by decide +kernel
theorem dX4_drain_192 : decode cX4_drain 192 = .ok (.iconst 1, 1) := by decide +kernel
theorem dX4_drain_193 : decode cX4_drain 193 = .ok (.ireturn, 1) := by decide +kernel
theorem dX4_settle_0 : decode cX4_settle 0 = .ok (.aload_n 0, 1) := by decide +kernel
theorem dX4_settle_1 : decode cX4_settle 1 = .ok (.iload_n 1, 1) := by decide +kernel
theorem dX4_settle_2 : decode cX4_settle 2 = .ok (.invokevirtual 62, 3) := by decide +kernel
theorem dX4_settle_5 : decode cX4_settle 5 = .ok (.ifCond .ne 5, 3) := by decide +kernel
theorem dX4_settle_8 : decode cX4_settle 8 = .ok (.iconst (-1), 1) := by decide +kernel
theorem dX4_settle_9 : decode cX4_settle 9 = .ok (.ireturn, 1) := by decide +kernel
theorem dX4_settle_10 : decode cX4_settle 10 = .ok (.iconst 0, 1) := by decide +kernel
theorem dX4_settle_11 : decode cX4_settle 11 = .ok (.istore_n 2, 1) := by decide +kernel
theorem dX4_settle_12 : decode cX4_settle 12 = .ok (.aload_n 0, 1) := by decide +kernel
theorem dX4_settle_13 : decode cX4_settle 13 = .ok (.iload_n 1, 1) := by decide +kernel
theorem dX4_settle_14 : decode cX4_settle 14 = .ok (.iconst 0, 1) := by decide +kernel
theorem dX4_settle_15 : decode cX4_settle 15 = .ok (.invokevirtual 85, 3) := by decide +kernel
theorem dX4_settle_18 : decode cX4_settle 18 = .ok (.ifCond .eq 9, 3) := by decide +kernel
theorem dX4_settle_21 : decode cX4_settle 21 = .ok (.iinc 2 1, 3) := by decide +kernel
theorem dX4_settle_24 : decode cX4_settle 24 = .ok (.goto (-12), 3) := by decide +kernel
theorem dX4_settle_27 : decode cX4_settle 27 = .ok (.iload_n 2, 1) := by decide +kernel
theorem dX4_settle_28 : decode cX4_settle 28 = .ok (.ireturn, 1) := by decide +kernel
theorem dX4_append_0 : decode cX4_append 0 = .ok (.aload_n 0, 1) := by decide +kernel
theorem dX4_append_1 : decode cX4_append 1 = .ok (.getfield 31, 3) := by decide +kernel
theorem dX4_append_4 : decode cX4_append 4 = .ok (.iload_n 1, 1) := by decide +kernel
theorem dX4_append_5 : decode cX4_append 5 = .ok (.iaload, 1) := by decide +kernel
theorem dX4_append_6 : decode cX4_append 6 = .ok (.aload_n 0, 1) := by decide +kernel
theorem dX4_append_7 : decode cX4_append 7 = .ok (.getfield 59, 3) := by decide +kernel
theorem dX4_append_10 : decode cX4_append 10 = .ok (.if_icmp .ne 5, 3) := by decide +kernel
theorem dX4_append_13 : decode cX4_append 13 = .ok (.iconst 1, 1) := by decide +kernel
theorem dX4_append_14 : decode cX4_append 14 = .ok (.ireturn, 1) := by decide +kernel
theorem dX4_append_15 : decode cX4_append 15 = .ok (.bipush 8, 2) := by decide +kernel
theorem dX4_append_17 : decode cX4_append 17 = .ok (.iload_n 1, 1) := by decide +kernel
theorem dX4_append_18 : decode cX4_append 18 = .ok (.imul, 1) := by decide +kernel
theorem dX4_append_19 : decode cX4_append 19 = .ok (.aload_n 0, 1) := by decide +kernel
theorem dX4_append_20 : decode cX4_append 20 = .ok (.getfield 31, 3) := by decide +kernel
theorem dX4_append_23 : decode cX4_append 23 = .ok (.iload_n 1, 1) := by decide +kernel
theorem dX4_append_24 : decode cX4_append 24 = .ok (.iaload, 1) := by decide +kernel
theorem dX4_append_25 : decode cX4_append 25 = .ok (.iadd, 1) := by decide +kernel
theorem dX4_append_26 : decode cX4_append 26 = .ok (.istore 5, 2) := by decide +kernel
theorem dX4_append_28 : decode cX4_append 28 = .ok (.aload_n 0, 1) := by decide +kernel
theorem dX4_append_29 : decode cX4_append 29 = .ok (.getfield 34, 3) := by decide +kernel
theorem dX4_append_32 : decode cX4_append 32 = .ok (.iload 5, 2) := by decide +kernel
theorem dX4_append_34 : decode cX4_append 34 = .ok (.iload_n 2, 1) := by decide +kernel
theorem dX4_append_35 : decode cX4_append 35 = .ok (.iastore, 1) := by decide +kernel
theorem dX4_append_36 : decode cX4_append 36 = .ok (.aload_n 0, 1) := by decide +kernel
theorem dX4_append_37 : decode cX4_append 37 = .ok (.getfield 37, 3) := by decide +kernel
theorem dX4_append_40 : decode cX4_append 40 = .ok (.iload 5, 2) := by decide +kernel
theorem dX4_append_42 : decode cX4_append 42 = .ok (.iload_n 3, 1) := by decide +kernel
theorem dX4_append_43 : decode cX4_append 43 = .ok (.iastore, 1) := by decide +kernel
theorem dX4_append_44 : decode cX4_append 44 = .ok (.aload_n 0, 1) := by decide +kernel
theorem dX4_append_45 : decode cX4_append 45 = .ok (.getfield 40, 3) := by decide +kernel
theorem dX4_append_48 : decode cX4_append 48 = .ok (.iload 5, 2) := by decide +kernel
theorem dX4_append_50 : decode cX4_append 50 = .ok (.iload 4, 2) := by decide +kernel
theorem dX4_append_52 : decode cX4_append 52 = .ok (.iastore, 1) := by decide +kernel
theorem dX4_append_53 : decode cX4_append 53 = .ok (.aload_n 0, 1) := by decide +kernel
theorem dX4_append_54 : decode cX4_append 54 = .ok (.getfield 31, 3) := by decide +kernel
theorem dX4_append_57 : decode cX4_append 57 = .ok (.iload_n 1, 1) := by decide +kernel
theorem dX4_append_58 : decode cX4_append 58 = .ok (.dup2, 1) := by decide +kernel
theorem dX4_append_59 : decode cX4_append 59 = .ok (.iaload, 1) := by decide +kernel
theorem dX4_append_60 : decode cX4_append 60 = .ok (.iconst 1, 1) := by decide +kernel
theorem dX4_append_61 : decode cX4_append 61 = .ok (.iadd, 1) := by decide +kernel
theorem dX4_append_62 : decode cX4_append 62 = .ok (.iastore, 1) := by decide +kernel
theorem dX4_append_63 : decode cX4_append 63 = .ok (.aload_n 0, 1) := by decide +kernel
