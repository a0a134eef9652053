theorem dX2_init_0 : decode cX2_init 0 = .ok (.aload_n 0, 1) := by decide +kernel
theorem dX2_init_1 : decode cX2_init 1 = .ok (.invokespecial 3, 3) := by decide +kernel
theorem dX2_init_4 : decode cX2_init 4 = .ok (.aload_n 0, 1) := by decide +kernel
theorem dX2_init_5 : decode cX2_init 5 = .ok (.bipush 32, 2) := by decide +kernel
theorem dX2_init_7 : decode cX2_init 7 = .ok (.newarray .int, 2) := by decide +kernel
theorem dX2_init_9 : decode cX2_init 9 = .ok (.putfield 9, 3) := by decide +kernel
theorem dX2_init_12 : decode cX2_init 12 = .ok (.aload_n 0, 1) := by decide +kernel
theorem dX2_init_13 : decode cX2_init 13 = .ok (.bipush 32, 2) := by decide +kernel
theorem dX2_init_15 : decode cX2_init 15 = .ok (.newarray .int, 2) := by decide +kernel
theorem dX2_init_17 : decode cX2_init 17 = .ok (.putfield 15, 3) := by decide +kernel
theorem dX2_init_20 : decode cX2_init 20 = .ok (.aload_n 0, 1) := by decide +kernel
theorem dX2_init_21 : decode cX2_init 21 = .ok (.bipush 8, 2) := by decide +kernel
theorem dX2_init_23 : decode cX2_init 23 = .ok (.newarray .boolean, 2) := by decide +kernel
theorem dX2_init_25 : decode cX2_init 25 = .ok (.putfield 18, 3) := by decide +kernel
theorem dX2_init_28 : decode cX2_init 28 = .ok (.return_, 1) := by decide +kernel
theorem dX2_write_0 : decode cX2_write 0 = .ok (.aload_n 0, 1) := by decide +kernel
theorem dX2_write_1 : decode cX2_write 1 = .ok (.getfield 9, 3) := by decide +kernel
theorem dX2_write_4 : decode cX2_write 4 = .ok (.iload_n 1, 1) := by decide +kernel
theorem dX2_write_5 : decode cX2_write 5 = .ok (.iload_n 2, 1) := by decide +kernel
theorem dX2_write_6 : decode cX2_write 6 = .ok (.iastore, 1) := by decide +kernel
theorem dX2_write_7 : decode cX2_write 7 = .ok (.aload_n 0, 1) := by decide +kernel
theorem dX2_write_8 : decode cX2_write 8 = .ok (.getfield 18, 3) := by decide +kernel
theorem dX2_write_11 : decode cX2_write 11 = .ok (.iload_n 1, 1) := by decide +kernel
theorem dX2_write_12 : decode cX2_write 12 = .ok (.iconst 4, 1) := by decide +kernel
theorem dX2_write_13 : decode cX2_write 13 = .ok (.idiv, 1) := by decide +kernel
theorem dX2_write_14 : decode cX2_write 14 = .ok (.iconst 1, 1) := by decide +kernel
theorem dX2_write_15 : decode cX2_write 15 = .ok (.bastore, 1) := by decide +kernel
theorem dX2_write_16 : decode cX2_write 16 = .ok (.return_, 1) := by decide +kernel
theorem dX2_writeBack_0 : decode cX2_writeBack 0 = .ok (.iload_n 1, 1) := by decide +kernel
theorem dX2_writeBack_1 : decode cX2_writeBack 1 = .ok (.iconst 4, 1) := by decide +kernel
theorem dX2_writeBack_2 : decode cX2_writeBack 2 = .ok (.imul, 1) := by decide +kernel
theorem dX2_writeBack_3 : decode cX2_writeBack 3 = .ok (.istore_n 2, 1) := by decide +kernel
theorem dX2_writeBack_4 : decode cX2_writeBack 4 = .ok (.iload_n 2, 1) := by decide +kernel
theorem dX2_writeBack_5 : decode cX2_writeBack 5 = .ok (.istore_n 3, 1) := by decide +kernel
theorem dX2_writeBack_6 : decode cX2_writeBack 6 = .ok (.iload_n 3, 1) := by decide +kernel
theorem dX2_writeBack_7 : decode cX2_writeBack 7 = .ok (.iload_n 2, 1) := by decide +kernel
theorem dX2_writeBack_8 : decode cX2_writeBack 8 = .ok (.iconst 4, 1) := by decide +kernel
theorem dX2_writeBack_9 : decode cX2_writeBack 9 = .ok (.iadd, 1) := by decide +kernel
theorem dX2_writeBack_10 : decode cX2_writeBack 10 = .ok (.if_icmp .ge 21, 3) := by decide +kernel
theorem dX2_writeBack_13 : decode cX2_writeBack 13 = .ok (.aload_n 0, 1) := by decide +kernel
theorem dX2_writeBack_14 : decode cX2_writeBack 14 = .ok (.getfield 15, 3) := by decide +kernel
theorem dX2_writeBack_17 : decode cX2_writeBack 17 = .ok (.iload_n 3, 1) := by decide +kernel
theorem dX2_writeBack_18 : decode cX2_writeBack 18 = .ok (.aload_n 0, 1) := by decide +kernel
theorem dX2_writeBack_19 : decode cX2_writeBack 19 = .ok (.getfield 9, 3) := by decide +kernel
theorem dX2_writeBack_22 : decode cX2_writeBack 22 = .ok (.iload_n 3, 1) := by decide +kernel
theorem dX2_writeBack_23 : decode cX2_writeBack 23 = .ok (.iaload, 1) := by decide +kernel
theorem dX2_writeBack_24 : decode cX2_writeBack 24 = .ok (.iastore, 1) := by decide +kernel
theorem dX2_writeBack_25 : decode cX2_writeBack 25 = .ok (.iinc 3 1, 3) := by decide +kernel
theorem dX2_writeBack_28 : decode cX2_writeBack 28 = .ok (.goto (-22), 3) := by decide +kernel
theorem dX2_writeBack_31 : decode cX2_writeBack 31 = .ok (.aload_n 0, 1) := by decide +kernel
theorem dX2_writeBack_32 : decode cX2_writeBack 32 = .ok (.getfield 18, 3) := by decide +kernel
theorem dX2_writeBack_35 : decode cX2_writeBack 35 = .ok (.iload_n 1, 1) := by decide +kernel
theorem dX2_writeBack_36 : decode cX2_writeBack 36 = .ok (.iconst 0, 1) := by decide +kernel
theorem dX2_writeBack_37 : decode cX2_writeBack 37 = .ok (.bastore, 1) := by decide +kernel
theorem dX2_writeBack_38 : decode cX2_writeBack 38 = .ok (.return_, 1) := by decide +kernel
theorem dX2_fallBackToStorage_0 : decode cX2_fallBackToStorage 0 = .ok (.iconst 0, 1) := by decide +kernel
theorem dX2_fallBackToStorage_1 : decode cX2_fallBackToStorage 1 = .ok (.istore_n 1, 1) := by decide +kernel
theorem dX2_fallBackToStorage_2 : decode cX2_fallBackToStorage 2 = .ok (.iload_n 1, 1) := by decide +kernel
theorem dX2_fallBackToStorage_3 : decode cX2_fallBackToStorage 3 = .ok (.bipush 32, 2) := by decide +kernel
theorem dX2_fallBackToStorage_5 : decode cX2_fallBackToStorage 5 = .ok (.if_icmp .ge 21, 3) := by decide +kernel
theorem dX2_fallBackToStorage_8 : decode cX2_fallBackToStorage 8 = .ok (.aload_n 0, 1) := by decide +kernel
theorem dX2_fallBackToStorage_9 : decode cX2_fallBackToStorage 9 = .ok (.getfield 9, 3) := by decide +kernel
theorem dX2_fallBackToStorage_12 : decode cX2_fallBackToStorage 12 = .ok (.iload_n 1, 1) := by decide +kernel
theorem dX2_fallBackToStorage_13 : decode cX2_fallBackToStorage 13 = .ok (.aload_n 0, 1) := by decide +kernel
theorem dX2_fallBackToStorage_14 : decode cX2_fallBackToStorage 14 = .ok (.getfield 15, 3) := by decide +kernel
theorem dX2_fallBackToStorage_17 : decode cX2_fallBackToStorage 17 = .ok (.iload_n 1, 1) := by decide +kernel
theorem dX2_fallBackToStorage_18 : decode cX2_fallBackToStorage 18 = .ok (.iaload, 1) := by decide +kernel
theorem dX2_fallBackToStorage_19 : decode cX2_fallBackToStorage 19 = .ok (.iastore, 1) := by decide +kernel
theorem dX2_fallBackToStorage_20 : decode cX2_fallBackToStorage 20 = .ok (.iinc 1 1, 3) := by decide +kernel
theorem dX2_fallBackToStorage_23 : decode cX2_fallBackToStorage 23 = .ok (.goto (-21), 3) := by decide +kernel
theorem dX2_fallBackToStorage_26 : decode cX2_fallBackToStorage 26 = .ok (.iconst 0, 1) := by decide +kernel
theorem dX2_fallBackToStorage_27 : decode cX2_fallBackToStorage 27 = .ok (.istore_n 1, 1) := by decide +kernel
theorem dX2_fallBackToStorage_28 : decode cX2_fallBackToStorage 28 = .ok (.iload_n 1, 1) := by decide +kernel
theorem dX2_fallBackToStorage_29 : decode cX2_fallBackToStorage 29 = .ok (.bipush 8, 2) := by decide +kernel
theorem dX2_fallBackToStorage_31 : decode cX2_fallBackToStorage 31 = .ok (.if_icmp .ge 16, 3) := by decide +kernel
theorem dX2_fallBackToStorage_34 : decode cX2_fallBackToStorage 34 = .ok (.aload_n 0, 1) := by decide +kernel
theorem dX2_fallBackToStorage_35 : decode cX2_fallBackToStorage 35 = .ok (.getfield 18, 3) := by decide +kernel
theorem dX2_fallBackToStorage_38 : decode cX2_fallBackToStorage 38 = .ok (.iload_n 1, 1) := by decide +kernel
theorem dX2_fallBackToStorage_39 : decode cX2_fallBackToStorage 39 = .ok (.iconst 0, 1) := by decide +kernel
theorem dX2_fallBackToStorage_40 : decode cX2_fallBackToStorage 40 = .ok (.bastore, 1) := by decide +kernel
theorem dX2_fallBackToStorage_41 : decode cX2_fallBackToStorage 41 = .ok (.iinc 1 1, 3) := by decide +kernel
theorem dX2_fallBackToStorage_44 : decode cX2_fallBackToStorage 44 = .ok (.goto (-16), 3) := by decide +kernel
theorem dX2_fallBackToStorage_47 : decode cX2_fallBackToStorage 47 = .ok (.return_, 1) := by decide +kernel
