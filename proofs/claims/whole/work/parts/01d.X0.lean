theorem dX0_init_0 : decode cX0_init 0 = .ok (.aload_n 0, 1) := by decide +kernel
theorem dX0_init_1 : decode cX0_init 1 = .ok (.invokespecial 3, 3) := by decide +kernel
theorem dX0_init_4 : decode cX0_init 4 = .ok (.aload_n 0, 1) := by decide +kernel
theorem dX0_init_5 : decode cX0_init 5 = .ok (.iload_n 1, 1) := by decide +kernel
theorem dX0_init_6 : decode cX0_init 6 = .ok (.newarray .int, 2) := by decide +kernel
theorem dX0_init_8 : decode cX0_init 8 = .ok (.putfield 9, 3) := by decide +kernel
theorem dX0_init_11 : decode cX0_init 11 = .ok (.aload_n 0, 1) := by decide +kernel
theorem dX0_init_12 : decode cX0_init 12 = .ok (.iload_n 1, 1) := by decide +kernel
theorem dX0_init_13 : decode cX0_init 13 = .ok (.newarray .int, 2) := by decide +kernel
theorem dX0_init_15 : decode cX0_init 15 = .ok (.putfield 15, 3) := by decide +kernel
theorem dX0_init_18 : decode cX0_init 18 = .ok (.aload_n 0, 1) := by decide +kernel
theorem dX0_init_19 : decode cX0_init 19 = .ok (.iload_n 1, 1) := by decide +kernel
theorem dX0_init_20 : decode cX0_init 20 = .ok (.newarray .int, 2) := by decide +kernel
theorem dX0_init_22 : decode cX0_init 22 = .ok (.putfield 18, 3) := by decide +kernel
theorem dX0_init_25 : decode cX0_init 25 = .ok (.return_, 1) := by decide +kernel
theorem dX0_isFull_0 : decode cX0_isFull 0 = .ok (.aload_n 0, 1) := by decide +kernel
theorem dX0_isFull_1 : decode cX0_isFull 1 = .ok (.getfield 21, 3) := by decide +kernel
theorem dX0_isFull_4 : decode cX0_isFull 4 = .ok (.aload_n 0, 1) := by decide +kernel
theorem dX0_isFull_5 : decode cX0_isFull 5 = .ok (.getfield 9, 3) := by decide +kernel
theorem dX0_isFull_8 : decode cX0_isFull 8 = .ok (.arraylength, 1) := by decide +kernel
theorem dX0_isFull_9 : decode cX0_isFull 9 = .ok (.if_icmp .lt 7, 3) := by decide +kernel
theorem dX0_isFull_12 : decode cX0_isFull 12 = .ok (.iconst 1, 1) := by decide +kernel
theorem dX0_isFull_13 : decode cX0_isFull 13 = .ok (.goto 4, 3) := by decide +kernel
theorem dX0_isFull_16 : decode cX0_isFull 16 = .ok (.iconst 0, 1) := by decide +kernel
theorem dX0_isFull_17 : decode cX0_isFull 17 = .ok (.ireturn, 1) := by decide +kernel
theorem dX0_append_0 : decode cX0_append 0 = .ok (.aload_n 0, 1) := by decide +kernel
theorem dX0_append_1 : decode cX0_append 1 = .ok (.invokevirtual 25, 3) := by decide +kernel
theorem dX0_append_4 : decode cX0_append 4 = .ok (.ifCond .eq 4, 3) := by decide +kernel
theorem dX0_append_7 : decode cX0_append 7 = .ok (.return_, 1) := by decide +kernel
theorem dX0_append_8 : decode cX0_append 8 = .ok (.aload_n 0, 1) := by decide +kernel
theorem dX0_append_9 : decode cX0_append 9 = .ok (.getfield 9, 3) := by decide +kernel
theorem dX0_append_12 : decode cX0_append 12 = .ok (.aload_n 0, 1) := by decide +kernel
theorem dX0_append_13 : decode cX0_append 13 = .ok (.getfield 21, 3) := by decide +kernel
theorem dX0_append_16 : decode cX0_append 16 = .ok (.iload_n 1, 1) := by decide +kernel
theorem dX0_append_17 : decode cX0_append 17 = .ok (.iastore, 1) := by decide +kernel
theorem dX0_append_18 : decode cX0_append 18 = .ok (.aload_n 0, 1) := by decide +kernel
theorem dX0_append_19 : decode cX0_append 19 = .ok (.getfield 15, 3) := by decide +kernel
theorem dX0_append_22 : decode cX0_append 22 = .ok (.aload_n 0, 1) := by decide +kernel
theorem dX0_append_23 : decode cX0_append 23 = .ok (.getfield 21, 3) := by decide +kernel
theorem dX0_append_26 : decode cX0_append 26 = .ok (.iload_n 2, 1) := by decide +kernel
theorem dX0_append_27 : decode cX0_append 27 = .ok (.iastore, 1) := by decide +kernel
theorem dX0_append_28 : decode cX0_append 28 = .ok (.aload_n 0, 1) := by decide +kernel
theorem dX0_append_29 : decode cX0_append 29 = .ok (.getfield 18, 3) := by decide +kernel
theorem dX0_append_32 : decode cX0_append 32 = .ok (.aload_n 0, 1) := by decide +kernel
theorem dX0_append_33 : decode cX0_append 33 = .ok (.getfield 21, 3) := by decide +kernel
theorem dX0_append_36 : decode cX0_append 36 = .ok (.iload_n 3, 1) := by decide +kernel
theorem dX0_append_37 : decode cX0_append 37 = .ok (.iastore, 1) := by decide +kernel
theorem dX0_append_38 : decode cX0_append 38 = .ok (.aload_n 0, 1) := by decide +kernel
theorem dX0_append_39 : decode cX0_append 39 = .ok (.dup, 1) := by decide +kernel
theorem dX0_append_40 : decode cX0_append 40 = .ok (.getfield 21, 3) := by decide +kernel
theorem dX0_append_43 : decode cX0_append 43 = .ok (.iconst 1, 1) := by decide +kernel
theorem dX0_append_44 : decode cX0_append 44 = .ok (.iadd, 1) := by decide +kernel
theorem dX0_append_45 : decode cX0_append 45 = .ok (.putfield 21, 3) := by decide +kernel
theorem dX0_append_48 : decode cX0_append 48 = .ok (.return_, 1) := by decide +kernel
theorem dX0_newestValue_0 : decode cX0_newestValue 0 = .ok (.aload_n 0, 1) := by decide +kernel
theorem dX0_newestValue_1 : decode cX0_newestValue 1 = .ok (.getfield 21, 3) := by decide +kernel
theorem dX0_newestValue_4 : decode cX0_newestValue 4 = .ok (.iconst 1, 1) := by decide +kernel
theorem dX0_newestValue_5 : decode cX0_newestValue 5 = .ok (.isub, 1) := by decide +kernel
theorem dX0_newestValue_6 : decode cX0_newestValue 6 = .ok (.istore_n 3, 1) := by decide +kernel
theorem dX0_newestValue_7 : decode cX0_newestValue 7 = .ok (.iload_n 3, 1) := by decide +kernel
theorem dX0_newestValue_8 : decode cX0_newestValue 8 = .ok (.ifCond .lt 35, 3) := by decide +kernel
theorem dX0_newestValue_11 : decode cX0_newestValue 11 = .ok (.aload_n 0, 1) := by decide +kernel
theorem dX0_newestValue_12 : decode cX0_newestValue 12 = .ok (.getfield 9, 3) := by decide +kernel
theorem dX0_newestValue_15 : decode cX0_newestValue 15 = .ok (.iload_n 3, 1) := by decide +kernel
theorem dX0_newestValue_16 : decode cX0_newestValue 16 = .ok (.iaload, 1) := by decide +kernel
theorem dX0_newestValue_17 : decode cX0_newestValue 17 = .ok (.ifCond .ne 20, 3) := by decide +kernel
theorem dX0_newestValue_20 : decode cX0_newestValue 20 = .ok (.aload_n 0, 1) := by decide +kernel
theorem dX0_newestValue_21 : decode cX0_newestValue 21 = .ok (.getfield 15, 3) := by decide +kernel
theorem dX0_newestValue_24 : decode cX0_newestValue 24 = .ok (.iload_n 3, 1) := by decide +kernel
theorem dX0_newestValue_25 : decode cX0_newestValue 25 = .ok (.iaload, 1) := by decide +kernel
theorem dX0_newestValue_26 : decode cX0_newestValue 26 = .ok (.iload_n 1, 1) := by decide +kernel
theorem dX0_newestValue_27 : decode cX0_newestValue 27 = .ok (.if_icmp .ne 10, 3) := by decide +kernel
theorem dX0_newestValue_30 : decode cX0_newestValue 30 = .ok (.aload_n 0, 1) := by decide +kernel
theorem dX0_newestValue_31 : decode cX0_newestValue 31 = .ok (.getfield 18, 3) := by decide +kernel
theorem dX0_newestValue_34 : decode cX0_newestValue 34 = .ok (.iload_n 3, 1) := by decide +kernel
theorem dX0_newestValue_35 : decode cX0_newestValue 35 = .ok (.iaload, 1) := by decide +kernel
theorem dX0_newestValue_36 : decode cX0_newestValue 36 = .ok (.ireturn, 1) := by decide +kernel
theorem dX0_newestValue_37 : decode cX0_newestValue 37 = .ok (.iinc 3 (-1), 3) := by decide +kernel
theorem dX0_newestValue_40 : decode cX0_newestValue 40 = .ok (.goto (-33), 3) := by decide +kernel
theorem dX0_newestValue_43 : decode cX0_newestValue 43 = .ok (.iload_n 2, 1) := by decide +kernel
theorem dX0_newestValue_44 : decode cX0_newestValue 44 = .ok (.ireturn, 1) := by decide +kernel
theorem dX0_mayLeave_0 : decode cX0_mayLeave 0 = .ok (.iconst 0, 1) := by decide +kernel
theorem dX0_mayLeave_1 : decode cX0_mayLeave 1 = .ok (.istore_n 2, 1) := by decide +kernel
theorem dX0_mayLeave_2 : decode cX0_mayLeave 2 = .ok (.iload_n 2, 1) := by decide +kernel
theorem dX0_mayLeave_3 : decode cX0_mayLeave 3 = .ok (.iload_n 1, 1) := by decide +kernel
theorem dX0_mayLeave_4 : decode cX0_mayLeave 4 = .ok (.if_icmp .ge 20, 3) := by decide +kernel
theorem dX0_mayLeave_7 : decode cX0_mayLeave 7 = .ok (.aload_n 0, 1) := by decide +kernel
theorem dX0_mayLeave_8 : decode cX0_mayLeave 8 = .ok (.iload_n 2, 1) := by decide +kernel
theorem dX0_mayLeave_9 : decode cX0_mayLeave 9 = .ok (.iload_n 1, 1) := by decide +kernel
theorem dX0_mayLeave_10 : decode cX0_mayLeave 10 = .ok (.invokevirtual 29, 3) := by decide +kernel
theorem dX0_mayLeave_13 : decode cX0_mayLeave 13 = .ok (.ifCond .ne 5, 3) := by decide +kernel
theorem dX0_mayLeave_16 : decode cX0_mayLeave 16 = .ok (.iconst 0, 1) := by decide +kernel
theorem dX0_mayLeave_17 : decode cX0_mayLeave 17 = .ok (.ireturn, 1) := by decide +kernel
theorem dX0_mayLeave_18 : decode cX0_mayLeave 18 = .ok (.iinc 2 1, 3) := by decide +kernel
theorem dX0_mayLeave_21 : decode cX0_mayLeave 21 = .ok (.goto (-19), 3) := by decide +kernel
theorem dX0_mayLeave_24 : decode cX0_mayLeave 24 = .ok (.iconst 1, 1) := by decide +kernel
theorem dX0_mayLeave_25 : decode cX0_mayLeave 25 = .ok (.ireturn, 1) := by decide +kernel
theorem dX0_letsPass_0 : decode cX0_letsPass 0 = .ok (.aload_n 0, 1) := by decide +kernel
theorem dX0_letsPass_1 : decode cX0_letsPass 1 = .ok (.getfield 9, 3) := by decide +kernel
theorem dX0_letsPass_4 : decode cX0_letsPass 4 = .ok (.iload_n 1, 1) := by decide +kernel
theorem dX0_letsPass_5 : decode cX0_letsPass 5 = .ok (.iaload, 1) := by decide +kernel
theorem dX0_letsPass_6 : decode cX0_letsPass 6 = .ok (.istore_n 3, 1) := by decide +kernel
theorem dX0_letsPass_7 : decode cX0_letsPass 7 = .ok (.aload_n 0, 1) := by decide +kernel
theorem dX0_letsPass_8 : decode cX0_letsPass 8 = .ok (.getfield 9, 3) := by decide +kernel
theorem dX0_letsPass_11 : decode cX0_letsPass 11 = .ok (.iload_n 2, 1) := by decide +kernel
theorem dX0_letsPass_12 : decode cX0_letsPass 12 = .ok (.iaload, 1) := by decide +kernel
theorem dX0_letsPass_13 : decode cX0_letsPass 13 = .ok (.istore 4, 2) := by decide +kernel
theorem dX0_letsPass_15 : decode cX0_letsPass 15 = .ok (.iload_n 3, 1) := by decide +kernel
theorem dX0_letsPass_16 : decode cX0_letsPass 16 = .ok (.iconst 3, 1) := by decide +kernel
theorem dX0_letsPass_17 : decode cX0_letsPass 17 = .ok (.if_icmp .eq 9, 3) := by decide +kernel
theorem dX0_letsPass_20 : decode cX0_letsPass 20 = .ok (.iload 4, 2) := by decide +kernel
theorem dX0_letsPass_22 : decode cX0_letsPass 22 = .ok (.iconst 3, 1) := by decide +kernel
theorem dX0_letsPass_23 : decode cX0_letsPass 23 = .ok (.if_icmp .ne 5, 3) := by decide +kernel
theorem dX0_letsPass_26 : decode cX0_letsPass 26 = .ok (.iconst 0, 1) := by decide +kernel
theorem dX0_letsPass_27 : decode cX0_letsPass 27 = .ok (.ireturn, 1) := by decide +kernel
theorem dX0_letsPass_28 : decode cX0_letsPass 28 = .ok (.iload_n 3, 1) := by decide +kernel
theorem dX0_letsPass_29 : decode cX0_letsPass 29 = .ok (.iconst 2, 1) := by decide +kernel
theorem dX0_letsPass_30 : decode cX0_letsPass 30 = .ok (.if_icmp .ne 11, 3) := by decide +kernel
theorem dX0_letsPass_33 : decode cX0_letsPass 33 = .ok (.iload 4, 2) := by decide +kernel
theorem dX0_letsPass_35 : decode cX0_letsPass 35 = .ok (.iconst 1, 1) := by decide +kernel
theorem dX0_letsPass_36 : decode cX0_letsPass 36 = .ok (.if_icmp .eq 5, 3) := by decide +kernel
theorem dX0_letsPass_39 : decode cX0_letsPass 39 = .ok (.iconst 1, 1) := by decide +kernel
theorem dX0_letsPass_40 : decode cX0_letsPass 40 = .ok (.ireturn, 1) := by decide +kernel
theorem dX0_letsPass_41 : decode cX0_letsPass 41 = .ok (.iload_n 3, 1) := by decide +kernel
theorem dX0_letsPass_42 : decode cX0_letsPass 42 = .ok (.iconst 2, 1) := by decide +kernel
theorem dX0_letsPass_43 : decode cX0_letsPass 43 = .ok (.if_icmp .eq 9, 3) := by decide +kernel
theorem dX0_letsPass_46 : decode cX0_letsPass 46 = .ok (.iload 4, 2) := by decide +kernel
theorem dX0_letsPass_48 : decode cX0_letsPass 48 = .ok (.iconst 2, 1) := by decide +kernel
theorem dX0_letsPass_49 : decode cX0_letsPass 49 = .ok (.if_icmp .ne 20, 3) := by decide +kernel
theorem dX0_letsPass_52 : decode cX0_letsPass 52 = .ok (.aload_n 0, 1) := by decide +kernel
theorem dX0_letsPass_53 : decode cX0_letsPass 53 = .ok (.iload_n 1, 1) := by decide +kernel
theorem dX0_letsPass_54 : decode cX0_letsPass 54 = .ok (.invokevirtual 33, 3) := by decide +kernel
theorem dX0_letsPass_57 : decode cX0_letsPass 57 = .ok (.aload_n 0, 1) := by decide +kernel
theorem dX0_letsPass_58 : decode cX0_letsPass 58 = .ok (.iload_n 2, 1) := by decide +kernel
theorem dX0_letsPass_59 : decode cX0_letsPass 59 = .ok (.invokevirtual 33, 3) := by decide +kernel
theorem dX0_letsPass_62 : decode cX0_letsPass 62 = .ok (.if_icmp .eq 7, 3) := by decide +kernel
theorem dX0_letsPass_65 : decode cX0_letsPass 65 = .ok (.iconst 1, 1) := by decide +kernel
theorem dX0_letsPass_66 : decode cX0_letsPass 66 = .ok (.goto 4, 3) := by decide +kernel
theorem dX0_letsPass_69 : decode cX0_letsPass 69 = .ok (.iconst 0, 1) := by decide +kernel
theorem dX0_letsPass_70 : decode cX0_letsPass 70 = .ok (.ireturn, 1) := by decide +kernel
theorem dX0_lineOf_0 : decode cX0_lineOf 0 = .ok (.aload_n 0, 1) := by decide +kernel
theorem dX0_lineOf_1 : decode cX0_lineOf 1 = .ok (.getfield 9, 3) := by decide +kernel
theorem dX0_lineOf_4 : decode cX0_lineOf 4 = .ok (.iload_n 1, 1) := by decide +kernel
theorem dX0_lineOf_5 : decode cX0_lineOf 5 = .ok (.iaload, 1) := by decide +kernel
theorem dX0_lineOf_6 : decode cX0_lineOf 6 = .ok (.ifCond .ne 14, 3) := by decide +kernel
theorem dX0_lineOf_9 : decode cX0_lineOf 9 = .ok (.aload_n 0, 1) := by decide +kernel
theorem dX0_lineOf_10 : decode cX0_lineOf 10 = .ok (.getfield 15, 3) := by decide +kernel
theorem dX0_lineOf_13 : decode cX0_lineOf 13 = .ok (.iload_n 1, 1) := by decide +kernel
theorem dX0_lineOf_14 : decode cX0_lineOf 14 = .ok (.iaload, 1) := by decide +kernel
theorem dX0_lineOf_15 : decode cX0_lineOf 15 = .ok (.iconst 4, 1) := by decide +kernel
theorem dX0_lineOf_16 : decode cX0_lineOf 16 = .ok (.idiv, 1) := by decide +kernel
theorem dX0_lineOf_17 : decode cX0_lineOf 17 = .ok (.goto 9, 3) := by decide +kernel
theorem dX0_lineOf_20 : decode cX0_lineOf 20 = .ok (.aload_n 0, 1) := by decide +kernel
theorem dX0_lineOf_21 : decode cX0_lineOf 21 = .ok (.getfield 15, 3) := by decide +kernel
theorem dX0_lineOf_24 : decode cX0_lineOf 24 = .ok (.iload_n 1, 1) := by decide +kernel
theorem dX0_lineOf_25 : decode cX0_lineOf 25 = .ok (.iaload, 1) := by decide +kernel
theorem dX0_lineOf_26 : decode cX0_lineOf 26 = .ok (.ireturn, 1) := by decide +kernel
theorem dX0_letOut_0 : decode cX0_letOut 0 = .ok (.aload_n 0, 1) := by decide +kernel
theorem dX0_letOut_1 : decode cX0_letOut 1 = .ok (.getfield 9, 3) := by decide +kernel
theorem dX0_letOut_4 : decode cX0_letOut 4 = .ok (.iload_n 1, 1) := by decide +kernel
theorem dX0_letOut_5 : decode cX0_letOut 5 = .ok (.iaload, 1) := by decide +kernel
theorem dX0_letOut_6 : decode cX0_letOut 6 = .ok (.ifCond .ne 22, 3) := by decide +kernel
theorem dX0_letOut_9 : decode cX0_letOut 9 = .ok (.aload_n 2, 1) := by decide +kernel
theorem dX0_letOut_10 : decode cX0_letOut 10 = .ok (.aload_n 0, 1) := by decide +kernel
theorem dX0_letOut_11 : decode cX0_letOut 11 = .ok (.getfield 15, 3) := by decide +kernel
theorem dX0_letOut_14 : decode cX0_letOut 14 = .ok (.iload_n 1, 1) := by decide +kernel
theorem dX0_letOut_15 : decode cX0_letOut 15 = .ok (.iaload, 1) := by decide +kernel
theorem dX0_letOut_16 : decode cX0_letOut 16 = .ok (.aload_n 0, 1) := by decide +kernel
theorem dX0_letOut_17 : decode cX0_letOut 17 = .ok (.getfield 18, 3) := by decide +kernel
theorem dX0_letOut_20 : decode cX0_letOut 20 = .ok (.iload_n 1, 1) := by decide +kernel
theorem dX0_letOut_21 : decode cX0_letOut 21 = .ok (.iaload, 1) := by decide +kernel
theorem dX0_letOut_22 : decode cX0_letOut 22 = .ok (.invokevirtual 37, 3) := by decide +kernel
theorem dX0_letOut_25 : decode cX0_letOut 25 = .ok (.goto 23, 3) := by decide +kernel
theorem dX0_letOut_28 : decode cX0_letOut 28 = .ok (.aload_n 0, 1) := by decide +kernel
theorem dX0_letOut_29 : decode cX0_letOut 29 = .ok (.getfield 9, 3) := by decide +kernel
theorem dX0_letOut_32 : decode cX0_letOut 32 = .ok (.iload_n 1, 1) := by decide +kernel
theorem dX0_letOut_33 : decode cX0_letOut 33 = .ok (.iaload, 1) := by decide +kernel
theorem dX0_letOut_34 : decode cX0_letOut 34 = .ok (.iconst 3, 1) := by decide +kernel
theorem dX0_letOut_35 : decode cX0_letOut 35 = .ok (.if_icmp .eq 13, 3) := by decide +kernel
theorem dX0_letOut_38 : decode cX0_letOut 38 = .ok (.aload_n 2, 1) := by decide +kernel
theorem dX0_letOut_39 : decode cX0_letOut 39 = .ok (.aload_n 0, 1) := by decide +kernel
theorem dX0_letOut_40 : decode cX0_letOut 40 = .ok (.getfield 15, 3) := by decide +kernel
theorem dX0_letOut_43 : decode cX0_letOut 43 = .ok (.iload_n 1, 1) := by decide +kernel
theorem dX0_letOut_44 : decode cX0_letOut 44 = .ok (.iaload, 1) := by decide +kernel
theorem dX0_letOut_45 : decode cX0_letOut 45 = .ok (.invokevirtual 43, 3) := by decide +kernel
theorem dX0_letOut_48 : decode cX0_letOut 48 = .ok (.aload_n 0, 1) := by decide +kernel
theorem dX0_letOut_49 : decode cX0_letOut 49 = .ok (.iload_n 1, 1) := by decide +kernel
theorem dX0_letOut_50 : decode cX0_letOut 50 = .ok (.invokevirtual 47, 3) := by decide +kernel
theorem dX0_letOut_53 : decode cX0_letOut 53 = .ok (.return_, 1) := by decide +kernel
theorem dX0_remove_0 : decode cX0_remove 0 = .ok (.aload_n 0, 1) := by decide +kernel
theorem dX0_remove_1 : decode cX0_remove 1 = .ok (.dup, 1) := by decide +kernel
theorem dX0_remove_2 : decode cX0_remove 2 = .ok (.getfield 21, 3) := by decide +kernel
theorem dX0_remove_5 : decode cX0_remove 5 = .ok (.iconst 1, 1) := by decide +kernel
theorem dX0_remove_6 : decode cX0_remove 6 = .ok (.isub, 1) := by decide +kernel
theorem dX0_remove_7 : decode cX0_remove 7 = .ok (.putfield 21, 3) := by decide +kernel
theorem dX0_remove_10 : decode cX0_remove 10 = .ok (.iload_n 1, 1) := by decide +kernel
theorem dX0_remove_11 : decode cX0_remove 11 = .ok (.istore_n 2, 1) := by decide +kernel
theorem dX0_remove_12 : decode cX0_remove 12 = .ok (.iload_n 2, 1) := by decide +kernel
theorem dX0_remove_13 : decode cX0_remove 13 = .ok (.aload_n 0, 1) := by decide +kernel
theorem dX0_remove_14 : decode cX0_remove 14 = .ok (.getfield 21, 3) := by decide +kernel
theorem dX0_remove_17 : decode cX0_remove 17 = .ok (.if_icmp .ge 51, 3) := by decide +kernel
theorem dX0_remove_20 : decode cX0_remove 20 = .ok (.aload_n 0, 1) := by decide +kernel
theorem dX0_remove_21 : decode cX0_remove 21 = .ok (.getfield 9, 3) := by decide +kernel
theorem dX0_remove_24 : decode cX0_remove 24 = .ok (.iload_n 2, 1) := by decide +kernel
theorem dX0_remove_25 : decode cX0_remove 25 = .ok (.aload_n 0, 1) := by decide +kernel
theorem dX0_remove_26 : decode cX0_remove 26 = .ok (.getfield 9, 3) := by decide +kernel
theorem dX0_remove_29 : decode cX0_remove 29 = .ok (.iload_n 2, 1) := by decide +kernel
theorem dX0_remove_30 : decode cX0_remove 30 = .ok (.iconst 1, 1) := by decide +kernel
theorem dX0_remove_31 : decode cX0_remove 31 = .ok (.iadd, 1) := by decide +kernel
theorem dX0_remove_32 : decode cX0_remove 32 = .ok (.iaload, 1) := by decide +kernel
theorem dX0_remove_33 : decode cX0_remove 33 = .ok (.iastore, 1) := by decide +kernel
theorem dX0_remove_34 : decode cX0_remove 34 = .ok (.aload_n 0, 1) := by decide +kernel
theorem dX0_remove_35 : decode cX0_remove 35 = .ok (.getfield 15, 3) := by decide +kernel
theorem dX0_remove_38 : decode cX0_remove 38 = .ok (.iload_n 2, 1) := by decide +kernel
theorem dX0_remove_39 : decode cX0_remove 39 = .ok (.aload_n 0, 1) := by decide +kernel
theorem dX0_remove_40 : decode cX0_remove 40 = .ok (.getfield 15, 3) := by decide +kernel
theorem dX0_remove_43 : decode cX0_remove 43 = .ok (.iload_n 2, 1) := by decide +kernel
theorem dX0_remove_44 : decode cX0_remove 44 = .ok (.iconst 1, 1) := by decide +kernel
theorem dX0_remove_45 : decode cX0_remove 45 = .ok (.iadd, 1) := by decide +kernel
theorem dX0_remove_46 : decode cX0_remove 46 = .ok (.iaload, 1) := by decide +kernel
theorem dX0_remove_47 : decode cX0_remove 47 = .ok (.iastore, 1) := by decide +kernel
theorem dX0_remove_48 : decode cX0_remove 48 = .ok (.aload_n 0, 1) := by decide +kernel
theorem dX0_remove_49 : decode cX0_remove 49 = .ok (.getfield 18, 3) := by decide +kernel
theorem dX0_remove_52 : decode cX0_remove 52 = .ok (.iload_n 2, 1) := by decide +kernel
theorem dX0_remove_53 : decode cX0_remove 53 = .ok (.aload_n 0, 1) := by decide +kernel
theorem dX0_remove_54 : decode cX0_remove 54 = .ok (.getfield 18, 3) := by decide +kernel
theorem dX0_remove_57 : decode cX0_remove 57 = .ok (.iload_n 2, 1) := by decide +kernel
theorem dX0_remove_58 : decode cX0_remove 58 = .ok (.iconst 1, 1) := by decide +kernel
theorem dX0_remove_59 : decode cX0_remove 59 = .ok (.iadd, 1) := by decide +kernel
theorem dX0_remove_60 : decode cX0_remove 60 = .ok (.iaload, 1) := by decide +kernel
theorem dX0_remove_61 : decode cX0_remove 61 = .ok (.iastore, 1) := by decide +kernel
theorem dX0_remove_62 : decode cX0_remove 62 = .ok (.iinc 2 1, 3) := by decide +kernel
theorem dX0_remove_65 : decode cX0_remove 65 = .ok (.goto (-53), 3) := by decide +kernel
theorem dX0_remove_68 : decode cX0_remove 68 = .ok (.return_, 1) := by decide +kernel
