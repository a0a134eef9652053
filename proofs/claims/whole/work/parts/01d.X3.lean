theorem dX3_init_0 : decode cX3_init 0 = .ok (.aload_n 0, 1) := by decide +kernel
theorem dX3_init_1 : decode cX3_init 1 = .ok (.invokespecial 3, 3) := by decide +kernel
theorem dX3_init_4 : decode cX3_init 4 = .ok (.iload_n 1, 1) := by decide +kernel
theorem dX3_init_5 : decode cX3_init 5 = .ok (.iconst 2, 1) := by decide +kernel
theorem dX3_init_6 : decode cX3_init 6 = .ok (.if_icmp .lt 12, 3) := by decide +kernel
theorem dX3_init_9 : decode cX3_init 9 = .ok (.iload_n 1, 1) := by decide +kernel
theorem dX3_init_10 : decode cX3_init 10 = .ok (.iconst 4, 1) := by decide +kernel
theorem dX3_init_11 : decode cX3_init 11 = .ok (.if_icmp .gt 7, 3) := by decide +kernel
theorem dX3_init_14 : decode cX3_init 14 = .ok (.iload_n 1, 1) := by decide +kernel
theorem dX3_init_15 : decode cX3_init 15 = .ok (.goto 4, 3) := by decide +kernel
theorem dX3_init_18 : decode cX3_init 18 = .ok (.iconst 2, 1) := by decide +kernel
theorem dX3_init_19 : decode cX3_init 19 = .ok (.istore_n 3, 1) := by decide +kernel
theorem dX3_init_20 : decode cX3_init 20 = .ok (.iload_n 2, 1) := by decide +kernel
theorem dX3_init_21 : decode cX3_init 21 = .ok (.iconst 1, 1) := by decide +kernel
theorem dX3_init_22 : decode cX3_init 22 = .ok (.if_icmp .lt 13, 3) := by decide +kernel
theorem dX3_init_25 : decode cX3_init 25 = .ok (.iload_n 2, 1) := by decide +kernel
theorem dX3_init_26 : decode cX3_init 26 = .ok (.bipush 8, 2) := by decide +kernel
theorem dX3_init_28 : decode cX3_init 28 = .ok (.if_icmp .gt 7, 3) := by decide +kernel
theorem dX3_init_31 : decode cX3_init 31 = .ok (.iload_n 2, 1) := by decide +kernel
theorem dX3_init_32 : decode cX3_init 32 = .ok (.goto 4, 3) := by decide +kernel
theorem dX3_init_35 : decode cX3_init 35 = .ok (.iconst 4, 1) := by decide +kernel
theorem dX3_init_36 : decode cX3_init 36 = .ok (.istore 4, 2) := by decide +kernel
theorem dX3_init_38 : decode cX3_init 38 = .ok (.aload_n 0, 1) := by decide +kernel
theorem dX3_init_39 : decode cX3_init 39 = .ok (.new 9, 3) := by decide +kernel
theorem dX3_init_42 : decode cX3_init 42 = .ok (.dup, 1) := by decide +kernel
theorem dX3_init_43 : decode cX3_init 43 = .ok (.invokespecial 11, 3) := by decide +kernel
theorem dX3_init_46 : decode cX3_init 46 = .ok (.putfield 12, 3) := by decide +kernel
theorem dX3_init_49 : decode cX3_init 49 = .ok (.aload_n 0, 1) := by decide +kernel
theorem dX3_init_50 : decode cX3_init 50 = .ok (.iload_n 3, 1) := by decide +kernel
theorem dX3_init_51 : decode cX3_init 51 = .ok (.anewarray 16, 3) := by decide +kernel
theorem dX3_init_54 : decode cX3_init 54 = .ok (.putfield 18, 3) := by decide +kernel
theorem dX3_init_57 : decode cX3_init 57 = .ok (.iconst 0, 1) := by decide +kernel
theorem dX3_init_58 : decode cX3_init 58 = .ok (.istore 5, 2) := by decide +kernel
theorem dX3_init_60 : decode cX3_init 60 = .ok (.iload 5, 2) := by decide +kernel
theorem dX3_init_62 : decode cX3_init 62 = .ok (.iload_n 3, 1) := by decide +kernel
theorem dX3_init_63 : decode cX3_init 63 = .ok (.if_icmp .ge 25, 3) := by decide +kernel
theorem dX3_init_66 : decode cX3_init 66 = .ok (.aload_n 0, 1) := by decide +kernel
theorem dX3_init_67 : decode cX3_init 67 = .ok (.getfield 18, 3) := by decide +kernel
theorem dX3_init_70 : decode cX3_init 70 = .ok (.iload 5, 2) := by decide +kernel
theorem dX3_init_72 : decode cX3_init 72 = .ok (.new 16, 3) := by decide +kernel
theorem dX3_init_75 : decode cX3_init 75 = .ok (.dup, 1) := by decide +kernel
theorem dX3_init_76 : decode cX3_init 76 = .ok (.iload 4, 2) := by decide +kernel
theorem dX3_init_78 : decode cX3_init 78 = .ok (.invokespecial 22, 3) := by decide +kernel
theorem dX3_init_81 : decode cX3_init 81 = .ok (.aastore, 1) := by decide +kernel
theorem dX3_init_82 : decode cX3_init 82 = .ok (.iinc 5 1, 3) := by decide +kernel
theorem dX3_init_85 : decode cX3_init 85 = .ok (.goto (-25), 3) := by decide +kernel
theorem dX3_init_88 : decode cX3_init 88 = .ok (.return_, 1) := by decide +kernel
theorem dX3_put_0 : decode cX3_put 0 = .ok (.aload_n 0, 1) := by decide +kernel
theorem dX3_put_1 : decode cX3_put 1 = .ok (.iload_n 1, 1) := by decide +kernel
theorem dX3_put_2 : decode cX3_put 2 = .ok (.invokevirtual 25, 3) := by decide +kernel
theorem dX3_put_5 : decode cX3_put 5 = .ok (.ifCond .eq 20, 3) := by decide +kernel
theorem dX3_put_8 : decode cX3_put 8 = .ok (.iload_n 2, 1) := by decide +kernel
theorem dX3_put_9 : decode cX3_put 9 = .ok (.invokestatic 29, 3) := by decide +kernel
theorem dX3_put_12 : decode cX3_put 12 = .ok (.ifCond .eq 13, 3) := by decide +kernel
theorem dX3_put_15 : decode cX3_put 15 = .ok (.iload_n 3, 1) := by decide +kernel
theorem dX3_put_16 : decode cX3_put 16 = .ok (.ifCond .lt 9, 3) := by decide +kernel
theorem dX3_put_19 : decode cX3_put 19 = .ok (.iload_n 3, 1) := by decide +kernel
theorem dX3_put_20 : decode cX3_put 20 = .ok (.bipush 10, 2) := by decide +kernel
theorem dX3_put_22 : decode cX3_put 22 = .ok (.if_icmp .le 5, 3) := by decide +kernel
theorem dX3_put_25 : decode cX3_put 25 = .ok (.iconst 0, 1) := by decide +kernel
theorem dX3_put_26 : decode cX3_put 26 = .ok (.ireturn, 1) := by decide +kernel
theorem dX3_put_27 : decode cX3_put 27 = .ok (.iload 4, 2) := by decide +kernel
theorem dX3_put_29 : decode cX3_put 29 = .ok (.invokestatic 32, 3) := by decide +kernel
theorem dX3_put_32 : decode cX3_put 32 = .ok (.ifCond .eq 25, 3) := by decide +kernel
theorem dX3_put_35 : decode cX3_put 35 = .ok (.iload 5, 2) := by decide +kernel
theorem dX3_put_37 : decode cX3_put 37 = .ok (.invokestatic 32, 3) := by decide +kernel
theorem dX3_put_40 : decode cX3_put 40 = .ok (.ifCond .eq 17, 3) := by decide +kernel
theorem dX3_put_43 : decode cX3_put 43 = .ok (.iload_n 3, 1) := by decide +kernel
theorem dX3_put_44 : decode cX3_put 44 = .ok (.bipush 10, 2) := by decide +kernel
theorem dX3_put_46 : decode cX3_put 46 = .ok (.if_icmp .ne 13, 3) := by decide +kernel
theorem dX3_put_49 : decode cX3_put 49 = .ok (.iload 6, 2) := by decide +kernel
theorem dX3_put_51 : decode cX3_put 51 = .ok (.invokestatic 29, 3) := by decide +kernel
theorem dX3_put_54 : decode cX3_put 54 = .ok (.ifCond .ne 5, 3) := by decide +kernel
theorem dX3_put_57 : decode cX3_put 57 = .ok (.iconst 0, 1) := by decide +kernel
theorem dX3_put_58 : decode cX3_put 58 = .ok (.ireturn, 1) := by decide +kernel
theorem dX3_put_59 : decode cX3_put 59 = .ok (.aload_n 0, 1) := by decide +kernel
theorem dX3_put_60 : decode cX3_put 60 = .ok (.getfield 18, 3) := by decide +kernel
theorem dX3_put_63 : decode cX3_put 63 = .ok (.iload_n 1, 1) := by decide +kernel
theorem dX3_put_64 : decode cX3_put 64 = .ok (.aaload, 1) := by decide +kernel
theorem dX3_put_65 : decode cX3_put 65 = .ok (.iload_n 2, 1) := by decide +kernel
theorem dX3_put_66 : decode cX3_put 66 = .ok (.iload_n 3, 1) := by decide +kernel
theorem dX3_put_67 : decode cX3_put 67 = .ok (.iload 4, 2) := by decide +kernel
theorem dX3_put_69 : decode cX3_put 69 = .ok (.iload 5, 2) := by decide +kernel
theorem dX3_put_71 : decode cX3_put 71 = .ok (.iload 6, 2) := by decide +kernel
theorem dX3_put_73 : decode cX3_put 73 = .ok (.invokevirtual 35, 3) := by decide +kernel
theorem dX3_put_76 : decode cX3_put 76 = .ok (.iconst 1, 1) := by decide +kernel
theorem dX3_put_77 : decode cX3_put 77 = .ok (.ireturn, 1) := by decide +kernel
theorem dX3_recovery_0 : decode cX3_recovery 0 = .ok (.aload_n 0, 1) := by decide +kernel
theorem dX3_recovery_1 : decode cX3_recovery 1 = .ok (.iload_n 1, 1) := by decide +kernel
theorem dX3_recovery_2 : decode cX3_recovery 2 = .ok (.invokevirtual 25, 3) := by decide +kernel
theorem dX3_recovery_5 : decode cX3_recovery 5 = .ok (.ifCond .eq 10, 3) := by decide +kernel
theorem dX3_recovery_8 : decode cX3_recovery 8 = .ok (.iload_n 2, 1) := by decide +kernel
theorem dX3_recovery_9 : decode cX3_recovery 9 = .ok (.invokestatic 29, 3) := by decide +kernel
theorem dX3_recovery_12 : decode cX3_recovery 12 = .ok (.ifCond .ne 5, 3) := by decide +kernel
theorem dX3_recovery_15 : decode cX3_recovery 15 = .ok (.iconst 0, 1) := by decide +kernel
theorem dX3_recovery_16 : decode cX3_recovery 16 = .ok (.ireturn, 1) := by decide +kernel
theorem dX3_recovery_17 : decode cX3_recovery 17 = .ok (.aload_n 0, 1) := by decide +kernel
theorem dX3_recovery_18 : decode cX3_recovery 18 = .ok (.getfield 18, 3) := by decide +kernel
theorem dX3_recovery_21 : decode cX3_recovery 21 = .ok (.iload_n 1, 1) := by decide +kernel
theorem dX3_recovery_22 : decode cX3_recovery 22 = .ok (.aaload, 1) := by decide +kernel
theorem dX3_recovery_23 : decode cX3_recovery 23 = .ok (.iload_n 2, 1) := by decide +kernel
theorem dX3_recovery_24 : decode cX3_recovery 24 = .ok (.putfield 39, 3) := by decide +kernel
theorem dX3_recovery_27 : decode cX3_recovery 27 = .ok (.iconst 1, 1) := by decide +kernel
theorem dX3_recovery_28 : decode cX3_recovery 28 = .ok (.ireturn, 1) := by decide +kernel
theorem dX3_step_0 : decode cX3_step 0 = .ok (.aload_n 0, 1) := by decide +kernel
theorem dX3_step_1 : decode cX3_step 1 = .ok (.iload_n 1, 1) := by decide +kernel
theorem dX3_step_2 : decode cX3_step 2 = .ok (.invokevirtual 25, 3) := by decide +kernel
theorem dX3_step_5 : decode cX3_step 5 = .ok (.ifCond .eq 19, 3) := by decide +kernel
theorem dX3_step_8 : decode cX3_step 8 = .ok (.aload_n 0, 1) := by decide +kernel
theorem dX3_step_9 : decode cX3_step 9 = .ok (.getfield 18, 3) := by decide +kernel
theorem dX3_step_12 : decode cX3_step 12 = .ok (.iload_n 1, 1) := by decide +kernel
theorem dX3_step_13 : decode cX3_step 13 = .ok (.aaload, 1) := by decide +kernel
theorem dX3_step_14 : decode cX3_step 14 = .ok (.aload_n 0, 1) := by decide +kernel
theorem dX3_step_15 : decode cX3_step 15 = .ok (.getfield 12, 3) := by decide +kernel
theorem dX3_step_18 : decode cX3_step 18 = .ok (.invokevirtual 43, 3) := by decide +kernel
theorem dX3_step_21 : decode cX3_step 21 = .ok (.goto 4, 3) := by decide +kernel
theorem dX3_step_24 : decode cX3_step 24 = .ok (.iconst (-1), 1) := by decide +kernel
theorem dX3_step_25 : decode cX3_step 25 = .ok (.ireturn, 1) := by decide +kernel
theorem dX3_run_0 : decode cX3_run 0 = .ok (.aload_n 0, 1) := by decide +kernel
theorem dX3_run_1 : decode cX3_run 1 = .ok (.iload_n 1, 1) := by decide +kernel
theorem dX3_run_2 : decode cX3_run 2 = .ok (.invokevirtual 25, 3) := by decide +kernel
theorem dX3_run_5 : decode cX3_run 5 = .ok (.ifCond .eq 13, 3) := by decide +kernel
theorem dX3_run_8 : decode cX3_run 8 = .ok (.iload_n 2, 1) := by decide +kernel
theorem dX3_run_9 : decode cX3_run 9 = .ok (.ifCond .lt 9, 3) := by decide +kernel
theorem dX3_run_12 : decode cX3_run 12 = .ok (.iload_n 2, 1) := by decide +kernel
theorem dX3_run_13 : decode cX3_run 13 = .ok (.bipush 20, 2) := by decide +kernel
theorem dX3_run_15 : decode cX3_run 15 = .ok (.if_icmp .le 5, 3) := by decide +kernel
theorem dX3_run_18 : decode cX3_run 18 = .ok (.iconst (-1), 1) := by decide +kernel
theorem dX3_run_19 : decode cX3_run 19 = .ok (.ireturn, 1) := by decide +kernel
theorem dX3_run_20 : decode cX3_run 20 = .ok (.iconst 0, 1) := by decide +kernel
theorem dX3_run_21 : decode cX3_run 21 = .ok (.istore_n 3, 1) := by decide +kernel
theorem dX3_run_22 : decode cX3_run 22 = .ok (.iload_n 3, 1) := by decide +kernel
theorem dX3_run_23 : decode cX3_run 23 = .ok (.iload_n 2, 1) := by decide +kernel
theorem dX3_run_24 : decode cX3_run 24 = .ok (.if_icmp .ge 27, 3) := by decide +kernel
theorem dX3_run_27 : decode cX3_run 27 = .ok (.aload_n 0, 1) := by decide +kernel
theorem dX3_run_28 : decode cX3_run 28 = .ok (.getfield 18, 3) := by decide +kernel
theorem dX3_run_31 : decode cX3_run 31 = .ok (.iload_n 1, 1) := by decide +kernel
theorem dX3_run_32 : decode cX3_run 32 = .ok (.aaload, 1) := by decide +kernel
theorem dX3_run_33 : decode cX3_run 33 = .ok (.aload_n 0, 1) := by decide +kernel
theorem dX3_run_34 : decode cX3_run 34 = .ok (.getfield 12, 3) := by decide +kernel
theorem dX3_run_37 : decode cX3_run 37 = .ok (.invokevirtual 43, 3) := by decide +kernel
theorem dX3_run_40 : decode cX3_run 40 = .ok (.ifCond .eq 5, 3) := by decide +kernel
theorem dX3_run_43 : decode cX3_run 43 = .ok (.iload_n 3, 1) := by decide +kernel
theorem dX3_run_44 : decode cX3_run 44 = .ok (.ireturn, 1) := by decide +kernel
theorem dX3_run_45 : decode cX3_run 45 = .ok (.iinc 3 1, 3) := by decide +kernel
theorem dX3_run_48 : decode cX3_run 48 = .ok (.goto (-26), 3) := by decide +kernel
theorem dX3_run_51 : decode cX3_run 51 = .ok (.iload_n 2, 1) := by decide +kernel
theorem dX3_run_52 : decode cX3_run 52 = .ok (.ireturn, 1) := by decide +kernel
theorem dX3_drain_0 : decode cX3_drain 0 = .ok (.aload_n 0, 1) := by decide +kernel
theorem dX3_drain_1 : decode cX3_drain 1 = .ok (.iload_n 1, 1) := by decide +kernel
theorem dX3_drain_2 : decode cX3_drain 2 = .ok (.iload_n 2, 1) := by decide +kernel
theorem dX3_drain_3 : decode cX3_drain 3 = .ok (.invokevirtual 47, 3) := by decide +kernel
theorem dX3_drain_6 : decode cX3_drain 6 = .ok (.ifCond .eq 19, 3) := by decide +kernel
theorem dX3_drain_9 : decode cX3_drain 9 = .ok (.aload_n 0, 1) := by decide +kernel
theorem dX3_drain_10 : decode cX3_drain 10 = .ok (.getfield 18, 3) := by decide +kernel
theorem dX3_drain_13 : decode cX3_drain 13 = .ok (.iload_n 1, 1) := by decide +kernel
theorem dX3_drain_14 : decode cX3_drain 14 = .ok (.aaload, 1) := by decide +kernel
theorem dX3_drain_15 : decode cX3_drain 15 = .ok (.getfield 51, 3) := by decide +kernel
theorem dX3_drain_18 : decode cX3_drain 18 = .ok (.iload_n 2, 1) := by decide +kernel
theorem dX3_drain_19 : decode cX3_drain 19 = .ok (.invokevirtual 55, 3) := by decide +kernel
theorem dX3_drain_22 : decode cX3_drain 22 = .ok (.ifCond .ne 5, 3) := by decide +kernel
theorem dX3_drain_25 : decode cX3_drain 25 = .ok (.iconst 0, 1) := by decide +kernel
theorem dX3_drain_26 : decode cX3_drain 26 = .ok (.ireturn, 1) := by decide +kernel
theorem dX3_drain_27 : decode cX3_drain 27 = .ok (.aload_n 0, 1) := by decide +kernel
theorem dX3_drain_28 : decode cX3_drain 28 = .ok (.getfield 18, 3) := by decide +kernel
theorem dX3_drain_31 : decode cX3_drain 31 = .ok (.iload_n 1, 1) := by decide +kernel
theorem dX3_drain_32 : decode cX3_drain 32 = .ok (.aaload, 1) := by decide +kernel
theorem dX3_drain_33 : decode cX3_drain 33 = .ok (.getfield 51, 3) := by decide +kernel
theorem dX3_drain_36 : decode cX3_drain 36 = .ok (.iload_n 2, 1) := by decide +kernel
theorem dX3_drain_37 : decode cX3_drain 37 = .ok (.aload_n 0, 1) := by decide +kernel
theorem dX3_drain_38 : decode cX3_drain 38 = .ok (.getfield 12, 3) := by decide +kernel
theorem dX3_drain_41 : decode cX3_drain 41 = .ok (.invokevirtual 60, 3) := by decide +kernel
theorem dX3_drain_44 : decode cX3_drain 44 = .ok (.iconst 1, 1) := by decide +kernel
theorem dX3_drain_45 : decode cX3_drain 45 = .ok (.ireturn, 1) := by decide +kernel
theorem dX3_settle_0 : decode cX3_settle 0 = .ok (.aload_n 0, 1) := by decide +kernel
theorem dX3_settle_1 : decode cX3_settle 1 = .ok (.iload_n 1, 1) := by decide +kernel
theorem dX3_settle_2 : decode cX3_settle 2 = .ok (.invokevirtual 25, 3) := by decide +kernel
theorem dX3_settle_5 : decode cX3_settle 5 = .ok (.ifCond .ne 5, 3) := by decide +kernel
theorem dX3_settle_8 : decode cX3_settle 8 = .ok (.iconst (-1), 1) := by decide +kernel
theorem dX3_settle_9 : decode cX3_settle 9 = .ok (.ireturn, 1) := by decide +kernel
theorem dX3_settle_10 : decode cX3_settle 10 = .ok (.aload_n 0, 1) := by decide +kernel
theorem dX3_settle_11 : decode cX3_settle 11 = .ok (.getfield 18, 3) := by decide +kernel
theorem dX3_settle_14 : decode cX3_settle 14 = .ok (.iload_n 1, 1) := by decide +kernel
theorem dX3_settle_15 : decode cX3_settle 15 = .ok (.aaload, 1) := by decide +kernel
theorem dX3_settle_16 : decode cX3_settle 16 = .ok (.getfield 51, 3) := by decide +kernel
theorem dX3_settle_19 : decode cX3_settle 19 = .ok (.astore_n 2, 1) := by decide +kernel
theorem dX3_settle_20 : decode cX3_settle 20 = .ok (.aload_n 2, 1) := by decide +kernel
theorem dX3_settle_21 : decode cX3_settle 21 = .ok (.getfield 64, 3) := by decide +kernel
theorem dX3_settle_24 : decode cX3_settle 24 = .ok (.istore_n 3, 1) := by decide +kernel
theorem dX3_settle_25 : decode cX3_settle 25 = .ok (.iconst 0, 1) := by decide +kernel
theorem dX3_settle_26 : decode cX3_settle 26 = .ok (.istore 4, 2) := by decide +kernel
theorem dX3_settle_28 : decode cX3_settle 28 = .ok (.iload 4, 2) := by decide +kernel
theorem dX3_settle_30 : decode cX3_settle 30 = .ok (.iload_n 3, 1) := by decide +kernel
theorem dX3_settle_31 : decode cX3_settle 31 = .ok (.if_icmp .ge 18, 3) := by decide +kernel
theorem dX3_settle_34 : decode cX3_settle 34 = .ok (.aload_n 2, 1) := by decide +kernel
theorem dX3_settle_35 : decode cX3_settle 35 = .ok (.iconst 0, 1) := by decide +kernel
theorem dX3_settle_36 : decode cX3_settle 36 = .ok (.aload_n 0, 1) := by decide +kernel
theorem dX3_settle_37 : decode cX3_settle 37 = .ok (.getfield 12, 3) := by decide +kernel
theorem dX3_settle_40 : decode cX3_settle 40 = .ok (.invokevirtual 60, 3) := by decide +kernel
theorem dX3_settle_43 : decode cX3_settle 43 = .ok (.iinc 4 1, 3) := by decide +kernel
theorem dX3_settle_46 : decode cX3_settle 46 = .ok (.goto (-18), 3) := by decide +kernel
theorem dX3_settle_49 : decode cX3_settle 49 = .ok (.iload_n 3, 1) := by decide +kernel
theorem dX3_settle_50 : decode cX3_settle 50 = .ok (.ireturn, 1) := by decide +kernel
theorem dX3_evict_0 : decode cX3_evict 0 = .ok (.iload_n 1, 1) := by decide +kernel
theorem dX3_evict_1 : decode cX3_evict 1 = .ok (.invokestatic 67, 3) := by decide +kernel
theorem dX3_evict_4 : decode cX3_evict 4 = .ok (.ifCond .ne 5, 3) := by decide +kernel
theorem dX3_evict_7 : decode cX3_evict 7 = .ok (.iconst 0, 1) := by decide +kernel
theorem dX3_evict_8 : decode cX3_evict 8 = .ok (.ireturn, 1) := by decide +kernel
theorem dX3_evict_9 : decode cX3_evict 9 = .ok (.aload_n 0, 1) := by decide +kernel
theorem dX3_evict_10 : decode cX3_evict 10 = .ok (.getfield 12, 3) := by decide +kernel
theorem dX3_evict_13 : decode cX3_evict 13 = .ok (.iload_n 1, 1) := by decide +kernel
theorem dX3_evict_14 : decode cX3_evict 14 = .ok (.invokevirtual 70, 3) := by decide +kernel
theorem dX3_evict_17 : decode cX3_evict 17 = .ok (.iconst 1, 1) := by decide +kernel
theorem dX3_evict_18 : decode cX3_evict 18 = .ok (.ireturn, 1) := by decide +kernel
theorem dX3_crash_0 : decode cX3_crash 0 = .ok (.aload_n 0, 1) := by decide +kernel
theorem dX3_crash_1 : decode cX3_crash 1 = .ok (.getfield 12, 3) := by decide +kernel
theorem dX3_crash_4 : decode cX3_crash 4 = .ok (.invokevirtual 73, 3) := by decide +kernel
theorem dX3_crash_7 : decode cX3_crash 7 = .ok (.iconst 0, 1) := by decide +kernel
theorem dX3_crash_8 : decode cX3_crash 8 = .ok (.istore_n 1, 1) := by decide +kernel
theorem dX3_crash_9 : decode cX3_crash 9 = .ok (.iload_n 1, 1) := by decide +kernel
theorem dX3_crash_10 : decode cX3_crash 10 = .ok (.aload_n 0, 1) := by decide +kernel
theorem dX3_crash_11 : decode cX3_crash 11 = .ok (.getfield 18, 3) := by decide +kernel
theorem dX3_crash_14 : decode cX3_crash 14 = .ok (.arraylength, 1) := by decide +kernel
theorem dX3_crash_15 : decode cX3_crash 15 = .ok (.if_icmp .ge 18, 3) := by decide +kernel
theorem dX3_crash_18 : decode cX3_crash 18 = .ok (.aload_n 0, 1) := by decide +kernel
theorem dX3_crash_19 : decode cX3_crash 19 = .ok (.getfield 18, 3) := by decide +kernel
theorem dX3_crash_22 : decode cX3_crash 22 = .ok (.iload_n 1, 1) := by decide +kernel
theorem dX3_crash_23 : decode cX3_crash 23 = .ok (.aaload, 1) := by decide +kernel
theorem dX3_crash_24 : decode cX3_crash 24 = .ok (.invokevirtual 76, 3) := by decide +kernel
theorem dX3_crash_27 : decode cX3_crash 27 = .ok (.iinc 1 1, 3) := by decide +kernel
theorem dX3_crash_30 : decode cX3_crash 30 = .ok (.goto (-21), 3) := by decide +kernel
theorem dX3_crash_33 : decode cX3_crash 33 = .ok (.return_, 1) := by decide +kernel
theorem dX3_register_0 : decode cX3_register 0 = .ok (.aload_n 0, 1) := by decide +kernel
theorem dX3_register_1 : decode cX3_register 1 = .ok (.iload_n 1, 1) := by decide +kernel
theorem dX3_register_2 : decode cX3_register 2 = .ok (.invokevirtual 25, 3) := by decide +kernel
theorem dX3_register_5 : decode cX3_register 5 = .ok (.ifCond .eq 24, 3) := by decide +kernel
theorem dX3_register_8 : decode cX3_register 8 = .ok (.iload_n 2, 1) := by decide +kernel
theorem dX3_register_9 : decode cX3_register 9 = .ok (.invokestatic 32, 3) := by decide +kernel
theorem dX3_register_12 : decode cX3_register 12 = .ok (.ifCond .eq 17, 3) := by decide +kernel
theorem dX3_register_15 : decode cX3_register 15 = .ok (.aload_n 0, 1) := by decide +kernel
theorem dX3_register_16 : decode cX3_register 16 = .ok (.getfield 18, 3) := by decide +kernel
theorem dX3_register_19 : decode cX3_register 19 = .ok (.iload_n 1, 1) := by decide +kernel
theorem dX3_register_20 : decode cX3_register 20 = .ok (.aaload, 1) := by decide +kernel
theorem dX3_register_21 : decode cX3_register 21 = .ok (.getfield 79, 3) := by decide +kernel
theorem dX3_register_24 : decode cX3_register 24 = .ok (.iload_n 2, 1) := by decide +kernel
theorem dX3_register_25 : decode cX3_register 25 = .ok (.iaload, 1) := by decide +kernel
theorem dX3_register_26 : decode cX3_register 26 = .ok (.goto 4, 3) := by decide +kernel
theorem dX3_register_29 : decode cX3_register 29 = .ok (.iconst 0, 1) := by decide +kernel
theorem dX3_register_30 : decode cX3_register 30 = .ok (.ireturn, 1) := by decide +kernel
theorem dX3_place_0 : decode cX3_place 0 = .ok (.aload_n 0, 1) := by decide +kernel
theorem dX3_place_1 : decode cX3_place 1 = .ok (.iload_n 1, 1) := by decide +kernel
theorem dX3_place_2 : decode cX3_place 2 = .ok (.invokevirtual 25, 3) := by decide +kernel
theorem dX3_place_5 : decode cX3_place 5 = .ok (.ifCond .eq 15, 3) := by decide +kernel
theorem dX3_place_8 : decode cX3_place 8 = .ok (.aload_n 0, 1) := by decide +kernel
theorem dX3_place_9 : decode cX3_place 9 = .ok (.getfield 18, 3) := by decide +kernel
theorem dX3_place_12 : decode cX3_place 12 = .ok (.iload_n 1, 1) := by decide +kernel
theorem dX3_place_13 : decode cX3_place 13 = .ok (.aaload, 1) := by decide +kernel
theorem dX3_place_14 : decode cX3_place 14 = .ok (.getfield 83, 3) := by decide +kernel
theorem dX3_place_17 : decode cX3_place 17 = .ok (.goto 4, 3) := by decide +kernel
theorem dX3_place_20 : decode cX3_place 20 = .ok (.iconst (-1), 1) := by decide +kernel
theorem dX3_place_21 : decode cX3_place 21 = .ok (.ireturn, 1) := by decide +kernel
theorem dX3_pending_0 : decode cX3_pending 0 = .ok (.aload_n 0, 1) := by decide +kernel
theorem dX3_pending_1 : decode cX3_pending 1 = .ok (.iload_n 1, 1) := by decide +kernel
theorem dX3_pending_2 : decode cX3_pending 2 = .ok (.invokevirtual 25, 3) := by decide +kernel
theorem dX3_pending_5 : decode cX3_pending 5 = .ok (.ifCond .eq 18, 3) := by decide +kernel
theorem dX3_pending_8 : decode cX3_pending 8 = .ok (.aload_n 0, 1) := by decide +kernel
theorem dX3_pending_9 : decode cX3_pending 9 = .ok (.getfield 18, 3) := by decide +kernel
theorem dX3_pending_12 : decode cX3_pending 12 = .ok (.iload_n 1, 1) := by decide +kernel
theorem dX3_pending_13 : decode cX3_pending 13 = .ok (.aaload, 1) := by decide +kernel
theorem dX3_pending_14 : decode cX3_pending 14 = .ok (.getfield 51, 3) := by decide +kernel
theorem dX3_pending_17 : decode cX3_pending 17 = .ok (.getfield 64, 3) := by decide +kernel
theorem dX3_pending_20 : decode cX3_pending 20 = .ok (.goto 4, 3) := by decide +kernel
theorem dX3_pending_23 : decode cX3_pending 23 = .ok (.iconst (-1), 1) := by decide +kernel
theorem dX3_pending_24 : decode cX3_pending 24 = .ok (.ireturn, 1) := by decide +kernel
theorem dX3_entry_0 : decode cX3_entry 0 = .ok (.aload_n 0, 1) := by decide +kernel
theorem dX3_entry_1 : decode cX3_entry 1 = .ok (.iload_n 1, 1) := by decide +kernel
theorem dX3_entry_2 : decode cX3_entry 2 = .ok (.iload_n 2, 1) := by decide +kernel
theorem dX3_entry_3 : decode cX3_entry 3 = .ok (.invokevirtual 47, 3) := by decide +kernel
theorem dX3_entry_6 : decode cX3_entry 6 = .ok (.ifCond .ne 5, 3) := by decide +kernel
theorem dX3_entry_9 : decode cX3_entry 9 = .ok (.iconst (-1), 1) := by decide +kernel
theorem dX3_entry_10 : decode cX3_entry 10 = .ok (.ireturn, 1) := by decide +kernel
theorem dX3_entry_11 : decode cX3_entry 11 = .ok (.aload_n 0, 1) := by decide +kernel
theorem dX3_entry_12 : decode cX3_entry 12 = .ok (.getfield 18, 3) := by decide +kernel
theorem dX3_entry_15 : decode cX3_entry 15 = .ok (.iload_n 1, 1) := by decide +kernel
theorem dX3_entry_16 : decode cX3_entry 16 = .ok (.aaload, 1) := by decide +kernel
theorem dX3_entry_17 : decode cX3_entry 17 = .ok (.getfield 51, 3) := by decide +kernel
theorem dX3_entry_20 : decode cX3_entry 20 = .ok (.astore 4, 2) := by decide +kernel
theorem dX3_entry_22 : decode cX3_entry 22 = .ok (.iload_n 3, 1) := by decide +kernel
theorem dX3_entry_23 : decode cX3_entry 23 = .ok (.tableswitch 49 0 2 #[25, 33, 41], 25) := by decide +kernel
theorem dX3_entry_48 : decode cX3_entry 48 = .ok (.aload 4, 2) := by decide +kernel
theorem dX3_entry_50 : decode cX3_entry 50 = .ok (.getfield 86, 3) := by decide +kernel
theorem dX3_entry_53 : decode cX3_entry 53 = .ok (.iload_n 2, 1) := by decide +kernel
theorem dX3_entry_54 : decode cX3_entry 54 = .ok (.iaload, 1) := by decide +kernel
theorem dX3_entry_55 : decode cX3_entry 55 = .ok (.ireturn, 1) := by decide +kernel
theorem dX3_entry_56 : decode cX3_entry 56 = .ok (.aload 4, 2) := by decide +kernel
theorem dX3_entry_58 : decode cX3_entry 58 = .ok (.getfield 89, 3) := by decide +kernel
theorem dX3_entry_61 : decode cX3_entry 61 = .ok (.iload_n 2, 1) := by decide +kernel
theorem dX3_entry_62 : decode cX3_entry 62 = .ok (.iaload, 1) := by decide +kernel
theorem dX3_entry_63 : decode cX3_entry 63 = .ok (.ireturn, 1) := by decide +kernel
theorem dX3_entry_64 : decode cX3_entry 64 = .ok (.aload 4, 2) := by decide +kernel
theorem dX3_entry_66 : decode cX3_entry 66 = .ok (.getfield 92, 3) := by decide +kernel
theorem dX3_entry_69 : decode cX3_entry 69 = .ok (.iload_n 2, 1) := by decide +kernel
theorem dX3_entry_70 : decode cX3_entry 70 = .ok (.iaload, 1) := by decide +kernel
theorem dX3_entry_71 : decode cX3_entry 71 = .ok (.ireturn, 1) := by decide +kernel
theorem dX3_entry_72 : decode cX3_entry 72 = .ok (.iconst (-1), 1) := by decide +kernel
theorem dX3_entry_73 : decode cX3_entry 73 = .ok (.ireturn, 1) := by decide +kernel
theorem dX3_sees_0 : decode cX3_sees 0 = .ok (.aload_n 0, 1) := by decide +kernel
theorem dX3_sees_1 : decode cX3_sees 1 = .ok (.iload_n 1, 1) := by decide +kernel
theorem dX3_sees_2 : decode cX3_sees 2 = .ok (.invokevirtual 25, 3) := by decide +kernel
theorem dX3_sees_5 : decode cX3_sees 5 = .ok (.ifCond .eq 35, 3) := by decide +kernel
theorem dX3_sees_8 : decode cX3_sees 8 = .ok (.iload_n 2, 1) := by decide +kernel
theorem dX3_sees_9 : decode cX3_sees 9 = .ok (.invokestatic 95, 3) := by decide +kernel
theorem dX3_sees_12 : decode cX3_sees 12 = .ok (.ifCond .eq 28, 3) := by decide +kernel
theorem dX3_sees_15 : decode cX3_sees 15 = .ok (.aload_n 0, 1) := by decide +kernel
theorem dX3_sees_16 : decode cX3_sees 16 = .ok (.getfield 18, 3) := by decide +kernel
theorem dX3_sees_19 : decode cX3_sees 19 = .ok (.iload_n 1, 1) := by decide +kernel
theorem dX3_sees_20 : decode cX3_sees 20 = .ok (.aaload, 1) := by decide +kernel
theorem dX3_sees_21 : decode cX3_sees 21 = .ok (.getfield 51, 3) := by decide +kernel
theorem dX3_sees_24 : decode cX3_sees 24 = .ok (.iload_n 2, 1) := by decide +kernel
theorem dX3_sees_25 : decode cX3_sees 25 = .ok (.aload_n 0, 1) := by decide +kernel
theorem dX3_sees_26 : decode cX3_sees 26 = .ok (.getfield 12, 3) := by decide +kernel
theorem dX3_sees_29 : decode cX3_sees 29 = .ok (.getfield 98, 3) := by decide +kernel
theorem dX3_sees_32 : decode cX3_sees 32 = .ok (.iload_n 2, 1) := by decide +kernel
theorem dX3_sees_33 : decode cX3_sees 33 = .ok (.iaload, 1) := by decide +kernel
theorem dX3_sees_34 : decode cX3_sees 34 = .ok (.invokevirtual 101, 3) := by decide +kernel
theorem dX3_sees_37 : decode cX3_sees 37 = .ok (.goto 4, 3) := by decide +kernel
theorem dX3_sees_40 : decode cX3_sees 40 = .ok (.iconst 0, 1) := by decide +kernel
theorem dX3_sees_41 : decode cX3_sees 41 = .ok (.ireturn, 1) := by decide +kernel
theorem dX3_memory_0 : decode cX3_memory 0 = .ok (.iload_n 1, 1) := by decide +kernel
theorem dX3_memory_1 : decode cX3_memory 1 = .ok (.invokestatic 95, 3) := by decide +kernel
theorem dX3_memory_4 : decode cX3_memory 4 = .ok (.ifCond .eq 15, 3) := by decide +kernel
theorem dX3_memory_7 : decode cX3_memory 7 = .ok (.aload_n 0, 1) := by decide +kernel
theorem dX3_memory_8 : decode cX3_memory 8 = .ok (.getfield 12, 3) := by decide +kernel
theorem dX3_memory_11 : decode cX3_memory 11 = .ok (.getfield 98, 3) := by decide +kernel
theorem dX3_memory_14 : decode cX3_memory 14 = .ok (.iload_n 1, 1) := by decide +kernel
theorem dX3_memory_15 : decode cX3_memory 15 = .ok (.iaload, 1) := by decide +kernel
theorem dX3_memory_16 : decode cX3_memory 16 = .ok (.goto 4, 3) := by decide +kernel
theorem dX3_memory_19 : decode cX3_memory 19 = .ok (.iconst 0, 1) := by decide +kernel
theorem dX3_memory_20 : decode cX3_memory 20 = .ok (.ireturn, 1) := by decide +kernel
theorem dX3_storage_0 : decode cX3_storage 0 = .ok (.iload_n 1, 1) := by decide +kernel
theorem dX3_storage_1 : decode cX3_storage 1 = .ok (.invokestatic 95, 3) := by decide +kernel
theorem dX3_storage_4 : decode cX3_storage 4 = .ok (.ifCond .eq 15, 3) := by decide +kernel
theorem dX3_storage_7 : decode cX3_storage 7 = .ok (.aload_n 0, 1) := by decide +kernel
theorem dX3_storage_8 : decode cX3_storage 8 = .ok (.getfield 12, 3) := by decide +kernel
theorem dX3_storage_11 : decode cX3_storage 11 = .ok (.getfield 105, 3) := by decide +kernel
theorem dX3_storage_14 : decode cX3_storage 14 = .ok (.iload_n 1, 1) := by decide +kernel
theorem dX3_storage_15 : decode cX3_storage 15 = .ok (.iaload, 1) := by decide +kernel
theorem dX3_storage_16 : decode cX3_storage 16 = .ok (.goto 4, 3) := by decide +kernel
theorem dX3_storage_19 : decode cX3_storage 19 = .ok (.iconst 0, 1) := by decide +kernel
theorem dX3_storage_20 : decode cX3_storage 20 = .ok (.ireturn, 1) := by decide +kernel
theorem dX3_dirty_0 : decode cX3_dirty 0 = .ok (.iload_n 1, 1) := by decide +kernel
theorem dX3_dirty_1 : decode cX3_dirty 1 = .ok (.invokestatic 67, 3) := by decide +kernel
theorem dX3_dirty_4 : decode cX3_dirty 4 = .ok (.ifCond .eq 19, 3) := by decide +kernel
theorem dX3_dirty_7 : decode cX3_dirty 7 = .ok (.aload_n 0, 1) := by decide +kernel
theorem dX3_dirty_8 : decode cX3_dirty 8 = .ok (.getfield 12, 3) := by decide +kernel
theorem dX3_dirty_11 : decode cX3_dirty 11 = .ok (.getfield 108, 3) := by decide +kernel
theorem dX3_dirty_14 : decode cX3_dirty 14 = .ok (.iload_n 1, 1) := by decide +kernel
theorem dX3_dirty_15 : decode cX3_dirty 15 = .ok (.baload, 1) := by decide +kernel
theorem dX3_dirty_16 : decode cX3_dirty 16 = .ok (.ifCond .eq 7, 3) := by decide +kernel
theorem dX3_dirty_19 : decode cX3_dirty 19 = .ok (.iconst 1, 1) := by decide +kernel
theorem dX3_dirty_20 : decode cX3_dirty 20 = .ok (.goto 4, 3) := by decide +kernel
theorem dX3_dirty_23 : decode cX3_dirty 23 = .ok (.iconst 0, 1) := by decide +kernel
theorem dX3_dirty_24 : decode cX3_dirty 24 = .ok (.ireturn, 1) := by decide +kernel
theorem dX3_cores_0 : decode cX3_cores 0 = .ok (.aload_n 0, 1) := by decide +kernel
theorem dX3_cores_1 : decode cX3_cores 1 = .ok (.getfield 18, 3) := by decide +kernel
theorem dX3_cores_4 : decode cX3_cores 4 = .ok (.arraylength, 1) := by decide +kernel
theorem dX3_cores_5 : decode cX3_cores 5 = .ok (.ireturn, 1) := by decide +kernel
theorem dX3_isCore_0 : decode cX3_isCore 0 = .ok (.iload_n 1, 1) := by decide +kernel
theorem dX3_isCore_1 : decode cX3_isCore 1 = .ok (.ifCond .lt 16, 3) := by decide +kernel
theorem dX3_isCore_4 : decode cX3_isCore 4 = .ok (.iload_n 1, 1) := by decide +kernel
theorem dX3_isCore_5 : decode cX3_isCore 5 = .ok (.aload_n 0, 1) := by decide +kernel
theorem dX3_isCore_6 : decode cX3_isCore 6 = .ok (.getfield 18, 3) := by decide +kernel
theorem dX3_isCore_9 : decode cX3_isCore 9 = .ok (.arraylength, 1) := by decide +kernel
theorem dX3_isCore_10 : decode cX3_isCore 10 = .ok (.if_icmp .ge 7, 3) := by decide +kernel
theorem dX3_isCore_13 : decode cX3_isCore 13 = .ok (.iconst 1, 1) := by decide +kernel
theorem dX3_isCore_14 : decode cX3_isCore 14 = .ok (.goto 4, 3) := by decide +kernel
theorem dX3_isCore_17 : decode cX3_isCore 17 = .ok (.iconst 0, 1) := by decide +kernel
theorem dX3_isCore_18 : decode cX3_isCore 18 = .ok (.ireturn, 1) := by decide +kernel
theorem dX3_isEntry_0 : decode cX3_isEntry 0 = .ok (.aload_n 0, 1) := by decide +kernel
theorem dX3_isEntry_1 : decode cX3_isEntry 1 = .ok (.iload_n 1, 1) := by decide +kernel
theorem dX3_isEntry_2 : decode cX3_isEntry 2 = .ok (.invokevirtual 25, 3) := by decide +kernel
theorem dX3_isEntry_5 : decode cX3_isEntry 5 = .ok (.ifCond .eq 27, 3) := by decide +kernel
theorem dX3_isEntry_8 : decode cX3_isEntry 8 = .ok (.iload_n 2, 1) := by decide +kernel
theorem dX3_isEntry_9 : decode cX3_isEntry 9 = .ok (.ifCond .lt 23, 3) := by decide +kernel
theorem dX3_isEntry_12 : decode cX3_isEntry 12 = .ok (.iload_n 2, 1) := by decide +kernel
theorem dX3_isEntry_13 : decode cX3_isEntry 13 = .ok (.aload_n 0, 1) := by decide +kernel
theorem dX3_isEntry_14 : decode cX3_isEntry 14 = .ok (.getfield 18, 3) := by decide +kernel
theorem dX3_isEntry_17 : decode cX3_isEntry 17 = .ok (.iload_n 1, 1) := by decide +kernel
theorem dX3_isEntry_18 : decode cX3_isEntry 18 = .ok (.aaload, 1) := by decide +kernel
theorem dX3_isEntry_19 : decode cX3_isEntry 19 = .ok (.getfield 51, 3) := by decide +kernel
theorem dX3_isEntry_22 : decode cX3_isEntry 22 = .ok (.getfield 64, 3) := by decide +kernel
theorem dX3_isEntry_25 : decode cX3_isEntry 25 = .ok (.if_icmp .ge 7, 3) := by decide +kernel
theorem dX3_isEntry_28 : decode cX3_isEntry 28 = .ok (.iconst 1, 1) := by decide +kernel
theorem dX3_isEntry_29 : decode cX3_isEntry 29 = .ok (.goto 4, 3) := by decide +kernel
theorem dX3_isEntry_32 : decode cX3_isEntry 32 = .ok (.iconst 0, 1) := by decide +kernel
theorem dX3_isEntry_33 : decode cX3_isEntry 33 = .ok (.ireturn, 1) := by decide +kernel
theorem dX3_isPlace_0 : decode cX3_isPlace 0 = .ok (.iload_n 0, 1) := by decide +kernel
theorem dX3_isPlace_1 : decode cX3_isPlace 1 = .ok (.ifCond .lt 13, 3) := by decide +kernel
theorem dX3_isPlace_4 : decode cX3_isPlace 4 = .ok (.iload_n 0, 1) := by decide +kernel
theorem dX3_isPlace_5 : decode cX3_isPlace 5 = .ok (.bipush 24, 2) := by decide +kernel
theorem dX3_isPlace_7 : decode cX3_isPlace 7 = .ok (.if_icmp .ge 7, 3) := by decide +kernel
theorem dX3_isPlace_10 : decode cX3_isPlace 10 = .ok (.iconst 1, 1) := by decide +kernel
theorem dX3_isPlace_11 : decode cX3_isPlace 11 = .ok (.goto 4, 3) := by decide +kernel
theorem dX3_isPlace_14 : decode cX3_isPlace 14 = .ok (.iconst 0, 1) := by decide +kernel
theorem dX3_isPlace_15 : decode cX3_isPlace 15 = .ok (.ireturn, 1) := by decide +kernel
theorem dX3_isRegister_0 : decode cX3_isRegister 0 = .ok (.iload_n 0, 1) := by decide +kernel
theorem dX3_isRegister_1 : decode cX3_isRegister 1 = .ok (.ifCond .lt 12, 3) := by decide +kernel
theorem dX3_isRegister_4 : decode cX3_isRegister 4 = .ok (.iload_n 0, 1) := by decide +kernel
theorem dX3_isRegister_5 : decode cX3_isRegister 5 = .ok (.iconst 4, 1) := by decide +kernel
theorem dX3_isRegister_6 : decode cX3_isRegister 6 = .ok (.if_icmp .ge 7, 3) := by decide +kernel
theorem dX3_isRegister_9 : decode cX3_isRegister 9 = .ok (.iconst 1, 1) := by decide +kernel
theorem dX3_isRegister_10 : decode cX3_isRegister 10 = .ok (.goto 4, 3) := by decide +kernel
theorem dX3_isRegister_13 : decode cX3_isRegister 13 = .ok (.iconst 0, 1) := by decide +kernel
theorem dX3_isRegister_14 : decode cX3_isRegister 14 = .ok (.ireturn, 1) := by decide +kernel
theorem dX3_isWord_0 : decode cX3_isWord 0 = .ok (.iload_n 0, 1) := by decide +kernel
theorem dX3_isWord_1 : decode cX3_isWord 1 = .ok (.ifCond .lt 13, 3) := by decide +kernel
theorem dX3_isWord_4 : decode cX3_isWord 4 = .ok (.iload_n 0, 1) := by decide +kernel
theorem dX3_isWord_5 : decode cX3_isWord 5 = .ok (.bipush 32, 2) := by decide +kernel
theorem dX3_isWord_7 : decode cX3_isWord 7 = .ok (.if_icmp .ge 7, 3) := by decide +kernel
theorem dX3_isWord_10 : decode cX3_isWord 10 = .ok (.iconst 1, 1) := by decide +kernel
theorem dX3_isWord_11 : decode cX3_isWord 11 = .ok (.goto 4, 3) := by decide +kernel
theorem dX3_isWord_14 : decode cX3_isWord 14 = .ok (.iconst 0, 1) := by decide +kernel
theorem dX3_isWord_15 : decode cX3_isWord 15 = .ok (.ireturn, 1) := by decide +kernel
theorem dX3_isLine_0 : decode cX3_isLine 0 = .ok (.iload_n 0, 1) := by decide +kernel
theorem dX3_isLine_1 : decode cX3_isLine 1 = .ok (.ifCond .lt 13, 3) := by decide +kernel
theorem dX3_isLine_4 : decode cX3_isLine 4 = .ok (.iload_n 0, 1) := by decide +kernel
theorem dX3_isLine_5 : decode cX3_isLine 5 = .ok (.bipush 8, 2) := by decide +kernel
theorem dX3_isLine_7 : decode cX3_isLine 7 = .ok (.if_icmp .ge 7, 3) := by decide +kernel
theorem dX3_isLine_10 : decode cX3_isLine 10 = .ok (.iconst 1, 1) := by decide +kernel
theorem dX3_isLine_11 : decode cX3_isLine 11 = .ok (.goto 4, 3) := by decide +kernel
theorem dX3_isLine_14 : decode cX3_isLine 14 = .ok (.iconst 0, 1) := by decide +kernel
theorem dX3_isLine_15 : decode cX3_isLine 15 = .ok (.ireturn, 1) := by decide +kernel
