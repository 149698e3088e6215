/-! printed (gen/names.py): what the codes decode to -/
theorem dd_RD_countTo_0 : decode cd_RD_countTo 0 = .ok (.iconst 0, 1) := by decide +kernel
theorem dd_RD_countTo_1 : decode cd_RD_countTo 1 = .ok (.istore_n 3, 1) := by decide +kernel
theorem dd_RD_countTo_2 : decode cd_RD_countTo 2 = .ok (.iconst 0, 1) := by decide +kernel
theorem dd_RD_countTo_3 : decode cd_RD_countTo 3 = .ok (.istore 4, 2) := by decide +kernel
theorem dd_RD_countTo_5 : decode cd_RD_countTo 5 = .ok (.iload 4, 2) := by decide +kernel
theorem dd_RD_countTo_7 : decode cd_RD_countTo 7 = .ok (.aload_n 0, 1) := by decide +kernel
theorem dd_RD_countTo_8 : decode cd_RD_countTo 8 = .ok (.getfield 29, 3) := by decide +kernel
theorem dd_RD_countTo_11 : decode cd_RD_countTo 11 = .ok (.invokevirtual 88, 3) := by decide +kernel
theorem dd_RD_countTo_14 : decode cd_RD_countTo 14 = .ok (.if_icmp .ge 32, 3) := by decide +kernel
theorem dd_RD_countTo_17 : decode cd_RD_countTo 17 = .ok (.aload_n 0, 1) := by decide +kernel
theorem dd_RD_countTo_18 : decode cd_RD_countTo 18 = .ok (.getfield 29, 3) := by decide +kernel
theorem dd_RD_countTo_21 : decode cd_RD_countTo 21 = .ok (.iload 4, 2) := by decide +kernel
theorem dd_RD_countTo_23 : decode cd_RD_countTo 23 = .ok (.invokevirtual 91, 3) := by decide +kernel
theorem dd_RD_countTo_26 : decode cd_RD_countTo 26 = .ok (.checkcast 95, 3) := by decide +kernel
theorem dd_RD_countTo_29 : decode cd_RD_countTo 29 = .ok (.iload_n 1, 1) := by decide +kernel
theorem dd_RD_countTo_30 : decode cd_RD_countTo 30 = .ok (.iload_n 2, 1) := by decide +kernel
theorem dd_RD_countTo_31 : decode cd_RD_countTo 31 = .ok (.invokevirtual 97, 3) := by decide +kernel
theorem dd_RD_countTo_34 : decode cd_RD_countTo 34 = .ok (.ifCond .eq 6, 3) := by decide +kernel
theorem dd_RD_countTo_37 : decode cd_RD_countTo 37 = .ok (.iinc 3 1, 3) := by decide +kernel
theorem dd_RD_countTo_40 : decode cd_RD_countTo 40 = .ok (.iinc 4 1, 3) := by decide +kernel
theorem dd_RD_countTo_43 : decode cd_RD_countTo 43 = .ok (.goto (-38), 3) := by decide +kernel
theorem dd_RD_countTo_46 : decode cd_RD_countTo 46 = .ok (.iload_n 3, 1) := by decide +kernel
theorem dd_RD_countTo_47 : decode cd_RD_countTo 47 = .ok (.ireturn, 1) := by decide +kernel
theorem dd_RD_countFrom_0 : decode cd_RD_countFrom 0 = .ok (.iconst 0, 1) := by decide +kernel
theorem dd_RD_countFrom_1 : decode cd_RD_countFrom 1 = .ok (.istore_n 2, 1) := by decide +kernel
theorem dd_RD_countFrom_2 : decode cd_RD_countFrom 2 = .ok (.iconst 0, 1) := by decide +kernel
theorem dd_RD_countFrom_3 : decode cd_RD_countFrom 3 = .ok (.istore_n 3, 1) := by decide +kernel
theorem dd_RD_countFrom_4 : decode cd_RD_countFrom 4 = .ok (.iload_n 3, 1) := by decide +kernel
theorem dd_RD_countFrom_5 : decode cd_RD_countFrom 5 = .ok (.aload_n 0, 1) := by decide +kernel
theorem dd_RD_countFrom_6 : decode cd_RD_countFrom 6 = .ok (.getfield 29, 3) := by decide +kernel
theorem dd_RD_countFrom_9 : decode cd_RD_countFrom 9 = .ok (.invokevirtual 88, 3) := by decide +kernel
theorem dd_RD_countFrom_12 : decode cd_RD_countFrom 12 = .ok (.if_icmp .ge 30, 3) := by decide +kernel
theorem dd_RD_countFrom_15 : decode cd_RD_countFrom 15 = .ok (.aload_n 0, 1) := by decide +kernel
theorem dd_RD_countFrom_16 : decode cd_RD_countFrom 16 = .ok (.getfield 29, 3) := by decide +kernel
theorem dd_RD_countFrom_19 : decode cd_RD_countFrom 19 = .ok (.iload_n 3, 1) := by decide +kernel
theorem dd_RD_countFrom_20 : decode cd_RD_countFrom 20 = .ok (.invokevirtual 91, 3) := by decide +kernel
theorem dd_RD_countFrom_23 : decode cd_RD_countFrom 23 = .ok (.checkcast 95, 3) := by decide +kernel
theorem dd_RD_countFrom_26 : decode cd_RD_countFrom 26 = .ok (.getfield 100, 3) := by decide +kernel
theorem dd_RD_countFrom_29 : decode cd_RD_countFrom 29 = .ok (.iload_n 1, 1) := by decide +kernel
theorem dd_RD_countFrom_30 : decode cd_RD_countFrom 30 = .ok (.if_icmp .ne 6, 3) := by decide +kernel
theorem dd_RD_countFrom_33 : decode cd_RD_countFrom 33 = .ok (.iinc 2 1, 3) := by decide +kernel
theorem dd_RD_countFrom_36 : decode cd_RD_countFrom 36 = .ok (.iinc 3 1, 3) := by decide +kernel
theorem dd_RD_countFrom_39 : decode cd_RD_countFrom 39 = .ok (.goto (-35), 3) := by decide +kernel
theorem dd_RD_countFrom_42 : decode cd_RD_countFrom 42 = .ok (.iload_n 2, 1) := by decide +kernel
theorem dd_RD_countFrom_43 : decode cd_RD_countFrom 43 = .ok (.ireturn, 1) := by decide +kernel
theorem dd_RD_total_0 : decode cd_RD_total 0 = .ok (.iload_n 1, 1) := by decide +kernel
theorem dd_RD_total_1 : decode cd_RD_total 1 = .ok (.tableswitch 75 0 4 #[35, 40, 45, 53, 64], 35) := by decide +kernel
theorem dd_RD_total_36 : decode cd_RD_total 36 = .ok (.aload_n 0, 1) := by decide +kernel
theorem dd_RD_total_37 : decode cd_RD_total 37 = .ok (.invokevirtual 197, 3) := by decide +kernel
theorem dd_RD_total_40 : decode cd_RD_total 40 = .ok (.ireturn, 1) := by decide +kernel
theorem dd_RD_total_41 : decode cd_RD_total 41 = .ok (.aload_n 0, 1) := by decide +kernel
theorem dd_RD_total_42 : decode cd_RD_total 42 = .ok (.invokevirtual 200, 3) := by decide +kernel
theorem dd_RD_total_45 : decode cd_RD_total 45 = .ok (.ireturn, 1) := by decide +kernel
theorem dd_RD_total_46 : decode cd_RD_total 46 = .ok (.aload_n 0, 1) := by decide +kernel
theorem dd_RD_total_47 : decode cd_RD_total 47 = .ok (.getfield 29, 3) := by decide +kernel
theorem dd_RD_total_50 : decode cd_RD_total 50 = .ok (.invokevirtual 88, 3) := by decide +kernel
theorem dd_RD_total_53 : decode cd_RD_total 53 = .ok (.ireturn, 1) := by decide +kernel
theorem dd_RD_total_54 : decode cd_RD_total 54 = .ok (.aload_n 0, 1) := by decide +kernel
theorem dd_RD_total_55 : decode cd_RD_total 55 = .ok (.getfield 36, 3) := by decide +kernel
theorem dd_RD_total_58 : decode cd_RD_total 58 = .ok (.getfield 203, 3) := by decide +kernel
theorem dd_RD_total_61 : decode cd_RD_total 61 = .ok (.invokevirtual 88, 3) := by decide +kernel
theorem dd_RD_total_64 : decode cd_RD_total 64 = .ok (.ireturn, 1) := by decide +kernel
theorem dd_RD_total_65 : decode cd_RD_total 65 = .ok (.aload_n 0, 1) := by decide +kernel
theorem dd_RD_total_66 : decode cd_RD_total 66 = .ok (.getfield 36, 3) := by decide +kernel
theorem dd_RD_total_69 : decode cd_RD_total 69 = .ok (.getfield 206, 3) := by decide +kernel
theorem dd_RD_total_72 : decode cd_RD_total 72 = .ok (.invokevirtual 139, 3) := by decide +kernel
theorem dd_RD_total_75 : decode cd_RD_total 75 = .ok (.ireturn, 1) := by decide +kernel
theorem dd_RD_total_76 : decode cd_RD_total 76 = .ok (.iconst (-1), 1) := by decide +kernel
theorem dd_RD_total_77 : decode cd_RD_total 77 = .ok (.ireturn, 1) := by decide +kernel
theorem dd_RD_countExchanges_0 : decode cd_RD_countExchanges 0 = .ok (.iconst 0, 1) := by decide +kernel
theorem dd_RD_countExchanges_1 : decode cd_RD_countExchanges 1 = .ok (.istore_n 1, 1) := by decide +kernel
theorem dd_RD_countExchanges_2 : decode cd_RD_countExchanges 2 = .ok (.iconst 0, 1) := by decide +kernel
theorem dd_RD_countExchanges_3 : decode cd_RD_countExchanges 3 = .ok (.istore_n 2, 1) := by decide +kernel
theorem dd_RD_countExchanges_4 : decode cd_RD_countExchanges 4 = .ok (.iload_n 2, 1) := by decide +kernel
theorem dd_RD_countExchanges_5 : decode cd_RD_countExchanges 5 = .ok (.bipush 16, 2) := by decide +kernel
theorem dd_RD_countExchanges_7 : decode cd_RD_countExchanges 7 = .ok (.if_icmp .ge 21, 3) := by decide +kernel
theorem dd_RD_countExchanges_10 : decode cd_RD_countExchanges 10 = .ok (.aload_n 0, 1) := by decide +kernel
theorem dd_RD_countExchanges_11 : decode cd_RD_countExchanges 11 = .ok (.getfield 18, 3) := by decide +kernel
theorem dd_RD_countExchanges_14 : decode cd_RD_countExchanges 14 = .ok (.iload_n 2, 1) := by decide +kernel
theorem dd_RD_countExchanges_15 : decode cd_RD_countExchanges 15 = .ok (.aaload, 1) := by decide +kernel
theorem dd_RD_countExchanges_16 : decode cd_RD_countExchanges 16 = .ok (.ifnull 6, 3) := by decide +kernel
theorem dd_RD_countExchanges_19 : decode cd_RD_countExchanges 19 = .ok (.iinc 1 1, 3) := by decide +kernel
theorem dd_RD_countExchanges_22 : decode cd_RD_countExchanges 22 = .ok (.iinc 2 1, 3) := by decide +kernel
theorem dd_RD_countExchanges_25 : decode cd_RD_countExchanges 25 = .ok (.goto (-21), 3) := by decide +kernel
theorem dd_RD_countExchanges_28 : decode cd_RD_countExchanges 28 = .ok (.iload_n 1, 1) := by decide +kernel
theorem dd_RD_countExchanges_29 : decode cd_RD_countExchanges 29 = .ok (.ireturn, 1) := by decide +kernel
theorem dd_RD_countQueues_0 : decode cd_RD_countQueues 0 = .ok (.iconst 0, 1) := by decide +kernel
theorem dd_RD_countQueues_1 : decode cd_RD_countQueues 1 = .ok (.istore_n 1, 1) := by decide +kernel
theorem dd_RD_countQueues_2 : decode cd_RD_countQueues 2 = .ok (.iconst 0, 1) := by decide +kernel
theorem dd_RD_countQueues_3 : decode cd_RD_countQueues 3 = .ok (.istore_n 2, 1) := by decide +kernel
theorem dd_RD_countQueues_4 : decode cd_RD_countQueues 4 = .ok (.iload_n 2, 1) := by decide +kernel
theorem dd_RD_countQueues_5 : decode cd_RD_countQueues 5 = .ok (.bipush 16, 2) := by decide +kernel
theorem dd_RD_countQueues_7 : decode cd_RD_countQueues 7 = .ok (.if_icmp .ge 21, 3) := by decide +kernel
theorem dd_RD_countQueues_10 : decode cd_RD_countQueues 10 = .ok (.aload_n 0, 1) := by decide +kernel
theorem dd_RD_countQueues_11 : decode cd_RD_countQueues 11 = .ok (.getfield 22, 3) := by decide +kernel
theorem dd_RD_countQueues_14 : decode cd_RD_countQueues 14 = .ok (.iload_n 2, 1) := by decide +kernel
theorem dd_RD_countQueues_15 : decode cd_RD_countQueues 15 = .ok (.baload, 1) := by decide +kernel
theorem dd_RD_countQueues_16 : decode cd_RD_countQueues 16 = .ok (.ifCond .eq 6, 3) := by decide +kernel
theorem dd_RD_countQueues_19 : decode cd_RD_countQueues 19 = .ok (.iinc 1 1, 3) := by decide +kernel
theorem dd_RD_countQueues_22 : decode cd_RD_countQueues 22 = .ok (.iinc 2 1, 3) := by decide +kernel
theorem dd_RD_countQueues_25 : decode cd_RD_countQueues 25 = .ok (.goto (-21), 3) := by decide +kernel
theorem dd_RD_countQueues_28 : decode cd_RD_countQueues 28 = .ok (.iload_n 1, 1) := by decide +kernel
theorem dd_RD_countQueues_29 : decode cd_RD_countQueues 29 = .ok (.ireturn, 1) := by decide +kernel
theorem dd_LW_exchange_0 : decode cd_LW_exchange 0 = .ok (.aload_n 2, 1) := by decide +kernel
theorem dd_LW_exchange_1 : decode cd_LW_exchange 1 = .ok (.iconst 0, 1) := by decide +kernel
theorem dd_LW_exchange_2 : decode cd_LW_exchange 2 = .ok (.aload_n 0, 1) := by decide +kernel
theorem dd_LW_exchange_3 : decode cd_LW_exchange 3 = .ok (.iload_n 1, 1) := by decide +kernel
theorem dd_LW_exchange_4 : decode cd_LW_exchange 4 = .ok (.invokevirtual 7, 3) := by decide +kernel
theorem dd_LW_exchange_7 : decode cd_LW_exchange 7 = .ok (.i2l, 1) := by decide +kernel
theorem dd_LW_exchange_8 : decode cd_LW_exchange 8 = .ok (.lastore, 1) := by decide +kernel
theorem dd_LW_exchange_9 : decode cd_LW_exchange 9 = .ok (.goto 9, 3) := by decide +kernel
theorem dd_LW_exchange_12 : decode cd_LW_exchange 12 = .ok (.astore_n 3, 1) := by decide +kernel
theorem dd_LW_exchange_13 : decode cd_LW_exchange 13 = .ok (.iconst 1, 1) := by decide +kernel
theorem dd_LW_exchange_14 : decode cd_LW_exchange 14 = .ok (.ireturn, 1) := by decide +kernel
theorem dd_LW_exchange_15 : decode cd_LW_exchange 15 = .ok (.astore_n 3, 1) := by decide +kernel
theorem dd_LW_exchange_16 : decode cd_LW_exchange 16 = .ok (.iconst 2, 1) := by decide +kernel
theorem dd_LW_exchange_17 : decode cd_LW_exchange 17 = .ok (.ireturn, 1) := by decide +kernel
theorem dd_LW_exchange_18 : decode cd_LW_exchange 18 = .ok (.iconst 0, 1) := by decide +kernel
theorem dd_LW_exchange_19 : decode cd_LW_exchange 19 = .ok (.ireturn, 1) := by decide +kernel
theorem dd_RD_exchange_0 : decode cd_RD_exchange 0 = .ok (.iload_n 1, 1) := by decide +kernel
theorem dd_RD_exchange_1 : decode cd_RD_exchange 1 = .ok (.ifCond .lt 8, 3) := by decide +kernel
theorem dd_RD_exchange_4 : decode cd_RD_exchange 4 = .ok (.iload_n 1, 1) := by decide +kernel
theorem dd_RD_exchange_5 : decode cd_RD_exchange 5 = .ok (.iconst 3, 1) := by decide +kernel
theorem dd_RD_exchange_6 : decode cd_RD_exchange 6 = .ok (.if_icmp .le 13, 3) := by decide +kernel
theorem dd_RD_exchange_9 : decode cd_RD_exchange 9 = .ok (.new 59, 3) := by decide +kernel
theorem dd_RD_exchange_12 : decode cd_RD_exchange 12 = .ok (.dup, 1) := by decide +kernel
theorem dd_RD_exchange_13 : decode cd_RD_exchange 13 = .ok (.ldc 61, 2) := by decide +kernel
theorem dd_RD_exchange_15 : decode cd_RD_exchange 15 = .ok (.invokespecial 63, 3) := by decide +kernel
theorem dd_RD_exchange_18 : decode cd_RD_exchange 18 = .ok (.athrow, 1) := by decide +kernel
theorem dd_RD_exchange_19 : decode cd_RD_exchange 19 = .ok (.iconst 0, 1) := by decide +kernel
theorem dd_RD_exchange_20 : decode cd_RD_exchange 20 = .ok (.istore_n 2, 1) := by decide +kernel
theorem dd_RD_exchange_21 : decode cd_RD_exchange 21 = .ok (.iload_n 2, 1) := by decide +kernel
theorem dd_RD_exchange_22 : decode cd_RD_exchange 22 = .ok (.bipush 16, 2) := by decide +kernel
theorem dd_RD_exchange_24 : decode cd_RD_exchange 24 = .ok (.if_icmp .ge 34, 3) := by decide +kernel
theorem dd_RD_exchange_27 : decode cd_RD_exchange 27 = .ok (.aload_n 0, 1) := by decide +kernel
theorem dd_RD_exchange_28 : decode cd_RD_exchange 28 = .ok (.getfield 18, 3) := by decide +kernel
theorem dd_RD_exchange_31 : decode cd_RD_exchange 31 = .ok (.iload_n 2, 1) := by decide +kernel
theorem dd_RD_exchange_32 : decode cd_RD_exchange 32 = .ok (.aaload, 1) := by decide +kernel
theorem dd_RD_exchange_33 : decode cd_RD_exchange 33 = .ok (.ifnonnull 19, 3) := by decide +kernel
theorem dd_RD_exchange_36 : decode cd_RD_exchange 36 = .ok (.aload_n 0, 1) := by decide +kernel
theorem dd_RD_exchange_37 : decode cd_RD_exchange 37 = .ok (.getfield 18, 3) := by decide +kernel
theorem dd_RD_exchange_40 : decode cd_RD_exchange 40 = .ok (.iload_n 2, 1) := by decide +kernel
theorem dd_RD_exchange_41 : decode cd_RD_exchange 41 = .ok (.new 16, 3) := by decide +kernel
theorem dd_RD_exchange_44 : decode cd_RD_exchange 44 = .ok (.dup, 1) := by decide +kernel
theorem dd_RD_exchange_45 : decode cd_RD_exchange 45 = .ok (.iload_n 1, 1) := by decide +kernel
theorem dd_RD_exchange_46 : decode cd_RD_exchange 46 = .ok (.invokespecial 66, 3) := by decide +kernel
theorem dd_RD_exchange_49 : decode cd_RD_exchange 49 = .ok (.aastore, 1) := by decide +kernel
theorem dd_RD_exchange_50 : decode cd_RD_exchange 50 = .ok (.iload_n 2, 1) := by decide +kernel
theorem dd_RD_exchange_51 : decode cd_RD_exchange 51 = .ok (.ireturn, 1) := by decide +kernel
theorem dd_RD_exchange_52 : decode cd_RD_exchange 52 = .ok (.iinc 2 1, 3) := by decide +kernel
theorem dd_RD_exchange_55 : decode cd_RD_exchange 55 = .ok (.goto (-34), 3) := by decide +kernel
theorem dd_RD_exchange_58 : decode cd_RD_exchange 58 = .ok (.new 69, 3) := by decide +kernel
theorem dd_RD_exchange_61 : decode cd_RD_exchange 61 = .ok (.dup, 1) := by decide +kernel
theorem dd_RD_exchange_62 : decode cd_RD_exchange 62 = .ok (.ldc 71, 2) := by decide +kernel
theorem dd_RD_exchange_64 : decode cd_RD_exchange 64 = .ok (.invokespecial 73, 3) := by decide +kernel
theorem dd_RD_exchange_67 : decode cd_RD_exchange 67 = .ok (.athrow, 1) := by decide +kernel
theorem dd_EX_init_0 : decode cd_EX_init 0 = .ok (.aload_n 0, 1) := by decide +kernel
theorem dd_EX_init_1 : decode cd_EX_init 1 = .ok (.invokespecial 3, 3) := by decide +kernel
theorem dd_EX_init_4 : decode cd_EX_init 4 = .ok (.aload_n 0, 1) := by decide +kernel
theorem dd_EX_init_5 : decode cd_EX_init 5 = .ok (.iconst (-1), 1) := by decide +kernel
theorem dd_EX_init_6 : decode cd_EX_init 6 = .ok (.putfield 9, 3) := by decide +kernel
theorem dd_EX_init_9 : decode cd_EX_init 9 = .ok (.aload_n 0, 1) := by decide +kernel
theorem dd_EX_init_10 : decode cd_EX_init 10 = .ok (.iload_n 1, 1) := by decide +kernel
theorem dd_EX_init_11 : decode cd_EX_init 11 = .ok (.putfield 15, 3) := by decide +kernel
theorem dd_EX_init_14 : decode cd_EX_init 14 = .ok (.return_, 1) := by decide +kernel
theorem dd_LW_queue_0 : decode cd_LW_queue 0 = .ok (.aload_n 1, 1) := by decide +kernel
theorem dd_LW_queue_1 : decode cd_LW_queue 1 = .ok (.iconst 0, 1) := by decide +kernel
theorem dd_LW_queue_2 : decode cd_LW_queue 2 = .ok (.aload_n 0, 1) := by decide +kernel
theorem dd_LW_queue_3 : decode cd_LW_queue 3 = .ok (.invokevirtual 17, 3) := by decide +kernel
theorem dd_LW_queue_6 : decode cd_LW_queue 6 = .ok (.i2l, 1) := by decide +kernel
theorem dd_LW_queue_7 : decode cd_LW_queue 7 = .ok (.lastore, 1) := by decide +kernel
theorem dd_LW_queue_8 : decode cd_LW_queue 8 = .ok (.goto 6, 3) := by decide +kernel
theorem dd_LW_queue_11 : decode cd_LW_queue 11 = .ok (.astore_n 2, 1) := by decide +kernel
theorem dd_LW_queue_12 : decode cd_LW_queue 12 = .ok (.iconst 1, 1) := by decide +kernel
theorem dd_LW_queue_13 : decode cd_LW_queue 13 = .ok (.ireturn, 1) := by decide +kernel
theorem dd_LW_queue_14 : decode cd_LW_queue 14 = .ok (.iconst 0, 1) := by decide +kernel
theorem dd_LW_queue_15 : decode cd_LW_queue 15 = .ok (.ireturn, 1) := by decide +kernel
theorem dd_RD_queue_0 : decode cd_RD_queue 0 = .ok (.iconst 0, 1) := by decide +kernel
theorem dd_RD_queue_1 : decode cd_RD_queue 1 = .ok (.istore_n 1, 1) := by decide +kernel
theorem dd_RD_queue_2 : decode cd_RD_queue 2 = .ok (.iload_n 1, 1) := by decide +kernel
theorem dd_RD_queue_3 : decode cd_RD_queue 3 = .ok (.bipush 16, 2) := by decide +kernel
theorem dd_RD_queue_5 : decode cd_RD_queue 5 = .ok (.if_icmp .ge 27, 3) := by decide +kernel
theorem dd_RD_queue_8 : decode cd_RD_queue 8 = .ok (.aload_n 0, 1) := by decide +kernel
theorem dd_RD_queue_9 : decode cd_RD_queue 9 = .ok (.getfield 22, 3) := by decide +kernel
theorem dd_RD_queue_12 : decode cd_RD_queue 12 = .ok (.iload_n 1, 1) := by decide +kernel
theorem dd_RD_queue_13 : decode cd_RD_queue 13 = .ok (.baload, 1) := by decide +kernel
theorem dd_RD_queue_14 : decode cd_RD_queue 14 = .ok (.ifCond .ne 12, 3) := by decide +kernel
theorem dd_RD_queue_17 : decode cd_RD_queue 17 = .ok (.aload_n 0, 1) := by decide +kernel
theorem dd_RD_queue_18 : decode cd_RD_queue 18 = .ok (.getfield 22, 3) := by decide +kernel
theorem dd_RD_queue_21 : decode cd_RD_queue 21 = .ok (.iload_n 1, 1) := by decide +kernel
theorem dd_RD_queue_22 : decode cd_RD_queue 22 = .ok (.iconst 1, 1) := by decide +kernel
theorem dd_RD_queue_23 : decode cd_RD_queue 23 = .ok (.bastore, 1) := by decide +kernel
theorem dd_RD_queue_24 : decode cd_RD_queue 24 = .ok (.iload_n 1, 1) := by decide +kernel
theorem dd_RD_queue_25 : decode cd_RD_queue 25 = .ok (.ireturn, 1) := by decide +kernel
theorem dd_RD_queue_26 : decode cd_RD_queue 26 = .ok (.iinc 1 1, 3) := by decide +kernel
theorem dd_RD_queue_29 : decode cd_RD_queue 29 = .ok (.goto (-27), 3) := by decide +kernel
theorem dd_RD_queue_32 : decode cd_RD_queue 32 = .ok (.new 69, 3) := by decide +kernel
theorem dd_RD_queue_35 : decode cd_RD_queue 35 = .ok (.dup, 1) := by decide +kernel
theorem dd_RD_queue_36 : decode cd_RD_queue 36 = .ok (.ldc 82, 2) := by decide +kernel
theorem dd_RD_queue_38 : decode cd_RD_queue 38 = .ok (.invokespecial 73, 3) := by decide +kernel
theorem dd_RD_queue_41 : decode cd_RD_queue 41 = .ok (.athrow, 1) := by decide +kernel
theorem dd_LW_bind_0 : decode cd_LW_bind 0 = .ok (.aload 4, 2) := by decide +kernel
theorem dd_LW_bind_2 : decode cd_LW_bind 2 = .ok (.iconst 0, 1) := by decide +kernel
theorem dd_LW_bind_3 : decode cd_LW_bind 3 = .ok (.aload_n 0, 1) := by decide +kernel
theorem dd_LW_bind_4 : decode cd_LW_bind 4 = .ok (.iload_n 1, 1) := by decide +kernel
theorem dd_LW_bind_5 : decode cd_LW_bind 5 = .ok (.iload_n 2, 1) := by decide +kernel
theorem dd_LW_bind_6 : decode cd_LW_bind 6 = .ok (.iload_n 3, 1) := by decide +kernel
theorem dd_LW_bind_7 : decode cd_LW_bind 7 = .ok (.invokevirtual 21, 3) := by decide +kernel
theorem dd_LW_bind_10 : decode cd_LW_bind 10 = .ok (.ifCond .eq 7, 3) := by decide +kernel
theorem dd_LW_bind_13 : decode cd_LW_bind 13 = .ok (.lconst 1, 1) := by decide +kernel
theorem dd_LW_bind_14 : decode cd_LW_bind 14 = .ok (.goto 4, 3) := by decide +kernel
theorem dd_LW_bind_17 : decode cd_LW_bind 17 = .ok (.lconst 0, 1) := by decide +kernel
theorem dd_LW_bind_18 : decode cd_LW_bind 18 = .ok (.lastore, 1) := by decide +kernel
theorem dd_LW_bind_19 : decode cd_LW_bind 19 = .ok (.goto 11, 3) := by decide +kernel
theorem dd_LW_bind_22 : decode cd_LW_bind 22 = .ok (.astore 5, 2) := by decide +kernel
theorem dd_LW_bind_24 : decode cd_LW_bind 24 = .ok (.iconst 1, 1) := by decide +kernel
theorem dd_LW_bind_25 : decode cd_LW_bind 25 = .ok (.ireturn, 1) := by decide +kernel
theorem dd_LW_bind_26 : decode cd_LW_bind 26 = .ok (.astore 5, 2) := by decide +kernel
theorem dd_LW_bind_28 : decode cd_LW_bind 28 = .ok (.iconst 2, 1) := by decide +kernel
theorem dd_LW_bind_29 : decode cd_LW_bind 29 = .ok (.ireturn, 1) := by decide +kernel
theorem dd_LW_bind_30 : decode cd_LW_bind 30 = .ok (.iconst 0, 1) := by decide +kernel
theorem dd_LW_bind_31 : decode cd_LW_bind 31 = .ok (.ireturn, 1) := by decide +kernel
theorem dd_RD_bind_0 : decode cd_RD_bind 0 = .ok (.aload_n 0, 1) := by decide +kernel
theorem dd_RD_bind_1 : decode cd_RD_bind 1 = .ok (.invokevirtual 106, 3) := by decide +kernel
theorem dd_RD_bind_4 : decode cd_RD_bind 4 = .ok (.astore 4, 2) := by decide +kernel
theorem dd_RD_bind_6 : decode cd_RD_bind 6 = .ok (.aload_n 0, 1) := by decide +kernel
theorem dd_RD_bind_7 : decode cd_RD_bind 7 = .ok (.iload_n 1, 1) := by decide +kernel
theorem dd_RD_bind_8 : decode cd_RD_bind 8 = .ok (.invokevirtual 74, 3) := by decide +kernel
theorem dd_RD_bind_11 : decode cd_RD_bind 11 = .ok (.astore 5, 2) := by decide +kernel
theorem dd_RD_bind_13 : decode cd_RD_bind 13 = .ok (.aload 5, 2) := by decide +kernel
theorem dd_RD_bind_15 : decode cd_RD_bind 15 = .ok (.ifnull 12, 3) := by decide +kernel
theorem dd_RD_bind_18 : decode cd_RD_bind 18 = .ok (.aload_n 0, 1) := by decide +kernel
theorem dd_RD_bind_19 : decode cd_RD_bind 19 = .ok (.iload_n 2, 1) := by decide +kernel
theorem dd_RD_bind_20 : decode cd_RD_bind 20 = .ok (.iload_n 3, 1) := by decide +kernel
theorem dd_RD_bind_21 : decode cd_RD_bind 21 = .ok (.invokevirtual 84, 3) := by decide +kernel
theorem dd_RD_bind_24 : decode cd_RD_bind 24 = .ok (.ifCond .ne 13, 3) := by decide +kernel
theorem dd_RD_bind_27 : decode cd_RD_bind 27 = .ok (.new 59, 3) := by decide +kernel
theorem dd_RD_bind_30 : decode cd_RD_bind 30 = .ok (.dup, 1) := by decide +kernel
theorem dd_RD_bind_31 : decode cd_RD_bind 31 = .ok (.ldc 110, 2) := by decide +kernel
theorem dd_RD_bind_33 : decode cd_RD_bind 33 = .ok (.invokespecial 63, 3) := by decide +kernel
theorem dd_RD_bind_36 : decode cd_RD_bind 36 = .ok (.athrow, 1) := by decide +kernel
theorem dd_RD_bind_37 : decode cd_RD_bind 37 = .ok (.aload 5, 2) := by decide +kernel
theorem dd_RD_bind_39 : decode cd_RD_bind 39 = .ok (.getfield 112, 3) := by decide +kernel
theorem dd_RD_bind_42 : decode cd_RD_bind 42 = .ok (.aload 4, 2) := by decide +kernel
theorem dd_RD_bind_44 : decode cd_RD_bind 44 = .ok (.invokestatic 115, 3) := by decide +kernel
theorem dd_RD_bind_47 : decode cd_RD_bind 47 = .ok (.ifCond .ne 13, 3) := by decide +kernel
theorem dd_RD_bind_50 : decode cd_RD_bind 50 = .ok (.new 59, 3) := by decide +kernel
theorem dd_RD_bind_53 : decode cd_RD_bind 53 = .ok (.dup, 1) := by decide +kernel
theorem dd_RD_bind_54 : decode cd_RD_bind 54 = .ok (.ldc 119, 2) := by decide +kernel
theorem dd_RD_bind_56 : decode cd_RD_bind 56 = .ok (.invokespecial 63, 3) := by decide +kernel
theorem dd_RD_bind_59 : decode cd_RD_bind 59 = .ok (.athrow, 1) := by decide +kernel
theorem dd_RD_bind_60 : decode cd_RD_bind 60 = .ok (.aload_n 0, 1) := by decide +kernel
theorem dd_RD_bind_61 : decode cd_RD_bind 61 = .ok (.iload_n 1, 1) := by decide +kernel
theorem dd_RD_bind_62 : decode cd_RD_bind 62 = .ok (.iload_n 2, 1) := by decide +kernel
theorem dd_RD_bind_63 : decode cd_RD_bind 63 = .ok (.iload_n 3, 1) := by decide +kernel
theorem dd_RD_bind_64 : decode cd_RD_bind 64 = .ok (.aload 4, 2) := by decide +kernel
theorem dd_RD_bind_66 : decode cd_RD_bind 66 = .ok (.invokevirtual 121, 3) := by decide +kernel
theorem dd_RD_bind_69 : decode cd_RD_bind 69 = .ok (.iconst (-1), 1) := by decide +kernel
theorem dd_RD_bind_70 : decode cd_RD_bind 70 = .ok (.if_icmp .eq 5, 3) := by decide +kernel
theorem dd_RD_bind_73 : decode cd_RD_bind 73 = .ok (.iconst 0, 1) := by decide +kernel
theorem dd_RD_bind_74 : decode cd_RD_bind 74 = .ok (.ireturn, 1) := by decide +kernel
theorem dd_RD_bind_75 : decode cd_RD_bind 75 = .ok (.aload_n 0, 1) := by decide +kernel
theorem dd_RD_bind_76 : decode cd_RD_bind 76 = .ok (.getfield 29, 3) := by decide +kernel
theorem dd_RD_bind_79 : decode cd_RD_bind 79 = .ok (.invokevirtual 88, 3) := by decide +kernel
theorem dd_RD_bind_82 : decode cd_RD_bind 82 = .ok (.bipush 120, 2) := by decide +kernel
theorem dd_RD_bind_84 : decode cd_RD_bind 84 = .ok (.if_icmp .lt 13, 3) := by decide +kernel
theorem dd_RD_bind_87 : decode cd_RD_bind 87 = .ok (.new 69, 3) := by decide +kernel
theorem dd_RD_bind_90 : decode cd_RD_bind 90 = .ok (.dup, 1) := by decide +kernel
theorem dd_RD_bind_91 : decode cd_RD_bind 91 = .ok (.ldc 125, 2) := by decide +kernel
theorem dd_RD_bind_93 : decode cd_RD_bind 93 = .ok (.invokespecial 73, 3) := by decide +kernel
theorem dd_RD_bind_96 : decode cd_RD_bind 96 = .ok (.athrow, 1) := by decide +kernel
theorem dd_RD_bind_97 : decode cd_RD_bind 97 = .ok (.aload_n 0, 1) := by decide +kernel
theorem dd_RD_bind_98 : decode cd_RD_bind 98 = .ok (.getfield 29, 3) := by decide +kernel
theorem dd_RD_bind_101 : decode cd_RD_bind 101 = .ok (.new 95, 3) := by decide +kernel
theorem dd_RD_bind_104 : decode cd_RD_bind 104 = .ok (.dup, 1) := by decide +kernel
theorem dd_RD_bind_105 : decode cd_RD_bind 105 = .ok (.iload_n 1, 1) := by decide +kernel
theorem dd_RD_bind_106 : decode cd_RD_bind 106 = .ok (.iload_n 2, 1) := by decide +kernel
theorem dd_RD_bind_107 : decode cd_RD_bind 107 = .ok (.iload_n 3, 1) := by decide +kernel
theorem dd_RD_bind_108 : decode cd_RD_bind 108 = .ok (.aload 4, 2) := by decide +kernel
theorem dd_RD_bind_110 : decode cd_RD_bind 110 = .ok (.invokespecial 127, 3) := by decide +kernel
theorem dd_RD_bind_113 : decode cd_RD_bind 113 = .ok (.invokevirtual 130, 3) := by decide +kernel
theorem dd_RD_bind_116 : decode cd_RD_bind 116 = .ok (.pop, 1) := by decide +kernel
theorem dd_RD_bind_117 : decode cd_RD_bind 117 = .ok (.iconst 1, 1) := by decide +kernel
theorem dd_RD_bind_118 : decode cd_RD_bind 118 = .ok (.ireturn, 1) := by decide +kernel
theorem dd_RD_isTextFor_0 : decode cd_RD_isTextFor 0 = .ok (.iload_n 0, 1) := by decide +kernel
theorem dd_RD_isTextFor_1 : decode cd_RD_isTextFor 1 = .ok (.tableswitch 39 0 2 #[27, 29, 34], 27) := by decide +kernel
theorem dd_RD_isTextFor_28 : decode cd_RD_isTextFor 28 = .ok (.iconst 1, 1) := by decide +kernel
theorem dd_RD_isTextFor_29 : decode cd_RD_isTextFor 29 = .ok (.ireturn, 1) := by decide +kernel
theorem dd_RD_isTextFor_30 : decode cd_RD_isTextFor 30 = .ok (.aload_n 1, 1) := by decide +kernel
theorem dd_RD_isTextFor_31 : decode cd_RD_isTextFor 31 = .ok (.invokevirtual 222, 3) := by decide +kernel
theorem dd_RD_isTextFor_34 : decode cd_RD_isTextFor 34 = .ok (.ireturn, 1) := by decide +kernel
theorem dd_RD_isTextFor_35 : decode cd_RD_isTextFor 35 = .ok (.aload_n 1, 1) := by decide +kernel
theorem dd_RD_isTextFor_36 : decode cd_RD_isTextFor 36 = .ok (.invokestatic 226, 3) := by decide +kernel
theorem dd_RD_isTextFor_39 : decode cd_RD_isTextFor 39 = .ok (.ireturn, 1) := by decide +kernel
theorem dd_RD_isTextFor_40 : decode cd_RD_isTextFor 40 = .ok (.aload_n 1, 1) := by decide +kernel
theorem dd_RD_isTextFor_41 : decode cd_RD_isTextFor 41 = .ok (.invokestatic 232, 3) := by decide +kernel
theorem dd_RD_isTextFor_44 : decode cd_RD_isTextFor 44 = .ok (.ireturn, 1) := by decide +kernel
theorem dd_PT_isPattern_0 : decode cd_PT_isPattern 0 = .ok (.iconst 0, 1) := by decide +kernel
theorem dd_PT_isPattern_1 : decode cd_PT_isPattern 1 = .ok (.istore_n 1, 1) := by decide +kernel
theorem dd_PT_isPattern_2 : decode cd_PT_isPattern 2 = .ok (.iconst 0, 1) := by decide +kernel
theorem dd_PT_isPattern_3 : decode cd_PT_isPattern 3 = .ok (.istore_n 2, 1) := by decide +kernel
theorem dd_PT_isPattern_4 : decode cd_PT_isPattern 4 = .ok (.iload_n 2, 1) := by decide +kernel
theorem dd_PT_isPattern_5 : decode cd_PT_isPattern 5 = .ok (.aload_n 0, 1) := by decide +kernel
theorem dd_PT_isPattern_6 : decode cd_PT_isPattern 6 = .ok (.invokevirtual 7, 3) := by decide +kernel
theorem dd_PT_isPattern_9 : decode cd_PT_isPattern 9 = .ok (.if_icmp .gt 41, 3) := by decide +kernel
theorem dd_PT_isPattern_12 : decode cd_PT_isPattern 12 = .ok (.aload_n 0, 1) := by decide +kernel
theorem dd_PT_isPattern_13 : decode cd_PT_isPattern 13 = .ok (.iload_n 2, 1) := by decide +kernel
theorem dd_PT_isPattern_14 : decode cd_PT_isPattern 14 = .ok (.bipush 46, 2) := by decide +kernel
theorem dd_PT_isPattern_16 : decode cd_PT_isPattern 16 = .ok (.invokestatic 15, 3) := by decide +kernel
theorem dd_PT_isPattern_19 : decode cd_PT_isPattern 19 = .ok (.ifCond .eq 25, 3) := by decide +kernel
theorem dd_PT_isPattern_22 : decode cd_PT_isPattern 22 = .ok (.iload_n 2, 1) := by decide +kernel
theorem dd_PT_isPattern_23 : decode cd_PT_isPattern 23 = .ok (.iload_n 1, 1) := by decide +kernel
theorem dd_PT_isPattern_24 : decode cd_PT_isPattern 24 = .ok (.isub, 1) := by decide +kernel
theorem dd_PT_isPattern_25 : decode cd_PT_isPattern 25 = .ok (.iconst 1, 1) := by decide +kernel
theorem dd_PT_isPattern_26 : decode cd_PT_isPattern 26 = .ok (.if_icmp .le 14, 3) := by decide +kernel
theorem dd_PT_isPattern_29 : decode cd_PT_isPattern 29 = .ok (.aload_n 0, 1) := by decide +kernel
theorem dd_PT_isPattern_30 : decode cd_PT_isPattern 30 = .ok (.iload_n 1, 1) := by decide +kernel
theorem dd_PT_isPattern_31 : decode cd_PT_isPattern 31 = .ok (.iload_n 2, 1) := by decide +kernel
theorem dd_PT_isPattern_32 : decode cd_PT_isPattern 32 = .ok (.invokestatic 21, 3) := by decide +kernel
theorem dd_PT_isPattern_35 : decode cd_PT_isPattern 35 = .ok (.ifCond .eq 5, 3) := by decide +kernel
theorem dd_PT_isPattern_38 : decode cd_PT_isPattern 38 = .ok (.iconst 0, 1) := by decide +kernel
theorem dd_PT_isPattern_39 : decode cd_PT_isPattern 39 = .ok (.ireturn, 1) := by decide +kernel
theorem dd_PT_isPattern_40 : decode cd_PT_isPattern 40 = .ok (.iload_n 2, 1) := by decide +kernel
theorem dd_PT_isPattern_41 : decode cd_PT_isPattern 41 = .ok (.iconst 1, 1) := by decide +kernel
theorem dd_PT_isPattern_42 : decode cd_PT_isPattern 42 = .ok (.iadd, 1) := by decide +kernel
theorem dd_PT_isPattern_43 : decode cd_PT_isPattern 43 = .ok (.istore_n 1, 1) := by decide +kernel
theorem dd_PT_isPattern_44 : decode cd_PT_isPattern 44 = .ok (.iinc 2 1, 3) := by decide +kernel
theorem dd_PT_isPattern_47 : decode cd_PT_isPattern 47 = .ok (.goto (-43), 3) := by decide +kernel
theorem dd_PT_isPattern_50 : decode cd_PT_isPattern 50 = .ok (.iconst 1, 1) := by decide +kernel
theorem dd_PT_isPattern_51 : decode cd_PT_isPattern 51 = .ok (.ireturn, 1) := by decide +kernel
theorem dd_TX_isPartEnd_0 : decode cd_TX_isPartEnd 0 = .ok (.iload_n 1, 1) := by decide +kernel
theorem dd_TX_isPartEnd_1 : decode cd_TX_isPartEnd 1 = .ok (.aload_n 0, 1) := by decide +kernel
theorem dd_TX_isPartEnd_2 : decode cd_TX_isPartEnd 2 = .ok (.invokevirtual 13, 3) := by decide +kernel
theorem dd_TX_isPartEnd_5 : decode cd_TX_isPartEnd 5 = .ok (.if_icmp .ge 12, 3) := by decide +kernel
theorem dd_TX_isPartEnd_8 : decode cd_TX_isPartEnd 8 = .ok (.aload_n 0, 1) := by decide +kernel
theorem dd_TX_isPartEnd_9 : decode cd_TX_isPartEnd 9 = .ok (.iload_n 1, 1) := by decide +kernel
theorem dd_TX_isPartEnd_10 : decode cd_TX_isPartEnd 10 = .ok (.invokevirtual 7, 3) := by decide +kernel
theorem dd_TX_isPartEnd_13 : decode cd_TX_isPartEnd 13 = .ok (.iload_n 2, 1) := by decide +kernel
theorem dd_TX_isPartEnd_14 : decode cd_TX_isPartEnd 14 = .ok (.if_icmp .ne 7, 3) := by decide +kernel
theorem dd_TX_isPartEnd_17 : decode cd_TX_isPartEnd 17 = .ok (.iconst 1, 1) := by decide +kernel
theorem dd_TX_isPartEnd_18 : decode cd_TX_isPartEnd 18 = .ok (.goto 4, 3) := by decide +kernel
theorem dd_TX_isPartEnd_21 : decode cd_TX_isPartEnd 21 = .ok (.iconst 0, 1) := by decide +kernel
theorem dd_TX_isPartEnd_22 : decode cd_TX_isPartEnd 22 = .ok (.ireturn, 1) := by decide +kernel
theorem dd_PT_hasWildSign_0 : decode cd_PT_hasWildSign 0 = .ok (.aload_n 0, 1) := by decide +kernel
theorem dd_PT_hasWildSign_1 : decode cd_PT_hasWildSign 1 = .ok (.bipush 42, 2) := by decide +kernel
theorem dd_PT_hasWildSign_3 : decode cd_PT_hasWildSign 3 = .ok (.iload_n 1, 1) := by decide +kernel
theorem dd_PT_hasWildSign_4 : decode cd_PT_hasWildSign 4 = .ok (.iload_n 2, 1) := by decide +kernel
theorem dd_PT_hasWildSign_5 : decode cd_PT_hasWildSign 5 = .ok (.invokestatic 54, 3) := by decide +kernel
theorem dd_PT_hasWildSign_8 : decode cd_PT_hasWildSign 8 = .ok (.iload_n 2, 1) := by decide +kernel
theorem dd_PT_hasWildSign_9 : decode cd_PT_hasWildSign 9 = .ok (.if_icmp .lt 15, 3) := by decide +kernel
theorem dd_PT_hasWildSign_12 : decode cd_PT_hasWildSign 12 = .ok (.aload_n 0, 1) := by decide +kernel
theorem dd_PT_hasWildSign_13 : decode cd_PT_hasWildSign 13 = .ok (.bipush 35, 2) := by decide +kernel
theorem dd_PT_hasWildSign_15 : decode cd_PT_hasWildSign 15 = .ok (.iload_n 1, 1) := by decide +kernel
theorem dd_PT_hasWildSign_16 : decode cd_PT_hasWildSign 16 = .ok (.iload_n 2, 1) := by decide +kernel
theorem dd_PT_hasWildSign_17 : decode cd_PT_hasWildSign 17 = .ok (.invokestatic 54, 3) := by decide +kernel
theorem dd_PT_hasWildSign_20 : decode cd_PT_hasWildSign 20 = .ok (.iload_n 2, 1) := by decide +kernel
theorem dd_PT_hasWildSign_21 : decode cd_PT_hasWildSign 21 = .ok (.if_icmp .ge 7, 3) := by decide +kernel
theorem dd_PT_hasWildSign_24 : decode cd_PT_hasWildSign 24 = .ok (.iconst 1, 1) := by decide +kernel
theorem dd_PT_hasWildSign_25 : decode cd_PT_hasWildSign 25 = .ok (.goto 4, 3) := by decide +kernel
theorem dd_PT_hasWildSign_28 : decode cd_PT_hasWildSign 28 = .ok (.iconst 0, 1) := by decide +kernel
theorem dd_PT_hasWildSign_29 : decode cd_PT_hasWildSign 29 = .ok (.ireturn, 1) := by decide +kernel
theorem dd_HT_isRule_0 : decode cd_HT_isRule 0 = .ok (.aload_n 0, 1) := by decide +kernel
theorem dd_HT_isRule_1 : decode cd_HT_isRule 1 = .ok (.ldc 22, 2) := by decide +kernel
theorem dd_HT_isRule_3 : decode cd_HT_isRule 3 = .ok (.invokestatic 24, 3) := by decide +kernel
theorem dd_HT_isRule_6 : decode cd_HT_isRule 6 = .ok (.ifCond .ne 14, 3) := by decide +kernel
theorem dd_HT_isRule_9 : decode cd_HT_isRule 9 = .ok (.aload_n 0, 1) := by decide +kernel
theorem dd_HT_isRule_10 : decode cd_HT_isRule 10 = .ok (.ldc 28, 2) := by decide +kernel
theorem dd_HT_isRule_12 : decode cd_HT_isRule 12 = .ok (.invokestatic 24, 3) := by decide +kernel
theorem dd_HT_isRule_15 : decode cd_HT_isRule 15 = .ok (.ifCond .ne 5, 3) := by decide +kernel
theorem dd_HT_isRule_18 : decode cd_HT_isRule 18 = .ok (.iconst 0, 1) := by decide +kernel
theorem dd_HT_isRule_19 : decode cd_HT_isRule 19 = .ok (.ireturn, 1) := by decide +kernel
theorem dd_HT_isRule_20 : decode cd_HT_isRule 20 = .ok (.aload_n 0, 1) := by decide +kernel
theorem dd_HT_isRule_21 : decode cd_HT_isRule 21 = .ok (.iconst 3, 1) := by decide +kernel
theorem dd_HT_isRule_22 : decode cd_HT_isRule 22 = .ok (.bipush 44, 2) := by decide +kernel
theorem dd_HT_isRule_24 : decode cd_HT_isRule 24 = .ok (.invokestatic 30, 3) := by decide +kernel
theorem dd_HT_isRule_27 : decode cd_HT_isRule 27 = .ok (.ifCond .ne 5, 3) := by decide +kernel
theorem dd_HT_isRule_30 : decode cd_HT_isRule 30 = .ok (.iconst 0, 1) := by decide +kernel
theorem dd_HT_isRule_31 : decode cd_HT_isRule 31 = .ok (.ireturn, 1) := by decide +kernel
theorem dd_HT_isRule_32 : decode cd_HT_isRule 32 = .ok (.iconst 0, 1) := by decide +kernel
theorem dd_HT_isRule_33 : decode cd_HT_isRule 33 = .ok (.istore_n 1, 1) := by decide +kernel
theorem dd_HT_isRule_34 : decode cd_HT_isRule 34 = .ok (.iconst 4, 1) := by decide +kernel
theorem dd_HT_isRule_35 : decode cd_HT_isRule 35 = .ok (.istore_n 2, 1) := by decide +kernel
theorem dd_HT_isRule_36 : decode cd_HT_isRule 36 = .ok (.iload_n 2, 1) := by decide +kernel
theorem dd_HT_isRule_37 : decode cd_HT_isRule 37 = .ok (.istore_n 3, 1) := by decide +kernel
theorem dd_HT_isRule_38 : decode cd_HT_isRule 38 = .ok (.iload_n 3, 1) := by decide +kernel
theorem dd_HT_isRule_39 : decode cd_HT_isRule 39 = .ok (.aload_n 0, 1) := by decide +kernel
theorem dd_HT_isRule_40 : decode cd_HT_isRule 40 = .ok (.invokevirtual 34, 3) := by decide +kernel
theorem dd_HT_isRule_43 : decode cd_HT_isRule 43 = .ok (.if_icmp .gt 42, 3) := by decide +kernel
theorem dd_HT_isRule_46 : decode cd_HT_isRule 46 = .ok (.aload_n 0, 1) := by decide +kernel
theorem dd_HT_isRule_47 : decode cd_HT_isRule 47 = .ok (.iload_n 3, 1) := by decide +kernel
theorem dd_HT_isRule_48 : decode cd_HT_isRule 48 = .ok (.bipush 44, 2) := by decide +kernel
theorem dd_HT_isRule_50 : decode cd_HT_isRule 50 = .ok (.invokestatic 30, 3) := by decide +kernel
theorem dd_HT_isRule_53 : decode cd_HT_isRule 53 = .ok (.ifCond .eq 26, 3) := by decide +kernel
theorem dd_HT_isRule_56 : decode cd_HT_isRule 56 = .ok (.iinc 1 1, 3) := by decide +kernel
theorem dd_HT_isRule_59 : decode cd_HT_isRule 59 = .ok (.iload_n 1, 1) := by decide +kernel
theorem dd_HT_isRule_60 : decode cd_HT_isRule 60 = .ok (.iconst 4, 1) := by decide +kernel
theorem dd_HT_isRule_61 : decode cd_HT_isRule 61 = .ok (.if_icmp .gt 12, 3) := by decide +kernel
theorem dd_HT_isRule_64 : decode cd_HT_isRule 64 = .ok (.aload_n 0, 1) := by decide +kernel
theorem dd_HT_isRule_65 : decode cd_HT_isRule 65 = .ok (.iload_n 2, 1) := by decide +kernel
theorem dd_HT_isRule_66 : decode cd_HT_isRule 66 = .ok (.iload_n 3, 1) := by decide +kernel
theorem dd_HT_isRule_67 : decode cd_HT_isRule 67 = .ok (.invokestatic 40, 3) := by decide +kernel
theorem dd_HT_isRule_70 : decode cd_HT_isRule 70 = .ok (.ifCond .ne 5, 3) := by decide +kernel
theorem dd_HT_isRule_73 : decode cd_HT_isRule 73 = .ok (.iconst 0, 1) := by decide +kernel
theorem dd_HT_isRule_74 : decode cd_HT_isRule 74 = .ok (.ireturn, 1) := by decide +kernel
theorem dd_HT_isRule_75 : decode cd_HT_isRule 75 = .ok (.iload_n 3, 1) := by decide +kernel
theorem dd_HT_isRule_76 : decode cd_HT_isRule 76 = .ok (.iconst 1, 1) := by decide +kernel
theorem dd_HT_isRule_77 : decode cd_HT_isRule 77 = .ok (.iadd, 1) := by decide +kernel
theorem dd_HT_isRule_78 : decode cd_HT_isRule 78 = .ok (.istore_n 2, 1) := by decide +kernel
theorem dd_HT_isRule_79 : decode cd_HT_isRule 79 = .ok (.iinc 3 1, 3) := by decide +kernel
theorem dd_HT_isRule_82 : decode cd_HT_isRule 82 = .ok (.goto (-44), 3) := by decide +kernel
theorem dd_HT_isRule_85 : decode cd_HT_isRule 85 = .ok (.iconst 1, 1) := by decide +kernel
theorem dd_HT_isRule_86 : decode cd_HT_isRule 86 = .ok (.ireturn, 1) := by decide +kernel
theorem dd_TX_beginsWith_0 : decode cd_TX_beginsWith 0 = .ok (.aload_n 0, 1) := by decide +kernel
theorem dd_TX_beginsWith_1 : decode cd_TX_beginsWith 1 = .ok (.invokevirtual 13, 3) := by decide +kernel
theorem dd_TX_beginsWith_4 : decode cd_TX_beginsWith 4 = .ok (.aload_n 1, 1) := by decide +kernel
theorem dd_TX_beginsWith_5 : decode cd_TX_beginsWith 5 = .ok (.invokevirtual 13, 3) := by decide +kernel
theorem dd_TX_beginsWith_8 : decode cd_TX_beginsWith 8 = .ok (.if_icmp .lt 25, 3) := by decide +kernel
theorem dd_TX_beginsWith_11 : decode cd_TX_beginsWith 11 = .ok (.aload_n 0, 1) := by decide +kernel
theorem dd_TX_beginsWith_12 : decode cd_TX_beginsWith 12 = .ok (.iconst 0, 1) := by decide +kernel
theorem dd_TX_beginsWith_13 : decode cd_TX_beginsWith 13 = .ok (.aload_n 1, 1) := by decide +kernel
theorem dd_TX_beginsWith_14 : decode cd_TX_beginsWith 14 = .ok (.invokevirtual 13, 3) := by decide +kernel
theorem dd_TX_beginsWith_17 : decode cd_TX_beginsWith 17 = .ok (.aload_n 1, 1) := by decide +kernel
theorem dd_TX_beginsWith_18 : decode cd_TX_beginsWith 18 = .ok (.iconst 0, 1) := by decide +kernel
theorem dd_TX_beginsWith_19 : decode cd_TX_beginsWith 19 = .ok (.aload_n 1, 1) := by decide +kernel
theorem dd_TX_beginsWith_20 : decode cd_TX_beginsWith 20 = .ok (.invokevirtual 13, 3) := by decide +kernel
theorem dd_TX_beginsWith_23 : decode cd_TX_beginsWith 23 = .ok (.invokestatic 17, 3) := by decide +kernel
theorem dd_TX_beginsWith_26 : decode cd_TX_beginsWith 26 = .ok (.ifCond .eq 7, 3) := by decide +kernel
theorem dd_TX_beginsWith_29 : decode cd_TX_beginsWith 29 = .ok (.iconst 1, 1) := by decide +kernel
theorem dd_TX_beginsWith_30 : decode cd_TX_beginsWith 30 = .ok (.goto 4, 3) := by decide +kernel
theorem dd_TX_beginsWith_33 : decode cd_TX_beginsWith 33 = .ok (.iconst 0, 1) := by decide +kernel
theorem dd_TX_beginsWith_34 : decode cd_TX_beginsWith 34 = .ok (.ireturn, 1) := by decide +kernel
theorem dd_TX_isSame_0 : decode cd_TX_isSame 0 = .ok (.iload_n 2, 1) := by decide +kernel
theorem dd_TX_isSame_1 : decode cd_TX_isSame 1 = .ok (.iload_n 1, 1) := by decide +kernel
theorem dd_TX_isSame_2 : decode cd_TX_isSame 2 = .ok (.isub, 1) := by decide +kernel
theorem dd_TX_isSame_3 : decode cd_TX_isSame 3 = .ok (.iload 5, 2) := by decide +kernel
theorem dd_TX_isSame_5 : decode cd_TX_isSame 5 = .ok (.iload 4, 2) := by decide +kernel
theorem dd_TX_isSame_7 : decode cd_TX_isSame 7 = .ok (.isub, 1) := by decide +kernel
theorem dd_TX_isSame_8 : decode cd_TX_isSame 8 = .ok (.if_icmp .eq 5, 3) := by decide +kernel
theorem dd_TX_isSame_11 : decode cd_TX_isSame 11 = .ok (.iconst 0, 1) := by decide +kernel
theorem dd_TX_isSame_12 : decode cd_TX_isSame 12 = .ok (.ireturn, 1) := by decide +kernel
theorem dd_TX_isSame_13 : decode cd_TX_isSame 13 = .ok (.iconst 0, 1) := by decide +kernel
theorem dd_TX_isSame_14 : decode cd_TX_isSame 14 = .ok (.istore 6, 2) := by decide +kernel
theorem dd_TX_isSame_16 : decode cd_TX_isSame 16 = .ok (.iload 6, 2) := by decide +kernel
theorem dd_TX_isSame_18 : decode cd_TX_isSame 18 = .ok (.iload_n 2, 1) := by decide +kernel
theorem dd_TX_isSame_19 : decode cd_TX_isSame 19 = .ok (.iload_n 1, 1) := by decide +kernel
theorem dd_TX_isSame_20 : decode cd_TX_isSame 20 = .ok (.isub, 1) := by decide +kernel
theorem dd_TX_isSame_21 : decode cd_TX_isSame 21 = .ok (.if_icmp .ge 31, 3) := by decide +kernel
theorem dd_TX_isSame_24 : decode cd_TX_isSame 24 = .ok (.aload_n 0, 1) := by decide +kernel
theorem dd_TX_isSame_25 : decode cd_TX_isSame 25 = .ok (.iload_n 1, 1) := by decide +kernel
theorem dd_TX_isSame_26 : decode cd_TX_isSame 26 = .ok (.iload 6, 2) := by decide +kernel
theorem dd_TX_isSame_28 : decode cd_TX_isSame 28 = .ok (.iadd, 1) := by decide +kernel
theorem dd_TX_isSame_29 : decode cd_TX_isSame 29 = .ok (.invokevirtual 7, 3) := by decide +kernel
theorem dd_TX_isSame_32 : decode cd_TX_isSame 32 = .ok (.aload_n 3, 1) := by decide +kernel
theorem dd_TX_isSame_33 : decode cd_TX_isSame 33 = .ok (.iload 4, 2) := by decide +kernel
theorem dd_TX_isSame_35 : decode cd_TX_isSame 35 = .ok (.iload 6, 2) := by decide +kernel
theorem dd_TX_isSame_37 : decode cd_TX_isSame 37 = .ok (.iadd, 1) := by decide +kernel
theorem dd_TX_isSame_38 : decode cd_TX_isSame 38 = .ok (.invokevirtual 7, 3) := by decide +kernel
theorem dd_TX_isSame_41 : decode cd_TX_isSame 41 = .ok (.if_icmp .eq 5, 3) := by decide +kernel
theorem dd_TX_isSame_44 : decode cd_TX_isSame 44 = .ok (.iconst 0, 1) := by decide +kernel
theorem dd_TX_isSame_45 : decode cd_TX_isSame 45 = .ok (.ireturn, 1) := by decide +kernel
theorem dd_TX_isSame_46 : decode cd_TX_isSame 46 = .ok (.iinc 6 1, 3) := by decide +kernel
theorem dd_TX_isSame_49 : decode cd_TX_isSame 49 = .ok (.goto (-33), 3) := by decide +kernel
theorem dd_TX_isSame_52 : decode cd_TX_isSame 52 = .ok (.iconst 1, 1) := by decide +kernel
theorem dd_TX_isSame_53 : decode cd_TX_isSame 53 = .ok (.ireturn, 1) := by decide +kernel
theorem dd_BI_init_0 : decode cd_BI_init 0 = .ok (.aload_n 0, 1) := by decide +kernel
theorem dd_BI_init_1 : decode cd_BI_init 1 = .ok (.invokespecial 1, 3) := by decide +kernel
theorem dd_BI_init_4 : decode cd_BI_init 4 = .ok (.aload_n 0, 1) := by decide +kernel
theorem dd_BI_init_5 : decode cd_BI_init 5 = .ok (.iload_n 1, 1) := by decide +kernel
theorem dd_BI_init_6 : decode cd_BI_init 6 = .ok (.putfield 7, 3) := by decide +kernel
theorem dd_BI_init_9 : decode cd_BI_init 9 = .ok (.aload_n 0, 1) := by decide +kernel
theorem dd_BI_init_10 : decode cd_BI_init 10 = .ok (.iload_n 2, 1) := by decide +kernel
theorem dd_BI_init_11 : decode cd_BI_init 11 = .ok (.putfield 13, 3) := by decide +kernel
theorem dd_BI_init_14 : decode cd_BI_init 14 = .ok (.aload_n 0, 1) := by decide +kernel
theorem dd_BI_init_15 : decode cd_BI_init 15 = .ok (.iload_n 3, 1) := by decide +kernel
theorem dd_BI_init_16 : decode cd_BI_init 16 = .ok (.putfield 16, 3) := by decide +kernel
theorem dd_BI_init_19 : decode cd_BI_init 19 = .ok (.aload_n 0, 1) := by decide +kernel
theorem dd_BI_init_20 : decode cd_BI_init 20 = .ok (.aload 4, 2) := by decide +kernel
theorem dd_BI_init_22 : decode cd_BI_init 22 = .ok (.putfield 20, 3) := by decide +kernel
theorem dd_BI_init_25 : decode cd_BI_init 25 = .ok (.return_, 1) := by decide +kernel
theorem dd_LW_route_0 : decode cd_LW_route 0 = .ok (.aload_n 2, 1) := by decide +kernel
theorem dd_LW_route_1 : decode cd_LW_route 1 = .ok (.iconst 0, 1) := by decide +kernel
theorem dd_LW_route_2 : decode cd_LW_route 2 = .ok (.aload_n 0, 1) := by decide +kernel
theorem dd_LW_route_3 : decode cd_LW_route 3 = .ok (.iload_n 1, 1) := by decide +kernel
theorem dd_LW_route_4 : decode cd_LW_route 4 = .ok (.invokevirtual 25, 3) := by decide +kernel
theorem dd_LW_route_7 : decode cd_LW_route 7 = .ok (.i2l, 1) := by decide +kernel
theorem dd_LW_route_8 : decode cd_LW_route 8 = .ok (.lastore, 1) := by decide +kernel
theorem dd_LW_route_9 : decode cd_LW_route 9 = .ok (.goto 6, 3) := by decide +kernel
theorem dd_LW_route_12 : decode cd_LW_route 12 = .ok (.astore_n 3, 1) := by decide +kernel
theorem dd_LW_route_13 : decode cd_LW_route 13 = .ok (.iconst 1, 1) := by decide +kernel
theorem dd_LW_route_14 : decode cd_LW_route 14 = .ok (.ireturn, 1) := by decide +kernel
theorem dd_LW_route_15 : decode cd_LW_route 15 = .ok (.iconst 0, 1) := by decide +kernel
theorem dd_LW_route_16 : decode cd_LW_route 16 = .ok (.ireturn, 1) := by decide +kernel
theorem dd_RD_route_0 : decode cd_RD_route 0 = .ok (.aload_n 0, 1) := by decide +kernel
theorem dd_RD_route_1 : decode cd_RD_route 1 = .ok (.iload_n 1, 1) := by decide +kernel
theorem dd_RD_route_2 : decode cd_RD_route 2 = .ok (.invokevirtual 74, 3) := by decide +kernel
theorem dd_RD_route_5 : decode cd_RD_route 5 = .ok (.ifnonnull 13, 3) := by decide +kernel
theorem dd_RD_route_8 : decode cd_RD_route 8 = .ok (.new 59, 3) := by decide +kernel
theorem dd_RD_route_11 : decode cd_RD_route 11 = .ok (.dup, 1) := by decide +kernel
theorem dd_RD_route_12 : decode cd_RD_route 12 = .ok (.ldc 160, 2) := by decide +kernel
theorem dd_RD_route_14 : decode cd_RD_route 14 = .ok (.invokespecial 63, 3) := by decide +kernel
theorem dd_RD_route_17 : decode cd_RD_route 17 = .ok (.athrow, 1) := by decide +kernel
theorem dd_RD_route_18 : decode cd_RD_route 18 = .ok (.aload_n 0, 1) := by decide +kernel
theorem dd_RD_route_19 : decode cd_RD_route 19 = .ok (.getfield 43, 3) := by decide +kernel
theorem dd_RD_route_22 : decode cd_RD_route 22 = .ok (.iload_n 1, 1) := by decide +kernel
theorem dd_RD_route_23 : decode cd_RD_route 23 = .ok (.invokevirtual 162, 3) := by decide +kernel
theorem dd_RD_route_26 : decode cd_RD_route 26 = .ok (.iconst 0, 1) := by decide +kernel
theorem dd_RD_route_27 : decode cd_RD_route 27 = .ok (.istore_n 2, 1) := by decide +kernel
theorem dd_RD_route_28 : decode cd_RD_route 28 = .ok (.iload_n 2, 1) := by decide +kernel
theorem dd_RD_route_29 : decode cd_RD_route 29 = .ok (.bipush 16, 2) := by decide +kernel
theorem dd_RD_route_31 : decode cd_RD_route 31 = .ok (.if_icmp .ge 33, 3) := by decide +kernel
theorem dd_RD_route_34 : decode cd_RD_route 34 = .ok (.iload_n 2, 1) := by decide +kernel
theorem dd_RD_route_35 : decode cd_RD_route 35 = .ok (.aload_n 0, 1) := by decide +kernel
theorem dd_RD_route_36 : decode cd_RD_route 36 = .ok (.getfield 43, 3) := by decide +kernel
theorem dd_RD_route_39 : decode cd_RD_route 39 = .ok (.getfield 165, 3) := by decide +kernel
theorem dd_RD_route_42 : decode cd_RD_route 42 = .ok (.if_icmp .ge 22, 3) := by decide +kernel
theorem dd_RD_route_45 : decode cd_RD_route 45 = .ok (.aload_n 0, 1) := by decide +kernel
theorem dd_RD_route_46 : decode cd_RD_route 46 = .ok (.aload_n 0, 1) := by decide +kernel
theorem dd_RD_route_47 : decode cd_RD_route 47 = .ok (.getfield 43, 3) := by decide +kernel
theorem dd_RD_route_50 : decode cd_RD_route 50 = .ok (.getfield 168, 3) := by decide +kernel
theorem dd_RD_route_53 : decode cd_RD_route 53 = .ok (.iload_n 2, 1) := by decide +kernel
theorem dd_RD_route_54 : decode cd_RD_route 54 = .ok (.iaload, 1) := by decide +kernel
theorem dd_RD_route_55 : decode cd_RD_route 55 = .ok (.invokevirtual 172, 3) := by decide +kernel
theorem dd_RD_route_58 : decode cd_RD_route 58 = .ok (.iinc 2 1, 3) := by decide +kernel
theorem dd_RD_route_61 : decode cd_RD_route 61 = .ok (.goto (-33), 3) := by decide +kernel
theorem dd_RD_route_64 : decode cd_RD_route 64 = .ok (.aload_n 0, 1) := by decide +kernel
theorem dd_RD_route_65 : decode cd_RD_route 65 = .ok (.getfield 43, 3) := by decide +kernel
theorem dd_RD_route_68 : decode cd_RD_route 68 = .ok (.getfield 175, 3) := by decide +kernel
theorem dd_RD_route_71 : decode cd_RD_route 71 = .ok (.ireturn, 1) := by decide +kernel
theorem dd_RT_startAt_0 : decode cd_RT_startAt 0 = .ok (.iconst 0, 1) := by decide +kernel
theorem dd_RT_startAt_1 : decode cd_RT_startAt 1 = .ok (.istore_n 2, 1) := by decide +kernel
theorem dd_RT_startAt_2 : decode cd_RT_startAt 2 = .ok (.iload_n 2, 1) := by decide +kernel
theorem dd_RT_startAt_3 : decode cd_RT_startAt 3 = .ok (.bipush 16, 2) := by decide +kernel
theorem dd_RT_startAt_5 : decode cd_RT_startAt 5 = .ok (.if_icmp .ge 16, 3) := by decide +kernel
theorem dd_RT_startAt_8 : decode cd_RT_startAt 8 = .ok (.aload_n 0, 1) := by decide +kernel
theorem dd_RT_startAt_9 : decode cd_RT_startAt 9 = .ok (.getfield 9, 3) := by decide +kernel
theorem dd_RT_startAt_12 : decode cd_RT_startAt 12 = .ok (.iload_n 2, 1) := by decide +kernel
theorem dd_RT_startAt_13 : decode cd_RT_startAt 13 = .ok (.iconst 0, 1) := by decide +kernel
theorem dd_RT_startAt_14 : decode cd_RT_startAt 14 = .ok (.bastore, 1) := by decide +kernel
theorem dd_RT_startAt_15 : decode cd_RT_startAt 15 = .ok (.iinc 2 1, 3) := by decide +kernel
theorem dd_RT_startAt_18 : decode cd_RT_startAt 18 = .ok (.goto (-16), 3) := by decide +kernel
theorem dd_RT_startAt_21 : decode cd_RT_startAt 21 = .ok (.iconst 0, 1) := by decide +kernel
theorem dd_RT_startAt_22 : decode cd_RT_startAt 22 = .ok (.istore_n 2, 1) := by decide +kernel
theorem dd_RT_startAt_23 : decode cd_RT_startAt 23 = .ok (.iload_n 2, 1) := by decide +kernel
theorem dd_RT_startAt_24 : decode cd_RT_startAt 24 = .ok (.bipush 16, 2) := by decide +kernel
theorem dd_RT_startAt_26 : decode cd_RT_startAt 26 = .ok (.if_icmp .ge 16, 3) := by decide +kernel
theorem dd_RT_startAt_29 : decode cd_RT_startAt 29 = .ok (.aload_n 0, 1) := by decide +kernel
theorem dd_RT_startAt_30 : decode cd_RT_startAt 30 = .ok (.getfield 23, 3) := by decide +kernel
theorem dd_RT_startAt_33 : decode cd_RT_startAt 33 = .ok (.iload_n 2, 1) := by decide +kernel
theorem dd_RT_startAt_34 : decode cd_RT_startAt 34 = .ok (.iconst 0, 1) := by decide +kernel
theorem dd_RT_startAt_35 : decode cd_RT_startAt 35 = .ok (.bastore, 1) := by decide +kernel
theorem dd_RT_startAt_36 : decode cd_RT_startAt 36 = .ok (.iinc 2 1, 3) := by decide +kernel
theorem dd_RT_startAt_39 : decode cd_RT_startAt 39 = .ok (.goto (-16), 3) := by decide +kernel
theorem dd_RT_startAt_42 : decode cd_RT_startAt 42 = .ok (.aload_n 0, 1) := by decide +kernel
theorem dd_RT_startAt_43 : decode cd_RT_startAt 43 = .ok (.iconst 0, 1) := by decide +kernel
theorem dd_RT_startAt_44 : decode cd_RT_startAt 44 = .ok (.putfield 19, 3) := by decide +kernel
theorem dd_RT_startAt_47 : decode cd_RT_startAt 47 = .ok (.aload_n 0, 1) := by decide +kernel
theorem dd_RT_startAt_48 : decode cd_RT_startAt 48 = .ok (.iconst 0, 1) := by decide +kernel
theorem dd_RT_startAt_49 : decode cd_RT_startAt 49 = .ok (.putfield 26, 3) := by decide +kernel
theorem dd_RT_startAt_52 : decode cd_RT_startAt 52 = .ok (.aload_n 0, 1) := by decide +kernel
theorem dd_RT_startAt_53 : decode cd_RT_startAt 53 = .ok (.iload_n 1, 1) := by decide +kernel
theorem dd_RT_startAt_54 : decode cd_RT_startAt 54 = .ok (.invokevirtual 29, 3) := by decide +kernel
theorem dd_RT_startAt_57 : decode cd_RT_startAt 57 = .ok (.return_, 1) := by decide +kernel
theorem dd_RT_markPassed_0 : decode cd_RT_markPassed 0 = .ok (.iload_n 1, 1) := by decide +kernel
theorem dd_RT_markPassed_1 : decode cd_RT_markPassed 1 = .ok (.ifCond .lt 27, 3) := by decide +kernel
theorem dd_RT_markPassed_4 : decode cd_RT_markPassed 4 = .ok (.iload_n 1, 1) := by decide +kernel
theorem dd_RT_markPassed_5 : decode cd_RT_markPassed 5 = .ok (.bipush 16, 2) := by decide +kernel
theorem dd_RT_markPassed_7 : decode cd_RT_markPassed 7 = .ok (.if_icmp .ge 21, 3) := by decide +kernel
theorem dd_RT_markPassed_10 : decode cd_RT_markPassed 10 = .ok (.aload_n 0, 1) := by decide +kernel
theorem dd_RT_markPassed_11 : decode cd_RT_markPassed 11 = .ok (.getfield 19, 3) := by decide +kernel
theorem dd_RT_markPassed_14 : decode cd_RT_markPassed 14 = .ok (.bipush 16, 2) := by decide +kernel
theorem dd_RT_markPassed_16 : decode cd_RT_markPassed 16 = .ok (.if_icmp .ge 12, 3) := by decide +kernel
theorem dd_RT_markPassed_19 : decode cd_RT_markPassed 19 = .ok (.aload_n 0, 1) := by decide +kernel
theorem dd_RT_markPassed_20 : decode cd_RT_markPassed 20 = .ok (.getfield 9, 3) := by decide +kernel
theorem dd_RT_markPassed_23 : decode cd_RT_markPassed 23 = .ok (.iload_n 1, 1) := by decide +kernel
theorem dd_RT_markPassed_24 : decode cd_RT_markPassed 24 = .ok (.baload, 1) := by decide +kernel
theorem dd_RT_markPassed_25 : decode cd_RT_markPassed 25 = .ok (.ifCond .eq 4, 3) := by decide +kernel
theorem dd_RT_markPassed_28 : decode cd_RT_markPassed 28 = .ok (.return_, 1) := by decide +kernel
theorem dd_RT_markPassed_29 : decode cd_RT_markPassed 29 = .ok (.aload_n 0, 1) := by decide +kernel
theorem dd_RT_markPassed_30 : decode cd_RT_markPassed 30 = .ok (.getfield 9, 3) := by decide +kernel
theorem dd_RT_markPassed_33 : decode cd_RT_markPassed 33 = .ok (.iload_n 1, 1) := by decide +kernel
theorem dd_RT_markPassed_34 : decode cd_RT_markPassed 34 = .ok (.iconst 1, 1) := by decide +kernel
theorem dd_RT_markPassed_35 : decode cd_RT_markPassed 35 = .ok (.bastore, 1) := by decide +kernel
theorem dd_RT_markPassed_36 : decode cd_RT_markPassed 36 = .ok (.aload_n 0, 1) := by decide +kernel
theorem dd_RT_markPassed_37 : decode cd_RT_markPassed 37 = .ok (.getfield 15, 3) := by decide +kernel
theorem dd_RT_markPassed_40 : decode cd_RT_markPassed 40 = .ok (.aload_n 0, 1) := by decide +kernel
theorem dd_RT_markPassed_41 : decode cd_RT_markPassed 41 = .ok (.getfield 19, 3) := by decide +kernel
theorem dd_RT_markPassed_44 : decode cd_RT_markPassed 44 = .ok (.iload_n 1, 1) := by decide +kernel
theorem dd_RT_markPassed_45 : decode cd_RT_markPassed 45 = .ok (.iastore, 1) := by decide +kernel
theorem dd_RT_markPassed_46 : decode cd_RT_markPassed 46 = .ok (.aload_n 0, 1) := by decide +kernel
theorem dd_RT_markPassed_47 : decode cd_RT_markPassed 47 = .ok (.dup, 1) := by decide +kernel
theorem dd_RT_markPassed_48 : decode cd_RT_markPassed 48 = .ok (.getfield 19, 3) := by decide +kernel
theorem dd_RT_markPassed_51 : decode cd_RT_markPassed 51 = .ok (.iconst 1, 1) := by decide +kernel
theorem dd_RT_markPassed_52 : decode cd_RT_markPassed 52 = .ok (.iadd, 1) := by decide +kernel
theorem dd_RT_markPassed_53 : decode cd_RT_markPassed 53 = .ok (.putfield 19, 3) := by decide +kernel
theorem dd_RT_markPassed_56 : decode cd_RT_markPassed 56 = .ok (.return_, 1) := by decide +kernel
theorem dd_RD_leadOn_0 : decode cd_RD_leadOn 0 = .ok (.aload_n 0, 1) := by decide +kernel
theorem dd_RD_leadOn_1 : decode cd_RD_leadOn 1 = .ok (.iload_n 1, 1) := by decide +kernel
theorem dd_RD_leadOn_2 : decode cd_RD_leadOn 2 = .ok (.invokevirtual 74, 3) := by decide +kernel
theorem dd_RD_leadOn_5 : decode cd_RD_leadOn 5 = .ok (.astore_n 2, 1) := by decide +kernel
theorem dd_RD_leadOn_6 : decode cd_RD_leadOn 6 = .ok (.aload_n 2, 1) := by decide +kernel
theorem dd_RD_leadOn_7 : decode cd_RD_leadOn 7 = .ok (.ifnonnull 4, 3) := by decide +kernel
theorem dd_RD_leadOn_10 : decode cd_RD_leadOn 10 = .ok (.return_, 1) := by decide +kernel
theorem dd_RD_leadOn_11 : decode cd_RD_leadOn 11 = .ok (.iconst 0, 1) := by decide +kernel
theorem dd_RD_leadOn_12 : decode cd_RD_leadOn 12 = .ok (.istore_n 3, 1) := by decide +kernel
theorem dd_RD_leadOn_13 : decode cd_RD_leadOn 13 = .ok (.iconst 0, 1) := by decide +kernel
theorem dd_RD_leadOn_14 : decode cd_RD_leadOn 14 = .ok (.istore 4, 2) := by decide +kernel
theorem dd_RD_leadOn_16 : decode cd_RD_leadOn 16 = .ok (.iload 4, 2) := by decide +kernel
theorem dd_RD_leadOn_18 : decode cd_RD_leadOn 18 = .ok (.aload_n 0, 1) := by decide +kernel
theorem dd_RD_leadOn_19 : decode cd_RD_leadOn 19 = .ok (.getfield 29, 3) := by decide +kernel
theorem dd_RD_leadOn_22 : decode cd_RD_leadOn 22 = .ok (.invokevirtual 88, 3) := by decide +kernel
theorem dd_RD_leadOn_25 : decode cd_RD_leadOn 25 = .ok (.if_icmp .ge 56, 3) := by decide +kernel
theorem dd_RD_leadOn_28 : decode cd_RD_leadOn 28 = .ok (.aload_n 0, 1) := by decide +kernel
theorem dd_RD_leadOn_29 : decode cd_RD_leadOn 29 = .ok (.getfield 29, 3) := by decide +kernel
theorem dd_RD_leadOn_32 : decode cd_RD_leadOn 32 = .ok (.iload 4, 2) := by decide +kernel
theorem dd_RD_leadOn_34 : decode cd_RD_leadOn 34 = .ok (.invokevirtual 91, 3) := by decide +kernel
theorem dd_RD_leadOn_37 : decode cd_RD_leadOn 37 = .ok (.checkcast 95, 3) := by decide +kernel
theorem dd_RD_leadOn_40 : decode cd_RD_leadOn 40 = .ok (.astore 5, 2) := by decide +kernel
theorem dd_RD_leadOn_42 : decode cd_RD_leadOn 42 = .ok (.aload 5, 2) := by decide +kernel
theorem dd_RD_leadOn_44 : decode cd_RD_leadOn 44 = .ok (.getfield 100, 3) := by decide +kernel
theorem dd_RD_leadOn_47 : decode cd_RD_leadOn 47 = .ok (.iload_n 1, 1) := by decide +kernel
theorem dd_RD_leadOn_48 : decode cd_RD_leadOn 48 = .ok (.if_icmp .ne 27, 3) := by decide +kernel
theorem dd_RD_leadOn_51 : decode cd_RD_leadOn 51 = .ok (.aload_n 0, 1) := by decide +kernel
theorem dd_RD_leadOn_52 : decode cd_RD_leadOn 52 = .ok (.aload_n 2, 1) := by decide +kernel
theorem dd_RD_leadOn_53 : decode cd_RD_leadOn 53 = .ok (.getfield 112, 3) := by decide +kernel
theorem dd_RD_leadOn_56 : decode cd_RD_leadOn 56 = .ok (.aload 5, 2) := by decide +kernel
theorem dd_RD_leadOn_58 : decode cd_RD_leadOn 58 = .ok (.getfield 216, 3) := by decide +kernel
theorem dd_RD_leadOn_61 : decode cd_RD_leadOn 61 = .ok (.invokevirtual 242, 3) := by decide +kernel
theorem dd_RD_leadOn_64 : decode cd_RD_leadOn 64 = .ok (.ifCond .eq 11, 3) := by decide +kernel
theorem dd_RD_leadOn_67 : decode cd_RD_leadOn 67 = .ok (.iconst 1, 1) := by decide +kernel
theorem dd_RD_leadOn_68 : decode cd_RD_leadOn 68 = .ok (.istore_n 3, 1) := by decide +kernel
theorem dd_RD_leadOn_69 : decode cd_RD_leadOn 69 = .ok (.aload_n 0, 1) := by decide +kernel
theorem dd_RD_leadOn_70 : decode cd_RD_leadOn 70 = .ok (.aload 5, 2) := by decide +kernel
theorem dd_RD_leadOn_72 : decode cd_RD_leadOn 72 = .ok (.invokevirtual 245, 3) := by decide +kernel
theorem dd_RD_leadOn_75 : decode cd_RD_leadOn 75 = .ok (.iinc 4 1, 3) := by decide +kernel
theorem dd_RD_leadOn_78 : decode cd_RD_leadOn 78 = .ok (.goto (-62), 3) := by decide +kernel
theorem dd_RD_leadOn_81 : decode cd_RD_leadOn 81 = .ok (.iload_n 3, 1) := by decide +kernel
theorem dd_RD_leadOn_82 : decode cd_RD_leadOn 82 = .ok (.ifCond .ne 25, 3) := by decide +kernel
theorem dd_RD_leadOn_85 : decode cd_RD_leadOn 85 = .ok (.aload_n 0, 1) := by decide +kernel
theorem dd_RD_leadOn_86 : decode cd_RD_leadOn 86 = .ok (.aload_n 2, 1) := by decide +kernel
theorem dd_RD_leadOn_87 : decode cd_RD_leadOn 87 = .ok (.getfield 78, 3) := by decide +kernel
theorem dd_RD_leadOn_90 : decode cd_RD_leadOn 90 = .ok (.invokevirtual 74, 3) := by decide +kernel
theorem dd_RD_leadOn_93 : decode cd_RD_leadOn 93 = .ok (.ifnull 14, 3) := by decide +kernel
theorem dd_RD_leadOn_96 : decode cd_RD_leadOn 96 = .ok (.aload_n 0, 1) := by decide +kernel
theorem dd_RD_leadOn_97 : decode cd_RD_leadOn 97 = .ok (.getfield 43, 3) := by decide +kernel
theorem dd_RD_leadOn_100 : decode cd_RD_leadOn 100 = .ok (.aload_n 2, 1) := by decide +kernel
theorem dd_RD_leadOn_101 : decode cd_RD_leadOn 101 = .ok (.getfield 78, 3) := by decide +kernel
theorem dd_RD_leadOn_104 : decode cd_RD_leadOn 104 = .ok (.invokevirtual 249, 3) := by decide +kernel
theorem dd_RD_leadOn_107 : decode cd_RD_leadOn 107 = .ok (.return_, 1) := by decide +kernel
