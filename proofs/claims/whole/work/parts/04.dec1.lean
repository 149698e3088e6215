/-! printed (gen/names.py): what the codes decode to -/
theorem dd_RD_init_0 : decode cd_RD_init 0 = .ok (.aload_n 0, 1) := by decide +kernel
theorem dd_RD_init_1 : decode cd_RD_init 1 = .ok (.invokespecial 1, 3) := by decide +kernel
theorem dd_RD_init_4 : decode cd_RD_init 4 = .ok (.aload_n 0, 1) := by decide +kernel
theorem dd_RD_init_5 : decode cd_RD_init 5 = .ok (.new 7, 3) := by decide +kernel
theorem dd_RD_init_8 : decode cd_RD_init 8 = .ok (.dup, 1) := by decide +kernel
theorem dd_RD_init_9 : decode cd_RD_init 9 = .ok (.invokespecial 9, 3) := by decide +kernel
theorem dd_RD_init_12 : decode cd_RD_init 12 = .ok (.putfield 10, 3) := by decide +kernel
theorem dd_RD_init_15 : decode cd_RD_init 15 = .ok (.aload_n 0, 1) := by decide +kernel
theorem dd_RD_init_16 : decode cd_RD_init 16 = .ok (.bipush 16, 2) := by decide +kernel
theorem dd_RD_init_18 : decode cd_RD_init 18 = .ok (.anewarray 16, 3) := by decide +kernel
theorem dd_RD_init_21 : decode cd_RD_init 21 = .ok (.putfield 18, 3) := by decide +kernel
theorem dd_RD_init_24 : decode cd_RD_init 24 = .ok (.aload_n 0, 1) := by decide +kernel
theorem dd_RD_init_25 : decode cd_RD_init 25 = .ok (.bipush 16, 2) := by decide +kernel
theorem dd_RD_init_27 : decode cd_RD_init 27 = .ok (.newarray .boolean, 2) := by decide +kernel
theorem dd_RD_init_29 : decode cd_RD_init 29 = .ok (.putfield 22, 3) := by decide +kernel
theorem dd_RD_init_32 : decode cd_RD_init 32 = .ok (.aload_n 0, 1) := by decide +kernel
theorem dd_RD_init_33 : decode cd_RD_init 33 = .ok (.new 26, 3) := by decide +kernel
theorem dd_RD_init_36 : decode cd_RD_init 36 = .ok (.dup, 1) := by decide +kernel
theorem dd_RD_init_37 : decode cd_RD_init 37 = .ok (.invokespecial 28, 3) := by decide +kernel
theorem dd_RD_init_40 : decode cd_RD_init 40 = .ok (.putfield 29, 3) := by decide +kernel
theorem dd_RD_init_43 : decode cd_RD_init 43 = .ok (.aload_n 0, 1) := by decide +kernel
theorem dd_RD_init_44 : decode cd_RD_init 44 = .ok (.new 33, 3) := by decide +kernel
theorem dd_RD_init_47 : decode cd_RD_init 47 = .ok (.dup, 1) := by decide +kernel
theorem dd_RD_init_48 : decode cd_RD_init 48 = .ok (.invokespecial 35, 3) := by decide +kernel
theorem dd_RD_init_51 : decode cd_RD_init 51 = .ok (.putfield 36, 3) := by decide +kernel
theorem dd_RD_init_54 : decode cd_RD_init 54 = .ok (.aload_n 0, 1) := by decide +kernel
theorem dd_RD_init_55 : decode cd_RD_init 55 = .ok (.new 40, 3) := by decide +kernel
theorem dd_RD_init_58 : decode cd_RD_init 58 = .ok (.dup, 1) := by decide +kernel
theorem dd_RD_init_59 : decode cd_RD_init 59 = .ok (.invokespecial 42, 3) := by decide +kernel
theorem dd_RD_init_62 : decode cd_RD_init 62 = .ok (.putfield 43, 3) := by decide +kernel
theorem dd_RD_init_65 : decode cd_RD_init 65 = .ok (.return_, 1) := by decide +kernel
theorem dd_MG_init_0 : decode cd_MG_init 0 = .ok (.aload_n 0, 1) := by decide +kernel
theorem dd_MG_init_1 : decode cd_MG_init 1 = .ok (.invokespecial 1, 3) := by decide +kernel
theorem dd_MG_init_4 : decode cd_MG_init 4 = .ok (.aload_n 0, 1) := by decide +kernel
theorem dd_MG_init_5 : decode cd_MG_init 5 = .ok (.ldc 7, 2) := by decide +kernel
theorem dd_MG_init_7 : decode cd_MG_init 7 = .ok (.putfield 9, 3) := by decide +kernel
theorem dd_MG_init_10 : decode cd_MG_init 10 = .ok (.aload_n 0, 1) := by decide +kernel
theorem dd_MG_init_11 : decode cd_MG_init 11 = .ok (.new 15, 3) := by decide +kernel
theorem dd_MG_init_14 : decode cd_MG_init 14 = .ok (.dup, 1) := by decide +kernel
theorem dd_MG_init_15 : decode cd_MG_init 15 = .ok (.invokespecial 17, 3) := by decide +kernel
theorem dd_MG_init_18 : decode cd_MG_init 18 = .ok (.putfield 18, 3) := by decide +kernel
theorem dd_MG_init_21 : decode cd_MG_init 21 = .ok (.return_, 1) := by decide +kernel
theorem dd_RT_init_0 : decode cd_RT_init 0 = .ok (.aload_n 0, 1) := by decide +kernel
theorem dd_RT_init_1 : decode cd_RT_init 1 = .ok (.invokespecial 3, 3) := by decide +kernel
theorem dd_RT_init_4 : decode cd_RT_init 4 = .ok (.aload_n 0, 1) := by decide +kernel
theorem dd_RT_init_5 : decode cd_RT_init 5 = .ok (.bipush 16, 2) := by decide +kernel
theorem dd_RT_init_7 : decode cd_RT_init 7 = .ok (.newarray .boolean, 2) := by decide +kernel
theorem dd_RT_init_9 : decode cd_RT_init 9 = .ok (.putfield 9, 3) := by decide +kernel
theorem dd_RT_init_12 : decode cd_RT_init 12 = .ok (.aload_n 0, 1) := by decide +kernel
theorem dd_RT_init_13 : decode cd_RT_init 13 = .ok (.bipush 16, 2) := by decide +kernel
theorem dd_RT_init_15 : decode cd_RT_init 15 = .ok (.newarray .int, 2) := by decide +kernel
theorem dd_RT_init_17 : decode cd_RT_init 17 = .ok (.putfield 15, 3) := by decide +kernel
theorem dd_RT_init_20 : decode cd_RT_init 20 = .ok (.aload_n 0, 1) := by decide +kernel
theorem dd_RT_init_21 : decode cd_RT_init 21 = .ok (.iconst 0, 1) := by decide +kernel
theorem dd_RT_init_22 : decode cd_RT_init 22 = .ok (.putfield 19, 3) := by decide +kernel
theorem dd_RT_init_25 : decode cd_RT_init 25 = .ok (.aload_n 0, 1) := by decide +kernel
theorem dd_RT_init_26 : decode cd_RT_init 26 = .ok (.bipush 16, 2) := by decide +kernel
theorem dd_RT_init_28 : decode cd_RT_init 28 = .ok (.newarray .boolean, 2) := by decide +kernel
theorem dd_RT_init_30 : decode cd_RT_init 30 = .ok (.putfield 23, 3) := by decide +kernel
theorem dd_RT_init_33 : decode cd_RT_init 33 = .ok (.aload_n 0, 1) := by decide +kernel
theorem dd_RT_init_34 : decode cd_RT_init 34 = .ok (.iconst 0, 1) := by decide +kernel
theorem dd_RT_init_35 : decode cd_RT_init 35 = .ok (.putfield 26, 3) := by decide +kernel
theorem dd_RT_init_38 : decode cd_RT_init 38 = .ok (.return_, 1) := by decide +kernel
theorem dd_RD_type_0 : decode cd_RD_type 0 = .ok (.iload_n 3, 1) := by decide +kernel
theorem dd_RD_type_1 : decode cd_RD_type 1 = .ok (.iconst 1, 1) := by decide +kernel
theorem dd_RD_type_2 : decode cd_RD_type 2 = .ok (.if_icmp .lt 23, 3) := by decide +kernel
theorem dd_RD_type_5 : decode cd_RD_type 5 = .ok (.iload_n 3, 1) := by decide +kernel
theorem dd_RD_type_6 : decode cd_RD_type 6 = .ok (.bipush 8, 2) := by decide +kernel
theorem dd_RD_type_8 : decode cd_RD_type 8 = .ok (.if_icmp .gt 17, 3) := by decide +kernel
theorem dd_RD_type_11 : decode cd_RD_type 11 = .ok (.aload_n 0, 1) := by decide +kernel
theorem dd_RD_type_12 : decode cd_RD_type 12 = .ok (.getfield 10, 3) := by decide +kernel
theorem dd_RD_type_15 : decode cd_RD_type 15 = .ok (.invokevirtual 47, 3) := by decide +kernel
theorem dd_RD_type_18 : decode cd_RD_type 18 = .ok (.iload_n 3, 1) := by decide +kernel
theorem dd_RD_type_19 : decode cd_RD_type 19 = .ok (.iadd, 1) := by decide +kernel
theorem dd_RD_type_20 : decode cd_RD_type 20 = .ok (.bipush 48, 2) := by decide +kernel
theorem dd_RD_type_22 : decode cd_RD_type 22 = .ok (.if_icmp .le 5, 3) := by decide +kernel
theorem dd_RD_type_25 : decode cd_RD_type 25 = .ok (.iconst 0, 1) := by decide +kernel
theorem dd_RD_type_26 : decode cd_RD_type 26 = .ok (.ireturn, 1) := by decide +kernel
theorem dd_RD_type_27 : decode cd_RD_type 27 = .ok (.iconst 0, 1) := by decide +kernel
theorem dd_RD_type_28 : decode cd_RD_type 28 = .ok (.istore 4, 2) := by decide +kernel
theorem dd_RD_type_30 : decode cd_RD_type 30 = .ok (.iload 4, 2) := by decide +kernel
theorem dd_RD_type_32 : decode cd_RD_type 32 = .ok (.iload_n 3, 1) := by decide +kernel
theorem dd_RD_type_33 : decode cd_RD_type 33 = .ok (.if_icmp .ge 33, 3) := by decide +kernel
theorem dd_RD_type_36 : decode cd_RD_type 36 = .ok (.lload_n 1, 1) := by decide +kernel
theorem dd_RD_type_37 : decode cd_RD_type 37 = .ok (.iload 4, 2) := by decide +kernel
theorem dd_RD_type_39 : decode cd_RD_type 39 = .ok (.invokestatic 51, 3) := by decide +kernel
theorem dd_RD_type_42 : decode cd_RD_type 42 = .ok (.istore 5, 2) := by decide +kernel
theorem dd_RD_type_44 : decode cd_RD_type 44 = .ok (.iload 5, 2) := by decide +kernel
theorem dd_RD_type_46 : decode cd_RD_type 46 = .ok (.bipush 32, 2) := by decide +kernel
theorem dd_RD_type_48 : decode cd_RD_type 48 = .ok (.if_icmp .lt 10, 3) := by decide +kernel
theorem dd_RD_type_51 : decode cd_RD_type 51 = .ok (.iload 5, 2) := by decide +kernel
theorem dd_RD_type_53 : decode cd_RD_type 53 = .ok (.bipush 126, 2) := by decide +kernel
theorem dd_RD_type_55 : decode cd_RD_type 55 = .ok (.if_icmp .le 5, 3) := by decide +kernel
theorem dd_RD_type_58 : decode cd_RD_type 58 = .ok (.iconst 0, 1) := by decide +kernel
theorem dd_RD_type_59 : decode cd_RD_type 59 = .ok (.ireturn, 1) := by decide +kernel
theorem dd_RD_type_60 : decode cd_RD_type 60 = .ok (.iinc 4 1, 3) := by decide +kernel
theorem dd_RD_type_63 : decode cd_RD_type 63 = .ok (.goto (-33), 3) := by decide +kernel
theorem dd_RD_type_66 : decode cd_RD_type 66 = .ok (.iload_n 3, 1) := by decide +kernel
theorem dd_RD_type_67 : decode cd_RD_type 67 = .ok (.iconst 1, 1) := by decide +kernel
theorem dd_RD_type_68 : decode cd_RD_type 68 = .ok (.isub, 1) := by decide +kernel
theorem dd_RD_type_69 : decode cd_RD_type 69 = .ok (.istore 4, 2) := by decide +kernel
theorem dd_RD_type_71 : decode cd_RD_type 71 = .ok (.iload 4, 2) := by decide +kernel
theorem dd_RD_type_73 : decode cd_RD_type 73 = .ok (.ifCond .lt 24, 3) := by decide +kernel
theorem dd_RD_type_76 : decode cd_RD_type 76 = .ok (.aload_n 0, 1) := by decide +kernel
theorem dd_RD_type_77 : decode cd_RD_type 77 = .ok (.getfield 10, 3) := by decide +kernel
theorem dd_RD_type_80 : decode cd_RD_type 80 = .ok (.lload_n 1, 1) := by decide +kernel
theorem dd_RD_type_81 : decode cd_RD_type 81 = .ok (.iload 4, 2) := by decide +kernel
theorem dd_RD_type_83 : decode cd_RD_type 83 = .ok (.invokestatic 51, 3) := by decide +kernel
theorem dd_RD_type_86 : decode cd_RD_type 86 = .ok (.i2c, 1) := by decide +kernel
theorem dd_RD_type_87 : decode cd_RD_type 87 = .ok (.invokevirtual 55, 3) := by decide +kernel
theorem dd_RD_type_90 : decode cd_RD_type 90 = .ok (.pop, 1) := by decide +kernel
theorem dd_RD_type_91 : decode cd_RD_type 91 = .ok (.iinc 4 (-1), 3) := by decide +kernel
theorem dd_RD_type_94 : decode cd_RD_type 94 = .ok (.goto (-23), 3) := by decide +kernel
theorem dd_RD_type_97 : decode cd_RD_type 97 = .ok (.iconst 1, 1) := by decide +kernel
theorem dd_RD_type_98 : decode cd_RD_type 98 = .ok (.ireturn, 1) := by decide +kernel
theorem dd_RD_byteOf_0 : decode cd_RD_byteOf 0 = .ok (.lload_n 0, 1) := by decide +kernel
theorem dd_RD_byteOf_1 : decode cd_RD_byteOf 1 = .ok (.bipush 8, 2) := by decide +kernel
theorem dd_RD_byteOf_3 : decode cd_RD_byteOf 3 = .ok (.iload_n 2, 1) := by decide +kernel
theorem dd_RD_byteOf_4 : decode cd_RD_byteOf 4 = .ok (.imul, 1) := by decide +kernel
theorem dd_RD_byteOf_5 : decode cd_RD_byteOf 5 = .ok (.lushr, 1) := by decide +kernel
theorem dd_RD_byteOf_6 : decode cd_RD_byteOf 6 = .ok (.l2i, 1) := by decide +kernel
theorem dd_RD_byteOf_7 : decode cd_RD_byteOf 7 = .ok (.sipush 255, 3) := by decide +kernel
theorem dd_RD_byteOf_10 : decode cd_RD_byteOf 10 = .ok (.iand, 1) := by decide +kernel
theorem dd_RD_byteOf_11 : decode cd_RD_byteOf 11 = .ok (.ireturn, 1) := by decide +kernel
theorem dd_RD_alternate_0 : decode cd_RD_alternate 0 = .ok (.aload_n 0, 1) := by decide +kernel
theorem dd_RD_alternate_1 : decode cd_RD_alternate 1 = .ok (.iload_n 1, 1) := by decide +kernel
theorem dd_RD_alternate_2 : decode cd_RD_alternate 2 = .ok (.invokevirtual 74, 3) := by decide +kernel
theorem dd_RD_alternate_5 : decode cd_RD_alternate 5 = .ok (.astore_n 3, 1) := by decide +kernel
theorem dd_RD_alternate_6 : decode cd_RD_alternate 6 = .ok (.aload_n 3, 1) := by decide +kernel
theorem dd_RD_alternate_7 : decode cd_RD_alternate 7 = .ok (.ifnull 19, 3) := by decide +kernel
theorem dd_RD_alternate_10 : decode cd_RD_alternate 10 = .ok (.iload_n 2, 1) := by decide +kernel
theorem dd_RD_alternate_11 : decode cd_RD_alternate 11 = .ok (.iconst (-1), 1) := by decide +kernel
theorem dd_RD_alternate_12 : decode cd_RD_alternate 12 = .ok (.if_icmp .lt 14, 3) := by decide +kernel
theorem dd_RD_alternate_15 : decode cd_RD_alternate 15 = .ok (.iload_n 2, 1) := by decide +kernel
theorem dd_RD_alternate_16 : decode cd_RD_alternate 16 = .ok (.bipush 16, 2) := by decide +kernel
theorem dd_RD_alternate_18 : decode cd_RD_alternate 18 = .ok (.if_icmp .ge 8, 3) := by decide +kernel
theorem dd_RD_alternate_21 : decode cd_RD_alternate 21 = .ok (.iload_n 2, 1) := by decide +kernel
theorem dd_RD_alternate_22 : decode cd_RD_alternate 22 = .ok (.iload_n 1, 1) := by decide +kernel
theorem dd_RD_alternate_23 : decode cd_RD_alternate 23 = .ok (.if_icmp .ne 5, 3) := by decide +kernel
theorem dd_RD_alternate_26 : decode cd_RD_alternate 26 = .ok (.iconst 0, 1) := by decide +kernel
theorem dd_RD_alternate_27 : decode cd_RD_alternate 27 = .ok (.ireturn, 1) := by decide +kernel
theorem dd_RD_alternate_28 : decode cd_RD_alternate 28 = .ok (.aload_n 3, 1) := by decide +kernel
theorem dd_RD_alternate_29 : decode cd_RD_alternate 29 = .ok (.iload_n 2, 1) := by decide +kernel
theorem dd_RD_alternate_30 : decode cd_RD_alternate 30 = .ok (.putfield 78, 3) := by decide +kernel
theorem dd_RD_alternate_33 : decode cd_RD_alternate 33 = .ok (.iconst 1, 1) := by decide +kernel
theorem dd_RD_alternate_34 : decode cd_RD_alternate 34 = .ok (.ireturn, 1) := by decide +kernel
theorem dd_RD_exchangeAt_0 : decode cd_RD_exchangeAt 0 = .ok (.iload_n 1, 1) := by decide +kernel
theorem dd_RD_exchangeAt_1 : decode cd_RD_exchangeAt 1 = .ok (.ifCond .lt 18, 3) := by decide +kernel
theorem dd_RD_exchangeAt_4 : decode cd_RD_exchangeAt 4 = .ok (.iload_n 1, 1) := by decide +kernel
theorem dd_RD_exchangeAt_5 : decode cd_RD_exchangeAt 5 = .ok (.bipush 16, 2) := by decide +kernel
theorem dd_RD_exchangeAt_7 : decode cd_RD_exchangeAt 7 = .ok (.if_icmp .ge 12, 3) := by decide +kernel
theorem dd_RD_exchangeAt_10 : decode cd_RD_exchangeAt 10 = .ok (.aload_n 0, 1) := by decide +kernel
theorem dd_RD_exchangeAt_11 : decode cd_RD_exchangeAt 11 = .ok (.getfield 18, 3) := by decide +kernel
theorem dd_RD_exchangeAt_14 : decode cd_RD_exchangeAt 14 = .ok (.iload_n 1, 1) := by decide +kernel
theorem dd_RD_exchangeAt_15 : decode cd_RD_exchangeAt 15 = .ok (.aaload, 1) := by decide +kernel
theorem dd_RD_exchangeAt_16 : decode cd_RD_exchangeAt 16 = .ok (.goto 4, 3) := by decide +kernel
theorem dd_RD_exchangeAt_19 : decode cd_RD_exchangeAt 19 = .ok (.aconst_null, 1) := by decide +kernel
theorem dd_RD_exchangeAt_20 : decode cd_RD_exchangeAt 20 = .ok (.areturn, 1) := by decide +kernel
theorem dd_RD_remove_0 : decode cd_RD_remove 0 = .ok (.aload_n 0, 1) := by decide +kernel
theorem dd_RD_remove_1 : decode cd_RD_remove 1 = .ok (.iload_n 1, 1) := by decide +kernel
theorem dd_RD_remove_2 : decode cd_RD_remove 2 = .ok (.iload_n 2, 1) := by decide +kernel
theorem dd_RD_remove_3 : decode cd_RD_remove 3 = .ok (.invokevirtual 84, 3) := by decide +kernel
theorem dd_RD_remove_6 : decode cd_RD_remove 6 = .ok (.ifCond .ne 5, 3) := by decide +kernel
theorem dd_RD_remove_9 : decode cd_RD_remove 9 = .ok (.iconst 0, 1) := by decide +kernel
theorem dd_RD_remove_10 : decode cd_RD_remove 10 = .ok (.ireturn, 1) := by decide +kernel
theorem dd_RD_remove_11 : decode cd_RD_remove 11 = .ok (.aload_n 0, 1) := by decide +kernel
theorem dd_RD_remove_12 : decode cd_RD_remove 12 = .ok (.getfield 29, 3) := by decide +kernel
theorem dd_RD_remove_15 : decode cd_RD_remove 15 = .ok (.invokevirtual 88, 3) := by decide +kernel
theorem dd_RD_remove_18 : decode cd_RD_remove 18 = .ok (.iconst 1, 1) := by decide +kernel
theorem dd_RD_remove_19 : decode cd_RD_remove 19 = .ok (.isub, 1) := by decide +kernel
theorem dd_RD_remove_20 : decode cd_RD_remove 20 = .ok (.istore_n 3, 1) := by decide +kernel
theorem dd_RD_remove_21 : decode cd_RD_remove 21 = .ok (.iload_n 3, 1) := by decide +kernel
theorem dd_RD_remove_22 : decode cd_RD_remove 22 = .ok (.ifCond .lt 54, 3) := by decide +kernel
theorem dd_RD_remove_25 : decode cd_RD_remove 25 = .ok (.aload_n 0, 1) := by decide +kernel
theorem dd_RD_remove_26 : decode cd_RD_remove 26 = .ok (.getfield 29, 3) := by decide +kernel
theorem dd_RD_remove_29 : decode cd_RD_remove 29 = .ok (.iload_n 3, 1) := by decide +kernel
theorem dd_RD_remove_30 : decode cd_RD_remove 30 = .ok (.invokevirtual 91, 3) := by decide +kernel
theorem dd_RD_remove_33 : decode cd_RD_remove 33 = .ok (.checkcast 95, 3) := by decide +kernel
theorem dd_RD_remove_36 : decode cd_RD_remove 36 = .ok (.astore 4, 2) := by decide +kernel
theorem dd_RD_remove_38 : decode cd_RD_remove 38 = .ok (.aload 4, 2) := by decide +kernel
theorem dd_RD_remove_40 : decode cd_RD_remove 40 = .ok (.iload_n 1, 1) := by decide +kernel
theorem dd_RD_remove_41 : decode cd_RD_remove 41 = .ok (.iload_n 2, 1) := by decide +kernel
theorem dd_RD_remove_42 : decode cd_RD_remove 42 = .ok (.invokevirtual 97, 3) := by decide +kernel
theorem dd_RD_remove_45 : decode cd_RD_remove 45 = .ok (.ifCond .ne 16, 3) := by decide +kernel
theorem dd_RD_remove_48 : decode cd_RD_remove 48 = .ok (.iload_n 2, 1) := by decide +kernel
theorem dd_RD_remove_49 : decode cd_RD_remove 49 = .ok (.ifCond .ne 21, 3) := by decide +kernel
theorem dd_RD_remove_52 : decode cd_RD_remove 52 = .ok (.aload 4, 2) := by decide +kernel
theorem dd_RD_remove_54 : decode cd_RD_remove 54 = .ok (.getfield 100, 3) := by decide +kernel
theorem dd_RD_remove_57 : decode cd_RD_remove 57 = .ok (.iload_n 1, 1) := by decide +kernel
theorem dd_RD_remove_58 : decode cd_RD_remove 58 = .ok (.if_icmp .ne 12, 3) := by decide +kernel
theorem dd_RD_remove_61 : decode cd_RD_remove 61 = .ok (.aload_n 0, 1) := by decide +kernel
theorem dd_RD_remove_62 : decode cd_RD_remove 62 = .ok (.getfield 29, 3) := by decide +kernel
theorem dd_RD_remove_65 : decode cd_RD_remove 65 = .ok (.iload_n 3, 1) := by decide +kernel
theorem dd_RD_remove_66 : decode cd_RD_remove 66 = .ok (.invokevirtual 103, 3) := by decide +kernel
theorem dd_RD_remove_69 : decode cd_RD_remove 69 = .ok (.pop, 1) := by decide +kernel
theorem dd_RD_remove_70 : decode cd_RD_remove 70 = .ok (.iinc 3 (-1), 3) := by decide +kernel
theorem dd_RD_remove_73 : decode cd_RD_remove 73 = .ok (.goto (-52), 3) := by decide +kernel
theorem dd_RD_remove_76 : decode cd_RD_remove 76 = .ok (.iload_n 2, 1) := by decide +kernel
theorem dd_RD_remove_77 : decode cd_RD_remove 77 = .ok (.ifCond .eq 13, 3) := by decide +kernel
theorem dd_RD_remove_80 : decode cd_RD_remove 80 = .ok (.aload_n 0, 1) := by decide +kernel
theorem dd_RD_remove_81 : decode cd_RD_remove 81 = .ok (.getfield 22, 3) := by decide +kernel
theorem dd_RD_remove_84 : decode cd_RD_remove 84 = .ok (.iload_n 1, 1) := by decide +kernel
theorem dd_RD_remove_85 : decode cd_RD_remove 85 = .ok (.iconst 0, 1) := by decide +kernel
theorem dd_RD_remove_86 : decode cd_RD_remove 86 = .ok (.bastore, 1) := by decide +kernel
theorem dd_RD_remove_87 : decode cd_RD_remove 87 = .ok (.goto 10, 3) := by decide +kernel
theorem dd_RD_remove_90 : decode cd_RD_remove 90 = .ok (.aload_n 0, 1) := by decide +kernel
theorem dd_RD_remove_91 : decode cd_RD_remove 91 = .ok (.getfield 18, 3) := by decide +kernel
theorem dd_RD_remove_94 : decode cd_RD_remove 94 = .ok (.iload_n 1, 1) := by decide +kernel
theorem dd_RD_remove_95 : decode cd_RD_remove 95 = .ok (.aconst_null, 1) := by decide +kernel
theorem dd_RD_remove_96 : decode cd_RD_remove 96 = .ok (.aastore, 1) := by decide +kernel
theorem dd_RD_remove_97 : decode cd_RD_remove 97 = .ok (.iconst 1, 1) := by decide +kernel
theorem dd_RD_remove_98 : decode cd_RD_remove 98 = .ok (.ireturn, 1) := by decide +kernel
theorem dd_RD_isThere_0 : decode cd_RD_isThere 0 = .ok (.iload_n 2, 1) := by decide +kernel
theorem dd_RD_isThere_1 : decode cd_RD_isThere 1 = .ok (.ifCond .eq 28, 3) := by decide +kernel
theorem dd_RD_isThere_4 : decode cd_RD_isThere 4 = .ok (.iload_n 1, 1) := by decide +kernel
theorem dd_RD_isThere_5 : decode cd_RD_isThere 5 = .ok (.ifCond .lt 22, 3) := by decide +kernel
theorem dd_RD_isThere_8 : decode cd_RD_isThere 8 = .ok (.iload_n 1, 1) := by decide +kernel
theorem dd_RD_isThere_9 : decode cd_RD_isThere 9 = .ok (.bipush 16, 2) := by decide +kernel
theorem dd_RD_isThere_11 : decode cd_RD_isThere 11 = .ok (.if_icmp .ge 16, 3) := by decide +kernel
theorem dd_RD_isThere_14 : decode cd_RD_isThere 14 = .ok (.aload_n 0, 1) := by decide +kernel
theorem dd_RD_isThere_15 : decode cd_RD_isThere 15 = .ok (.getfield 22, 3) := by decide +kernel
theorem dd_RD_isThere_18 : decode cd_RD_isThere 18 = .ok (.iload_n 1, 1) := by decide +kernel
theorem dd_RD_isThere_19 : decode cd_RD_isThere 19 = .ok (.baload, 1) := by decide +kernel
theorem dd_RD_isThere_20 : decode cd_RD_isThere 20 = .ok (.ifCond .eq 7, 3) := by decide +kernel
theorem dd_RD_isThere_23 : decode cd_RD_isThere 23 = .ok (.iconst 1, 1) := by decide +kernel
theorem dd_RD_isThere_24 : decode cd_RD_isThere 24 = .ok (.goto 4, 3) := by decide +kernel
theorem dd_RD_isThere_27 : decode cd_RD_isThere 27 = .ok (.iconst 0, 1) := by decide +kernel
theorem dd_RD_isThere_28 : decode cd_RD_isThere 28 = .ok (.ireturn, 1) := by decide +kernel
theorem dd_RD_isThere_29 : decode cd_RD_isThere 29 = .ok (.aload_n 0, 1) := by decide +kernel
theorem dd_RD_isThere_30 : decode cd_RD_isThere 30 = .ok (.iload_n 1, 1) := by decide +kernel
theorem dd_RD_isThere_31 : decode cd_RD_isThere 31 = .ok (.invokevirtual 74, 3) := by decide +kernel
theorem dd_RD_isThere_34 : decode cd_RD_isThere 34 = .ok (.ifnull 7, 3) := by decide +kernel
theorem dd_RD_isThere_37 : decode cd_RD_isThere 37 = .ok (.iconst 1, 1) := by decide +kernel
theorem dd_RD_isThere_38 : decode cd_RD_isThere 38 = .ok (.goto 4, 3) := by decide +kernel
theorem dd_RD_isThere_41 : decode cd_RD_isThere 41 = .ok (.iconst 0, 1) := by decide +kernel
theorem dd_RD_isThere_42 : decode cd_RD_isThere 42 = .ok (.ireturn, 1) := by decide +kernel
theorem dd_BI_leadsTo_0 : decode cd_BI_leadsTo 0 = .ok (.aload_n 0, 1) := by decide +kernel
theorem dd_BI_leadsTo_1 : decode cd_BI_leadsTo 1 = .ok (.getfield 13, 3) := by decide +kernel
theorem dd_BI_leadsTo_4 : decode cd_BI_leadsTo 4 = .ok (.iload_n 1, 1) := by decide +kernel
theorem dd_BI_leadsTo_5 : decode cd_BI_leadsTo 5 = .ok (.if_icmp .ne 15, 3) := by decide +kernel
theorem dd_BI_leadsTo_8 : decode cd_BI_leadsTo 8 = .ok (.aload_n 0, 1) := by decide +kernel
theorem dd_BI_leadsTo_9 : decode cd_BI_leadsTo 9 = .ok (.getfield 16, 3) := by decide +kernel
theorem dd_BI_leadsTo_12 : decode cd_BI_leadsTo 12 = .ok (.iload_n 2, 1) := by decide +kernel
theorem dd_BI_leadsTo_13 : decode cd_BI_leadsTo 13 = .ok (.if_icmp .ne 7, 3) := by decide +kernel
theorem dd_BI_leadsTo_16 : decode cd_BI_leadsTo 16 = .ok (.iconst 1, 1) := by decide +kernel
theorem dd_BI_leadsTo_17 : decode cd_BI_leadsTo 17 = .ok (.goto 4, 3) := by decide +kernel
theorem dd_BI_leadsTo_20 : decode cd_BI_leadsTo 20 = .ok (.iconst 0, 1) := by decide +kernel
theorem dd_BI_leadsTo_21 : decode cd_BI_leadsTo 21 = .ok (.ireturn, 1) := by decide +kernel
theorem dd_RD_unbind_0 : decode cd_RD_unbind 0 = .ok (.aload_n 0, 1) := by decide +kernel
theorem dd_RD_unbind_1 : decode cd_RD_unbind 1 = .ok (.iload_n 1, 1) := by decide +kernel
theorem dd_RD_unbind_2 : decode cd_RD_unbind 2 = .ok (.iload_n 2, 1) := by decide +kernel
theorem dd_RD_unbind_3 : decode cd_RD_unbind 3 = .ok (.iload_n 3, 1) := by decide +kernel
theorem dd_RD_unbind_4 : decode cd_RD_unbind 4 = .ok (.aload_n 0, 1) := by decide +kernel
theorem dd_RD_unbind_5 : decode cd_RD_unbind 5 = .ok (.invokevirtual 106, 3) := by decide +kernel
theorem dd_RD_unbind_8 : decode cd_RD_unbind 8 = .ok (.invokevirtual 121, 3) := by decide +kernel
theorem dd_RD_unbind_11 : decode cd_RD_unbind 11 = .ok (.istore 4, 2) := by decide +kernel
theorem dd_RD_unbind_13 : decode cd_RD_unbind 13 = .ok (.iload 4, 2) := by decide +kernel
theorem dd_RD_unbind_15 : decode cd_RD_unbind 15 = .ok (.ifCond .lt 15, 3) := by decide +kernel
theorem dd_RD_unbind_18 : decode cd_RD_unbind 18 = .ok (.iload 4, 2) := by decide +kernel
theorem dd_RD_unbind_20 : decode cd_RD_unbind 20 = .ok (.aload_n 0, 1) := by decide +kernel
theorem dd_RD_unbind_21 : decode cd_RD_unbind 21 = .ok (.getfield 29, 3) := by decide +kernel
theorem dd_RD_unbind_24 : decode cd_RD_unbind 24 = .ok (.invokevirtual 88, 3) := by decide +kernel
theorem dd_RD_unbind_27 : decode cd_RD_unbind 27 = .ok (.if_icmp .lt 5, 3) := by decide +kernel
theorem dd_RD_unbind_30 : decode cd_RD_unbind 30 = .ok (.iconst 0, 1) := by decide +kernel
theorem dd_RD_unbind_31 : decode cd_RD_unbind 31 = .ok (.ireturn, 1) := by decide +kernel
theorem dd_RD_unbind_32 : decode cd_RD_unbind 32 = .ok (.aload_n 0, 1) := by decide +kernel
theorem dd_RD_unbind_33 : decode cd_RD_unbind 33 = .ok (.getfield 29, 3) := by decide +kernel
theorem dd_RD_unbind_36 : decode cd_RD_unbind 36 = .ok (.iload 4, 2) := by decide +kernel
theorem dd_RD_unbind_38 : decode cd_RD_unbind 38 = .ok (.invokevirtual 103, 3) := by decide +kernel
theorem dd_RD_unbind_41 : decode cd_RD_unbind 41 = .ok (.pop, 1) := by decide +kernel
theorem dd_RD_unbind_42 : decode cd_RD_unbind 42 = .ok (.iconst 1, 1) := by decide +kernel
theorem dd_RD_unbind_43 : decode cd_RD_unbind 43 = .ok (.ireturn, 1) := by decide +kernel
theorem dd_RD_takeTape_0 : decode cd_RD_takeTape 0 = .ok (.aload_n 0, 1) := by decide +kernel
theorem dd_RD_takeTape_1 : decode cd_RD_takeTape 1 = .ok (.getfield 10, 3) := by decide +kernel
theorem dd_RD_takeTape_4 : decode cd_RD_takeTape 4 = .ok (.invokevirtual 210, 3) := by decide +kernel
theorem dd_RD_takeTape_7 : decode cd_RD_takeTape 7 = .ok (.astore_n 1, 1) := by decide +kernel
theorem dd_RD_takeTape_8 : decode cd_RD_takeTape 8 = .ok (.aload_n 0, 1) := by decide +kernel
theorem dd_RD_takeTape_9 : decode cd_RD_takeTape 9 = .ok (.getfield 10, 3) := by decide +kernel
theorem dd_RD_takeTape_12 : decode cd_RD_takeTape 12 = .ok (.iconst 0, 1) := by decide +kernel
theorem dd_RD_takeTape_13 : decode cd_RD_takeTape 13 = .ok (.invokevirtual 213, 3) := by decide +kernel
theorem dd_RD_takeTape_16 : decode cd_RD_takeTape 16 = .ok (.aload_n 1, 1) := by decide +kernel
theorem dd_RD_takeTape_17 : decode cd_RD_takeTape 17 = .ok (.areturn, 1) := by decide +kernel
theorem dd_RD_placeOf_0 : decode cd_RD_placeOf 0 = .ok (.iconst 0, 1) := by decide +kernel
theorem dd_RD_placeOf_1 : decode cd_RD_placeOf 1 = .ok (.istore 5, 2) := by decide +kernel
theorem dd_RD_placeOf_3 : decode cd_RD_placeOf 3 = .ok (.iload 5, 2) := by decide +kernel
theorem dd_RD_placeOf_5 : decode cd_RD_placeOf 5 = .ok (.aload_n 0, 1) := by decide +kernel
theorem dd_RD_placeOf_6 : decode cd_RD_placeOf 6 = .ok (.getfield 29, 3) := by decide +kernel
theorem dd_RD_placeOf_9 : decode cd_RD_placeOf 9 = .ok (.invokevirtual 88, 3) := by decide +kernel
theorem dd_RD_placeOf_12 : decode cd_RD_placeOf 12 = .ok (.if_icmp .ge 58, 3) := by decide +kernel
theorem dd_RD_placeOf_15 : decode cd_RD_placeOf 15 = .ok (.aload_n 0, 1) := by decide +kernel
theorem dd_RD_placeOf_16 : decode cd_RD_placeOf 16 = .ok (.getfield 29, 3) := by decide +kernel
theorem dd_RD_placeOf_19 : decode cd_RD_placeOf 19 = .ok (.iload 5, 2) := by decide +kernel
theorem dd_RD_placeOf_21 : decode cd_RD_placeOf 21 = .ok (.invokevirtual 91, 3) := by decide +kernel
theorem dd_RD_placeOf_24 : decode cd_RD_placeOf 24 = .ok (.checkcast 95, 3) := by decide +kernel
theorem dd_RD_placeOf_27 : decode cd_RD_placeOf 27 = .ok (.astore 6, 2) := by decide +kernel
theorem dd_RD_placeOf_29 : decode cd_RD_placeOf 29 = .ok (.aload 6, 2) := by decide +kernel
theorem dd_RD_placeOf_31 : decode cd_RD_placeOf 31 = .ok (.getfield 100, 3) := by decide +kernel
theorem dd_RD_placeOf_34 : decode cd_RD_placeOf 34 = .ok (.iload_n 1, 1) := by decide +kernel
theorem dd_RD_placeOf_35 : decode cd_RD_placeOf 35 = .ok (.if_icmp .ne 29, 3) := by decide +kernel
theorem dd_RD_placeOf_38 : decode cd_RD_placeOf 38 = .ok (.aload 6, 2) := by decide +kernel
theorem dd_RD_placeOf_40 : decode cd_RD_placeOf 40 = .ok (.iload_n 2, 1) := by decide +kernel
theorem dd_RD_placeOf_41 : decode cd_RD_placeOf 41 = .ok (.iload_n 3, 1) := by decide +kernel
theorem dd_RD_placeOf_42 : decode cd_RD_placeOf 42 = .ok (.invokevirtual 97, 3) := by decide +kernel
theorem dd_RD_placeOf_45 : decode cd_RD_placeOf 45 = .ok (.ifCond .eq 19, 3) := by decide +kernel
theorem dd_RD_placeOf_48 : decode cd_RD_placeOf 48 = .ok (.aload 6, 2) := by decide +kernel
theorem dd_RD_placeOf_50 : decode cd_RD_placeOf 50 = .ok (.getfield 216, 3) := by decide +kernel
theorem dd_RD_placeOf_53 : decode cd_RD_placeOf 53 = .ok (.aload 4, 2) := by decide +kernel
theorem dd_RD_placeOf_55 : decode cd_RD_placeOf 55 = .ok (.invokevirtual 219, 3) := by decide +kernel
theorem dd_RD_placeOf_58 : decode cd_RD_placeOf 58 = .ok (.ifCond .eq 6, 3) := by decide +kernel
theorem dd_RD_placeOf_61 : decode cd_RD_placeOf 61 = .ok (.iload 5, 2) := by decide +kernel
theorem dd_RD_placeOf_63 : decode cd_RD_placeOf 63 = .ok (.ireturn, 1) := by decide +kernel
theorem dd_RD_placeOf_64 : decode cd_RD_placeOf 64 = .ok (.iinc 5 1, 3) := by decide +kernel
theorem dd_RD_placeOf_67 : decode cd_RD_placeOf 67 = .ok (.goto (-64), 3) := by decide +kernel
theorem dd_RD_placeOf_70 : decode cd_RD_placeOf 70 = .ok (.iconst (-1), 1) := by decide +kernel
theorem dd_RD_placeOf_71 : decode cd_RD_placeOf 71 = .ok (.ireturn, 1) := by decide +kernel
theorem dd_RD_message_0 : decode cd_RD_message 0 = .ok (.aload_n 0, 1) := by decide +kernel
theorem dd_RD_message_1 : decode cd_RD_message 1 = .ok (.getfield 36, 3) := by decide +kernel
theorem dd_RD_message_4 : decode cd_RD_message 4 = .ok (.aload_n 0, 1) := by decide +kernel
theorem dd_RD_message_5 : decode cd_RD_message 5 = .ok (.invokevirtual 106, 3) := by decide +kernel
theorem dd_RD_message_8 : decode cd_RD_message 8 = .ok (.invokevirtual 134, 3) := by decide +kernel
theorem dd_RD_message_11 : decode cd_RD_message 11 = .ok (.return_, 1) := by decide +kernel
theorem dd_MG_startAnew_0 : decode cd_MG_startAnew 0 = .ok (.aload_n 0, 1) := by decide +kernel
theorem dd_MG_startAnew_1 : decode cd_MG_startAnew 1 = .ok (.aload_n 1, 1) := by decide +kernel
theorem dd_MG_startAnew_2 : decode cd_MG_startAnew 2 = .ok (.putfield 9, 3) := by decide +kernel
theorem dd_MG_startAnew_5 : decode cd_MG_startAnew 5 = .ok (.aload_n 0, 1) := by decide +kernel
theorem dd_MG_startAnew_6 : decode cd_MG_startAnew 6 = .ok (.getfield 18, 3) := by decide +kernel
theorem dd_MG_startAnew_9 : decode cd_MG_startAnew 9 = .ok (.invokevirtual 22, 3) := by decide +kernel
theorem dd_MG_startAnew_12 : decode cd_MG_startAnew 12 = .ok (.return_, 1) := by decide +kernel
theorem dd_RD_header_0 : decode cd_RD_header 0 = .ok (.aload_n 0, 1) := by decide +kernel
theorem dd_RD_header_1 : decode cd_RD_header 1 = .ok (.invokevirtual 106, 3) := by decide +kernel
theorem dd_RD_header_4 : decode cd_RD_header 4 = .ok (.astore_n 1, 1) := by decide +kernel
theorem dd_RD_header_5 : decode cd_RD_header 5 = .ok (.aload_n 1, 1) := by decide +kernel
theorem dd_RD_header_6 : decode cd_RD_header 6 = .ok (.bipush 61, 2) := by decide +kernel
theorem dd_RD_header_8 : decode cd_RD_header 8 = .ok (.iconst 0, 1) := by decide +kernel
theorem dd_RD_header_9 : decode cd_RD_header 9 = .ok (.aload_n 1, 1) := by decide +kernel
theorem dd_RD_header_10 : decode cd_RD_header 10 = .ok (.invokevirtual 139, 3) := by decide +kernel
theorem dd_RD_header_13 : decode cd_RD_header 13 = .ok (.invokestatic 142, 3) := by decide +kernel
theorem dd_RD_header_16 : decode cd_RD_header 16 = .ok (.istore_n 2, 1) := by decide +kernel
theorem dd_RD_header_17 : decode cd_RD_header 17 = .ok (.iload_n 2, 1) := by decide +kernel
theorem dd_RD_header_18 : decode cd_RD_header 18 = .ok (.aload_n 1, 1) := by decide +kernel
theorem dd_RD_header_19 : decode cd_RD_header 19 = .ok (.invokevirtual 139, 3) := by decide +kernel
theorem dd_RD_header_22 : decode cd_RD_header 22 = .ok (.if_icmp .ge 15, 3) := by decide +kernel
theorem dd_RD_header_25 : decode cd_RD_header 25 = .ok (.aload_n 1, 1) := by decide +kernel
theorem dd_RD_header_26 : decode cd_RD_header 26 = .ok (.iconst 0, 1) := by decide +kernel
theorem dd_RD_header_27 : decode cd_RD_header 27 = .ok (.aload_n 1, 1) := by decide +kernel
theorem dd_RD_header_28 : decode cd_RD_header 28 = .ok (.invokevirtual 139, 3) := by decide +kernel
theorem dd_RD_header_31 : decode cd_RD_header 31 = .ok (.invokestatic 148, 3) := by decide +kernel
theorem dd_RD_header_34 : decode cd_RD_header 34 = .ok (.ifCond .ne 5, 3) := by decide +kernel
theorem dd_RD_header_37 : decode cd_RD_header 37 = .ok (.iconst 0, 1) := by decide +kernel
theorem dd_RD_header_38 : decode cd_RD_header 38 = .ok (.ireturn, 1) := by decide +kernel
theorem dd_RD_header_39 : decode cd_RD_header 39 = .ok (.aload_n 0, 1) := by decide +kernel
theorem dd_RD_header_40 : decode cd_RD_header 40 = .ok (.getfield 36, 3) := by decide +kernel
theorem dd_RD_header_43 : decode cd_RD_header 43 = .ok (.aload_n 1, 1) := by decide +kernel
theorem dd_RD_header_44 : decode cd_RD_header 44 = .ok (.iconst 0, 1) := by decide +kernel
theorem dd_RD_header_45 : decode cd_RD_header 45 = .ok (.iload_n 2, 1) := by decide +kernel
theorem dd_RD_header_46 : decode cd_RD_header 46 = .ok (.invokevirtual 152, 3) := by decide +kernel
theorem dd_RD_header_49 : decode cd_RD_header 49 = .ok (.aload_n 1, 1) := by decide +kernel
theorem dd_RD_header_50 : decode cd_RD_header 50 = .ok (.iload_n 2, 1) := by decide +kernel
theorem dd_RD_header_51 : decode cd_RD_header 51 = .ok (.iconst 1, 1) := by decide +kernel
theorem dd_RD_header_52 : decode cd_RD_header 52 = .ok (.iadd, 1) := by decide +kernel
theorem dd_RD_header_53 : decode cd_RD_header 53 = .ok (.aload_n 1, 1) := by decide +kernel
theorem dd_RD_header_54 : decode cd_RD_header 54 = .ok (.invokevirtual 139, 3) := by decide +kernel
theorem dd_RD_header_57 : decode cd_RD_header 57 = .ok (.invokevirtual 152, 3) := by decide +kernel
theorem dd_RD_header_60 : decode cd_RD_header 60 = .ok (.invokevirtual 156, 3) := by decide +kernel
theorem dd_RD_header_63 : decode cd_RD_header 63 = .ok (.ireturn, 1) := by decide +kernel
theorem dd_TX_find_0 : decode cd_TX_find 0 = .ok (.iload_n 2, 1) := by decide +kernel
theorem dd_TX_find_1 : decode cd_TX_find 1 = .ok (.istore 4, 2) := by decide +kernel
theorem dd_TX_find_3 : decode cd_TX_find 3 = .ok (.iload 4, 2) := by decide +kernel
theorem dd_TX_find_5 : decode cd_TX_find 5 = .ok (.iload_n 3, 1) := by decide +kernel
theorem dd_TX_find_6 : decode cd_TX_find 6 = .ok (.if_icmp .ge 22, 3) := by decide +kernel
theorem dd_TX_find_9 : decode cd_TX_find 9 = .ok (.aload_n 0, 1) := by decide +kernel
theorem dd_TX_find_10 : decode cd_TX_find 10 = .ok (.iload 4, 2) := by decide +kernel
theorem dd_TX_find_12 : decode cd_TX_find 12 = .ok (.invokevirtual 7, 3) := by decide +kernel
theorem dd_TX_find_15 : decode cd_TX_find 15 = .ok (.iload_n 1, 1) := by decide +kernel
theorem dd_TX_find_16 : decode cd_TX_find 16 = .ok (.if_icmp .ne 6, 3) := by decide +kernel
theorem dd_TX_find_19 : decode cd_TX_find 19 = .ok (.iload 4, 2) := by decide +kernel
theorem dd_TX_find_21 : decode cd_TX_find 21 = .ok (.ireturn, 1) := by decide +kernel
theorem dd_TX_find_22 : decode cd_TX_find 22 = .ok (.iinc 4 1, 3) := by decide +kernel
theorem dd_TX_find_25 : decode cd_TX_find 25 = .ok (.goto (-22), 3) := by decide +kernel
theorem dd_TX_find_28 : decode cd_TX_find 28 = .ok (.iload_n 3, 1) := by decide +kernel
theorem dd_TX_find_29 : decode cd_TX_find 29 = .ok (.ireturn, 1) := by decide +kernel
theorem dd_HT_isNameOrPair_0 : decode cd_HT_isNameOrPair 0 = .ok (.aload_n 0, 1) := by decide +kernel
theorem dd_HT_isNameOrPair_1 : decode cd_HT_isNameOrPair 1 = .ok (.bipush 61, 2) := by decide +kernel
theorem dd_HT_isNameOrPair_3 : decode cd_HT_isNameOrPair 3 = .ok (.iload_n 1, 1) := by decide +kernel
theorem dd_HT_isNameOrPair_4 : decode cd_HT_isNameOrPair 4 = .ok (.iload_n 2, 1) := by decide +kernel
theorem dd_HT_isNameOrPair_5 : decode cd_HT_isNameOrPair 5 = .ok (.invokestatic 9, 3) := by decide +kernel
theorem dd_HT_isNameOrPair_8 : decode cd_HT_isNameOrPair 8 = .ok (.istore_n 3, 1) := by decide +kernel
theorem dd_HT_isNameOrPair_9 : decode cd_HT_isNameOrPair 9 = .ok (.aload_n 0, 1) := by decide +kernel
theorem dd_HT_isNameOrPair_10 : decode cd_HT_isNameOrPair 10 = .ok (.iload_n 1, 1) := by decide +kernel
theorem dd_HT_isNameOrPair_11 : decode cd_HT_isNameOrPair 11 = .ok (.iload_n 3, 1) := by decide +kernel
theorem dd_HT_isNameOrPair_12 : decode cd_HT_isNameOrPair 12 = .ok (.invokestatic 15, 3) := by decide +kernel
theorem dd_HT_isNameOrPair_15 : decode cd_HT_isNameOrPair 15 = .ok (.ifCond .eq 23, 3) := by decide +kernel
theorem dd_HT_isNameOrPair_18 : decode cd_HT_isNameOrPair 18 = .ok (.iload_n 3, 1) := by decide +kernel
theorem dd_HT_isNameOrPair_19 : decode cd_HT_isNameOrPair 19 = .ok (.iload_n 2, 1) := by decide +kernel
theorem dd_HT_isNameOrPair_20 : decode cd_HT_isNameOrPair 20 = .ok (.if_icmp .eq 14, 3) := by decide +kernel
theorem dd_HT_isNameOrPair_23 : decode cd_HT_isNameOrPair 23 = .ok (.aload_n 0, 1) := by decide +kernel
theorem dd_HT_isNameOrPair_24 : decode cd_HT_isNameOrPair 24 = .ok (.iload_n 3, 1) := by decide +kernel
theorem dd_HT_isNameOrPair_25 : decode cd_HT_isNameOrPair 25 = .ok (.iconst 1, 1) := by decide +kernel
theorem dd_HT_isNameOrPair_26 : decode cd_HT_isNameOrPair 26 = .ok (.iadd, 1) := by decide +kernel
theorem dd_HT_isNameOrPair_27 : decode cd_HT_isNameOrPair 27 = .ok (.iload_n 2, 1) := by decide +kernel
theorem dd_HT_isNameOrPair_28 : decode cd_HT_isNameOrPair 28 = .ok (.invokestatic 19, 3) := by decide +kernel
theorem dd_HT_isNameOrPair_31 : decode cd_HT_isNameOrPair 31 = .ok (.ifCond .eq 7, 3) := by decide +kernel
theorem dd_HT_isNameOrPair_34 : decode cd_HT_isNameOrPair 34 = .ok (.iconst 1, 1) := by decide +kernel
theorem dd_HT_isNameOrPair_35 : decode cd_HT_isNameOrPair 35 = .ok (.goto 4, 3) := by decide +kernel
theorem dd_HT_isNameOrPair_38 : decode cd_HT_isNameOrPair 38 = .ok (.iconst 0, 1) := by decide +kernel
theorem dd_HT_isNameOrPair_39 : decode cd_HT_isNameOrPair 39 = .ok (.ireturn, 1) := by decide +kernel
theorem dd_HT_isName_0 : decode cd_HT_isName 0 = .ok (.iload_n 2, 1) := by decide +kernel
theorem dd_HT_isName_1 : decode cd_HT_isName 1 = .ok (.iload_n 1, 1) := by decide +kernel
theorem dd_HT_isName_2 : decode cd_HT_isName 2 = .ok (.isub, 1) := by decide +kernel
theorem dd_HT_isName_3 : decode cd_HT_isName 3 = .ok (.iconst 1, 1) := by decide +kernel
theorem dd_HT_isName_4 : decode cd_HT_isName 4 = .ok (.if_icmp .lt 11, 3) := by decide +kernel
theorem dd_HT_isName_7 : decode cd_HT_isName 7 = .ok (.iload_n 2, 1) := by decide +kernel
theorem dd_HT_isName_8 : decode cd_HT_isName 8 = .ok (.iload_n 1, 1) := by decide +kernel
theorem dd_HT_isName_9 : decode cd_HT_isName 9 = .ok (.isub, 1) := by decide +kernel
theorem dd_HT_isName_10 : decode cd_HT_isName 10 = .ok (.bipush 6, 2) := by decide +kernel
theorem dd_HT_isName_12 : decode cd_HT_isName 12 = .ok (.if_icmp .le 5, 3) := by decide +kernel
theorem dd_HT_isName_15 : decode cd_HT_isName 15 = .ok (.iconst 0, 1) := by decide +kernel
theorem dd_HT_isName_16 : decode cd_HT_isName 16 = .ok (.ireturn, 1) := by decide +kernel
theorem dd_HT_isName_17 : decode cd_HT_isName 17 = .ok (.iload_n 1, 1) := by decide +kernel
theorem dd_HT_isName_18 : decode cd_HT_isName 18 = .ok (.istore_n 3, 1) := by decide +kernel
theorem dd_HT_isName_19 : decode cd_HT_isName 19 = .ok (.iload_n 3, 1) := by decide +kernel
theorem dd_HT_isName_20 : decode cd_HT_isName 20 = .ok (.iload_n 2, 1) := by decide +kernel
theorem dd_HT_isName_21 : decode cd_HT_isName 21 = .ok (.if_icmp .ge 22, 3) := by decide +kernel
theorem dd_HT_isName_24 : decode cd_HT_isName 24 = .ok (.aload_n 0, 1) := by decide +kernel
theorem dd_HT_isName_25 : decode cd_HT_isName 25 = .ok (.iload_n 3, 1) := by decide +kernel
theorem dd_HT_isName_26 : decode cd_HT_isName 26 = .ok (.invokevirtual 75, 3) := by decide +kernel
theorem dd_HT_isName_29 : decode cd_HT_isName 29 = .ok (.invokestatic 79, 3) := by decide +kernel
theorem dd_HT_isName_32 : decode cd_HT_isName 32 = .ok (.ifCond .ne 5, 3) := by decide +kernel
theorem dd_HT_isName_35 : decode cd_HT_isName 35 = .ok (.iconst 0, 1) := by decide +kernel
theorem dd_HT_isName_36 : decode cd_HT_isName 36 = .ok (.ireturn, 1) := by decide +kernel
theorem dd_HT_isName_37 : decode cd_HT_isName 37 = .ok (.iinc 3 1, 3) := by decide +kernel
theorem dd_HT_isName_40 : decode cd_HT_isName 40 = .ok (.goto (-21), 3) := by decide +kernel
theorem dd_HT_isName_43 : decode cd_HT_isName 43 = .ok (.iconst 1, 1) := by decide +kernel
theorem dd_HT_isName_44 : decode cd_HT_isName 44 = .ok (.ireturn, 1) := by decide +kernel
theorem dd_HT_isSmallLetter_0 : decode cd_HT_isSmallLetter 0 = .ok (.iload_n 0, 1) := by decide +kernel
theorem dd_HT_isSmallLetter_1 : decode cd_HT_isSmallLetter 1 = .ok (.bipush 97, 2) := by decide +kernel
theorem dd_HT_isSmallLetter_3 : decode cd_HT_isSmallLetter 3 = .ok (.if_icmp .lt 13, 3) := by decide +kernel
theorem dd_HT_isSmallLetter_6 : decode cd_HT_isSmallLetter 6 = .ok (.iload_n 0, 1) := by decide +kernel
theorem dd_HT_isSmallLetter_7 : decode cd_HT_isSmallLetter 7 = .ok (.bipush 122, 2) := by decide +kernel
theorem dd_HT_isSmallLetter_9 : decode cd_HT_isSmallLetter 9 = .ok (.if_icmp .gt 7, 3) := by decide +kernel
theorem dd_HT_isSmallLetter_12 : decode cd_HT_isSmallLetter 12 = .ok (.iconst 1, 1) := by decide +kernel
theorem dd_HT_isSmallLetter_13 : decode cd_HT_isSmallLetter 13 = .ok (.goto 4, 3) := by decide +kernel
theorem dd_HT_isSmallLetter_16 : decode cd_HT_isSmallLetter 16 = .ok (.iconst 0, 1) := by decide +kernel
theorem dd_HT_isSmallLetter_17 : decode cd_HT_isSmallLetter 17 = .ok (.ireturn, 1) := by decide +kernel
theorem dd_HT_isValue_0 : decode cd_HT_isValue 0 = .ok (.iload_n 2, 1) := by decide +kernel
theorem dd_HT_isValue_1 : decode cd_HT_isValue 1 = .ok (.iload_n 1, 1) := by decide +kernel
theorem dd_HT_isValue_2 : decode cd_HT_isValue 2 = .ok (.isub, 1) := by decide +kernel
theorem dd_HT_isValue_3 : decode cd_HT_isValue 3 = .ok (.bipush 6, 2) := by decide +kernel
theorem dd_HT_isValue_5 : decode cd_HT_isValue 5 = .ok (.if_icmp .le 5, 3) := by decide +kernel
theorem dd_HT_isValue_8 : decode cd_HT_isValue 8 = .ok (.iconst 0, 1) := by decide +kernel
theorem dd_HT_isValue_9 : decode cd_HT_isValue 9 = .ok (.ireturn, 1) := by decide +kernel
theorem dd_HT_isValue_10 : decode cd_HT_isValue 10 = .ok (.iload_n 1, 1) := by decide +kernel
theorem dd_HT_isValue_11 : decode cd_HT_isValue 11 = .ok (.istore_n 3, 1) := by decide +kernel
theorem dd_HT_isValue_12 : decode cd_HT_isValue 12 = .ok (.iload_n 3, 1) := by decide +kernel
theorem dd_HT_isValue_13 : decode cd_HT_isValue 13 = .ok (.iload_n 2, 1) := by decide +kernel
theorem dd_HT_isValue_14 : decode cd_HT_isValue 14 = .ok (.if_icmp .ge 33, 3) := by decide +kernel
theorem dd_HT_isValue_17 : decode cd_HT_isValue 17 = .ok (.aload_n 0, 1) := by decide +kernel
theorem dd_HT_isValue_18 : decode cd_HT_isValue 18 = .ok (.iload_n 3, 1) := by decide +kernel
theorem dd_HT_isValue_19 : decode cd_HT_isValue 19 = .ok (.invokevirtual 75, 3) := by decide +kernel
theorem dd_HT_isValue_22 : decode cd_HT_isValue 22 = .ok (.invokestatic 79, 3) := by decide +kernel
theorem dd_HT_isValue_25 : decode cd_HT_isValue 25 = .ok (.ifCond .ne 16, 3) := by decide +kernel
theorem dd_HT_isValue_28 : decode cd_HT_isValue 28 = .ok (.aload_n 0, 1) := by decide +kernel
theorem dd_HT_isValue_29 : decode cd_HT_isValue 29 = .ok (.iload_n 3, 1) := by decide +kernel
theorem dd_HT_isValue_30 : decode cd_HT_isValue 30 = .ok (.invokevirtual 75, 3) := by decide +kernel
theorem dd_HT_isValue_33 : decode cd_HT_isValue 33 = .ok (.invokestatic 83, 3) := by decide +kernel
theorem dd_HT_isValue_36 : decode cd_HT_isValue 36 = .ok (.ifCond .ne 5, 3) := by decide +kernel
theorem dd_HT_isValue_39 : decode cd_HT_isValue 39 = .ok (.iconst 0, 1) := by decide +kernel
theorem dd_HT_isValue_40 : decode cd_HT_isValue 40 = .ok (.ireturn, 1) := by decide +kernel
theorem dd_HT_isValue_41 : decode cd_HT_isValue 41 = .ok (.iinc 3 1, 3) := by decide +kernel
theorem dd_HT_isValue_44 : decode cd_HT_isValue 44 = .ok (.goto (-32), 3) := by decide +kernel
theorem dd_HT_isValue_47 : decode cd_HT_isValue 47 = .ok (.iconst 1, 1) := by decide +kernel
theorem dd_HT_isValue_48 : decode cd_HT_isValue 48 = .ok (.ireturn, 1) := by decide +kernel
theorem dd_HT_isDigit_0 : decode cd_HT_isDigit 0 = .ok (.iload_n 0, 1) := by decide +kernel
theorem dd_HT_isDigit_1 : decode cd_HT_isDigit 1 = .ok (.bipush 48, 2) := by decide +kernel
theorem dd_HT_isDigit_3 : decode cd_HT_isDigit 3 = .ok (.if_icmp .lt 13, 3) := by decide +kernel
theorem dd_HT_isDigit_6 : decode cd_HT_isDigit 6 = .ok (.iload_n 0, 1) := by decide +kernel
theorem dd_HT_isDigit_7 : decode cd_HT_isDigit 7 = .ok (.bipush 57, 2) := by decide +kernel
theorem dd_HT_isDigit_9 : decode cd_HT_isDigit 9 = .ok (.if_icmp .gt 7, 3) := by decide +kernel
theorem dd_HT_isDigit_12 : decode cd_HT_isDigit 12 = .ok (.iconst 1, 1) := by decide +kernel
theorem dd_HT_isDigit_13 : decode cd_HT_isDigit 13 = .ok (.goto 4, 3) := by decide +kernel
theorem dd_HT_isDigit_16 : decode cd_HT_isDigit 16 = .ok (.iconst 0, 1) := by decide +kernel
theorem dd_HT_isDigit_17 : decode cd_HT_isDigit 17 = .ok (.ireturn, 1) := by decide +kernel
theorem dd_MG_put_0 : decode cd_MG_put 0 = .ok (.aload_n 0, 1) := by decide +kernel
theorem dd_MG_put_1 : decode cd_MG_put 1 = .ok (.aload_n 1, 1) := by decide +kernel
theorem dd_MG_put_2 : decode cd_MG_put 2 = .ok (.invokevirtual 25, 3) := by decide +kernel
theorem dd_MG_put_5 : decode cd_MG_put 5 = .ok (.astore_n 3, 1) := by decide +kernel
theorem dd_MG_put_6 : decode cd_MG_put 6 = .ok (.aload_n 3, 1) := by decide +kernel
theorem dd_MG_put_7 : decode cd_MG_put 7 = .ok (.ifnull 10, 3) := by decide +kernel
theorem dd_MG_put_10 : decode cd_MG_put 10 = .ok (.aload_n 3, 1) := by decide +kernel
theorem dd_MG_put_11 : decode cd_MG_put 11 = .ok (.aload_n 2, 1) := by decide +kernel
theorem dd_MG_put_12 : decode cd_MG_put 12 = .ok (.putfield 29, 3) := by decide +kernel
theorem dd_MG_put_15 : decode cd_MG_put 15 = .ok (.iconst 1, 1) := by decide +kernel
theorem dd_MG_put_16 : decode cd_MG_put 16 = .ok (.ireturn, 1) := by decide +kernel
theorem dd_MG_put_17 : decode cd_MG_put 17 = .ok (.aload_n 0, 1) := by decide +kernel
theorem dd_MG_put_18 : decode cd_MG_put 18 = .ok (.getfield 18, 3) := by decide +kernel
theorem dd_MG_put_21 : decode cd_MG_put 21 = .ok (.invokevirtual 34, 3) := by decide +kernel
theorem dd_MG_put_24 : decode cd_MG_put 24 = .ok (.bipush 6, 2) := by decide +kernel
theorem dd_MG_put_26 : decode cd_MG_put 26 = .ok (.if_icmp .lt 5, 3) := by decide +kernel
theorem dd_MG_put_29 : decode cd_MG_put 29 = .ok (.iconst 0, 1) := by decide +kernel
theorem dd_MG_put_30 : decode cd_MG_put 30 = .ok (.ireturn, 1) := by decide +kernel
theorem dd_MG_put_31 : decode cd_MG_put 31 = .ok (.aload_n 0, 1) := by decide +kernel
theorem dd_MG_put_32 : decode cd_MG_put 32 = .ok (.getfield 18, 3) := by decide +kernel
theorem dd_MG_put_35 : decode cd_MG_put 35 = .ok (.new 30, 3) := by decide +kernel
theorem dd_MG_put_38 : decode cd_MG_put 38 = .ok (.dup, 1) := by decide +kernel
theorem dd_MG_put_39 : decode cd_MG_put 39 = .ok (.aload_n 1, 1) := by decide +kernel
theorem dd_MG_put_40 : decode cd_MG_put 40 = .ok (.aload_n 2, 1) := by decide +kernel
theorem dd_MG_put_41 : decode cd_MG_put 41 = .ok (.invokespecial 38, 3) := by decide +kernel
theorem dd_MG_put_44 : decode cd_MG_put 44 = .ok (.invokevirtual 41, 3) := by decide +kernel
theorem dd_MG_put_47 : decode cd_MG_put 47 = .ok (.pop, 1) := by decide +kernel
theorem dd_MG_put_48 : decode cd_MG_put 48 = .ok (.iconst 1, 1) := by decide +kernel
theorem dd_MG_put_49 : decode cd_MG_put 49 = .ok (.ireturn, 1) := by decide +kernel
theorem dd_MG_headerOf_0 : decode cd_MG_headerOf 0 = .ok (.iconst 0, 1) := by decide +kernel
theorem dd_MG_headerOf_1 : decode cd_MG_headerOf 1 = .ok (.istore_n 2, 1) := by decide +kernel
theorem dd_MG_headerOf_2 : decode cd_MG_headerOf 2 = .ok (.iload_n 2, 1) := by decide +kernel
theorem dd_MG_headerOf_3 : decode cd_MG_headerOf 3 = .ok (.aload_n 0, 1) := by decide +kernel
theorem dd_MG_headerOf_4 : decode cd_MG_headerOf 4 = .ok (.getfield 18, 3) := by decide +kernel
theorem dd_MG_headerOf_7 : decode cd_MG_headerOf 7 = .ok (.invokevirtual 34, 3) := by decide +kernel
theorem dd_MG_headerOf_10 : decode cd_MG_headerOf 10 = .ok (.if_icmp .ge 42, 3) := by decide +kernel
theorem dd_MG_headerOf_13 : decode cd_MG_headerOf 13 = .ok (.aload_n 0, 1) := by decide +kernel
theorem dd_MG_headerOf_14 : decode cd_MG_headerOf 14 = .ok (.getfield 18, 3) := by decide +kernel
theorem dd_MG_headerOf_17 : decode cd_MG_headerOf 17 = .ok (.iload_n 2, 1) := by decide +kernel
theorem dd_MG_headerOf_18 : decode cd_MG_headerOf 18 = .ok (.invokevirtual 45, 3) := by decide +kernel
theorem dd_MG_headerOf_21 : decode cd_MG_headerOf 21 = .ok (.checkcast 30, 3) := by decide +kernel
theorem dd_MG_headerOf_24 : decode cd_MG_headerOf 24 = .ok (.getfield 49, 3) := by decide +kernel
theorem dd_MG_headerOf_27 : decode cd_MG_headerOf 27 = .ok (.aload_n 1, 1) := by decide +kernel
theorem dd_MG_headerOf_28 : decode cd_MG_headerOf 28 = .ok (.invokevirtual 52, 3) := by decide +kernel
theorem dd_MG_headerOf_31 : decode cd_MG_headerOf 31 = .ok (.ifCond .eq 15, 3) := by decide +kernel
theorem dd_MG_headerOf_34 : decode cd_MG_headerOf 34 = .ok (.aload_n 0, 1) := by decide +kernel
theorem dd_MG_headerOf_35 : decode cd_MG_headerOf 35 = .ok (.getfield 18, 3) := by decide +kernel
theorem dd_MG_headerOf_38 : decode cd_MG_headerOf 38 = .ok (.iload_n 2, 1) := by decide +kernel
theorem dd_MG_headerOf_39 : decode cd_MG_headerOf 39 = .ok (.invokevirtual 45, 3) := by decide +kernel
theorem dd_MG_headerOf_42 : decode cd_MG_headerOf 42 = .ok (.checkcast 30, 3) := by decide +kernel
theorem dd_MG_headerOf_45 : decode cd_MG_headerOf 45 = .ok (.areturn, 1) := by decide +kernel
theorem dd_MG_headerOf_46 : decode cd_MG_headerOf 46 = .ok (.iinc 2 1, 3) := by decide +kernel
theorem dd_MG_headerOf_49 : decode cd_MG_headerOf 49 = .ok (.goto (-47), 3) := by decide +kernel
theorem dd_MG_headerOf_52 : decode cd_MG_headerOf 52 = .ok (.aconst_null, 1) := by decide +kernel
theorem dd_MG_headerOf_53 : decode cd_MG_headerOf 53 = .ok (.areturn, 1) := by decide +kernel
theorem dd_HD_init_0 : decode cd_HD_init 0 = .ok (.aload_n 0, 1) := by decide +kernel
theorem dd_HD_init_1 : decode cd_HD_init 1 = .ok (.invokespecial 1, 3) := by decide +kernel
theorem dd_HD_init_4 : decode cd_HD_init 4 = .ok (.aload_n 0, 1) := by decide +kernel
theorem dd_HD_init_5 : decode cd_HD_init 5 = .ok (.aload_n 1, 1) := by decide +kernel
theorem dd_HD_init_6 : decode cd_HD_init 6 = .ok (.putfield 7, 3) := by decide +kernel
theorem dd_HD_init_9 : decode cd_HD_init 9 = .ok (.aload_n 0, 1) := by decide +kernel
theorem dd_HD_init_10 : decode cd_HD_init 10 = .ok (.aload_n 2, 1) := by decide +kernel
theorem dd_HD_init_11 : decode cd_HD_init 11 = .ok (.putfield 13, 3) := by decide +kernel
theorem dd_HD_init_14 : decode cd_HD_init 14 = .ok (.return_, 1) := by decide +kernel
theorem dd_RD_passed_0 : decode cd_RD_passed 0 = .ok (.iload_n 1, 1) := by decide +kernel
theorem dd_RD_passed_1 : decode cd_RD_passed 1 = .ok (.ifCond .lt 25, 3) := by decide +kernel
theorem dd_RD_passed_4 : decode cd_RD_passed 4 = .ok (.iload_n 1, 1) := by decide +kernel
theorem dd_RD_passed_5 : decode cd_RD_passed 5 = .ok (.bipush 16, 2) := by decide +kernel
theorem dd_RD_passed_7 : decode cd_RD_passed 7 = .ok (.if_icmp .ge 19, 3) := by decide +kernel
theorem dd_RD_passed_10 : decode cd_RD_passed 10 = .ok (.aload_n 0, 1) := by decide +kernel
theorem dd_RD_passed_11 : decode cd_RD_passed 11 = .ok (.getfield 43, 3) := by decide +kernel
theorem dd_RD_passed_14 : decode cd_RD_passed 14 = .ok (.getfield 187, 3) := by decide +kernel
theorem dd_RD_passed_17 : decode cd_RD_passed 17 = .ok (.iload_n 1, 1) := by decide +kernel
theorem dd_RD_passed_18 : decode cd_RD_passed 18 = .ok (.baload, 1) := by decide +kernel
theorem dd_RD_passed_19 : decode cd_RD_passed 19 = .ok (.ifCond .eq 7, 3) := by decide +kernel
theorem dd_RD_passed_22 : decode cd_RD_passed 22 = .ok (.iconst 1, 1) := by decide +kernel
theorem dd_RD_passed_23 : decode cd_RD_passed 23 = .ok (.goto 4, 3) := by decide +kernel
theorem dd_RD_passed_26 : decode cd_RD_passed 26 = .ok (.iconst 0, 1) := by decide +kernel
theorem dd_RD_passed_27 : decode cd_RD_passed 27 = .ok (.ireturn, 1) := by decide +kernel
theorem dd_RD_of_0 : decode cd_RD_of 0 = .ok (.iload_n 2, 1) := by decide +kernel
theorem dd_RD_of_1 : decode cd_RD_of 1 = .ok (.iconst 2, 1) := by decide +kernel
theorem dd_RD_of_2 : decode cd_RD_of 2 = .ok (.if_icmp .ne 23, 3) := by decide +kernel
theorem dd_RD_of_5 : decode cd_RD_of 5 = .ok (.aload_n 0, 1) := by decide +kernel
theorem dd_RD_of_6 : decode cd_RD_of 6 = .ok (.iload_n 1, 1) := by decide +kernel
theorem dd_RD_of_7 : decode cd_RD_of 7 = .ok (.iconst 1, 1) := by decide +kernel
theorem dd_RD_of_8 : decode cd_RD_of 8 = .ok (.invokevirtual 84, 3) := by decide +kernel
theorem dd_RD_of_11 : decode cd_RD_of 11 = .ok (.ifCond .eq 12, 3) := by decide +kernel
theorem dd_RD_of_14 : decode cd_RD_of 14 = .ok (.aload_n 0, 1) := by decide +kernel
theorem dd_RD_of_15 : decode cd_RD_of 15 = .ok (.iload_n 1, 1) := by decide +kernel
theorem dd_RD_of_16 : decode cd_RD_of 16 = .ok (.iconst 1, 1) := by decide +kernel
theorem dd_RD_of_17 : decode cd_RD_of 17 = .ok (.invokevirtual 190, 3) := by decide +kernel
theorem dd_RD_of_20 : decode cd_RD_of 20 = .ok (.goto 4, 3) := by decide +kernel
theorem dd_RD_of_23 : decode cd_RD_of 23 = .ok (.iconst (-1), 1) := by decide +kernel
theorem dd_RD_of_24 : decode cd_RD_of 24 = .ok (.ireturn, 1) := by decide +kernel
theorem dd_RD_of_25 : decode cd_RD_of 25 = .ok (.aload_n 0, 1) := by decide +kernel
theorem dd_RD_of_26 : decode cd_RD_of 26 = .ok (.iload_n 1, 1) := by decide +kernel
theorem dd_RD_of_27 : decode cd_RD_of 27 = .ok (.invokevirtual 74, 3) := by decide +kernel
theorem dd_RD_of_30 : decode cd_RD_of 30 = .ok (.astore_n 3, 1) := by decide +kernel
theorem dd_RD_of_31 : decode cd_RD_of 31 = .ok (.aload_n 3, 1) := by decide +kernel
theorem dd_RD_of_32 : decode cd_RD_of 32 = .ok (.ifnonnull 5, 3) := by decide +kernel
theorem dd_RD_of_35 : decode cd_RD_of 35 = .ok (.iconst (-1), 1) := by decide +kernel
theorem dd_RD_of_36 : decode cd_RD_of 36 = .ok (.ireturn, 1) := by decide +kernel
theorem dd_RD_of_37 : decode cd_RD_of 37 = .ok (.iload_n 2, 1) := by decide +kernel
theorem dd_RD_of_38 : decode cd_RD_of 38 = .ok (.tableswitch 57 0 4 #[34, 40, 57, 47, 52], 34) := by decide +kernel
theorem dd_RD_of_72 : decode cd_RD_of 72 = .ok (.aload_n 0, 1) := by decide +kernel
theorem dd_RD_of_73 : decode cd_RD_of 73 = .ok (.iload_n 1, 1) := by decide +kernel
theorem dd_RD_of_74 : decode cd_RD_of 74 = .ok (.invokevirtual 194, 3) := by decide +kernel
theorem dd_RD_of_77 : decode cd_RD_of 77 = .ok (.ireturn, 1) := by decide +kernel
theorem dd_RD_of_78 : decode cd_RD_of 78 = .ok (.aload_n 0, 1) := by decide +kernel
theorem dd_RD_of_79 : decode cd_RD_of 79 = .ok (.iload_n 1, 1) := by decide +kernel
theorem dd_RD_of_80 : decode cd_RD_of 80 = .ok (.iconst 0, 1) := by decide +kernel
theorem dd_RD_of_81 : decode cd_RD_of 81 = .ok (.invokevirtual 190, 3) := by decide +kernel
theorem dd_RD_of_84 : decode cd_RD_of 84 = .ok (.ireturn, 1) := by decide +kernel
theorem dd_RD_of_85 : decode cd_RD_of 85 = .ok (.aload_n 3, 1) := by decide +kernel
theorem dd_RD_of_86 : decode cd_RD_of 86 = .ok (.getfield 112, 3) := by decide +kernel
theorem dd_RD_of_89 : decode cd_RD_of 89 = .ok (.ireturn, 1) := by decide +kernel
theorem dd_RD_of_90 : decode cd_RD_of 90 = .ok (.aload_n 3, 1) := by decide +kernel
theorem dd_RD_of_91 : decode cd_RD_of 91 = .ok (.getfield 78, 3) := by decide +kernel
theorem dd_RD_of_94 : decode cd_RD_of 94 = .ok (.ireturn, 1) := by decide +kernel
theorem dd_RD_of_95 : decode cd_RD_of 95 = .ok (.iconst (-1), 1) := by decide +kernel
theorem dd_RD_of_96 : decode cd_RD_of 96 = .ok (.ireturn, 1) := by decide +kernel
