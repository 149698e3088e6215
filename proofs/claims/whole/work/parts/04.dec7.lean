/-! printed (gen/names.py): what the codes decode to -/
theorem dd_AR_copyOf1_0 : decode cd_AR_copyOf1 0 = .ok (.aload_n 0, 1) := by decide +kernel
theorem dd_AR_copyOf1_1 : decode cd_AR_copyOf1 1 = .ok (.iload_n 1, 1) := by decide +kernel
theorem dd_AR_copyOf1_2 : decode cd_AR_copyOf1 2 = .ok (.aload_n 0, 1) := by decide +kernel
theorem dd_AR_copyOf1_3 : decode cd_AR_copyOf1 3 = .ok (.invokevirtual 86, 3) := by decide +kernel
theorem dd_AR_copyOf1_6 : decode cd_AR_copyOf1 6 = .ok (.invokestatic 300, 3) := by decide +kernel
theorem dd_AR_copyOf1_9 : decode cd_AR_copyOf1 9 = .ok (.areturn, 1) := by decide +kernel
theorem dd_AR_copyOf2_0 : decode cd_AR_copyOf2 0 = .ok (.aload_n 2, 1) := by decide +kernel
theorem dd_AR_copyOf2_1 : decode cd_AR_copyOf2 1 = .ok (.ldc 110, 2) := by decide +kernel
theorem dd_AR_copyOf2_3 : decode cd_AR_copyOf2 3 = .ok (.if_acmp .ne 10, 3) := by decide +kernel
theorem dd_AR_copyOf2_6 : decode cd_AR_copyOf2 6 = .ok (.iload_n 1, 1) := by decide +kernel
theorem dd_AR_copyOf2_7 : decode cd_AR_copyOf2 7 = .ok (.anewarray 2, 3) := by decide +kernel
theorem dd_AR_copyOf2_10 : decode cd_AR_copyOf2 10 = .ok (.goto 14, 3) := by decide +kernel
theorem dd_AR_copyOf2_13 : decode cd_AR_copyOf2 13 = .ok (.aload_n 2, 1) := by decide +kernel
theorem dd_AR_copyOf2_14 : decode cd_AR_copyOf2 14 = .ok (.invokevirtual 90, 3) := by decide +kernel
theorem dd_AR_copyOf2_17 : decode cd_AR_copyOf2 17 = .ok (.iload_n 1, 1) := by decide +kernel
theorem dd_AR_copyOf2_18 : decode cd_AR_copyOf2 18 = .ok (.invokestatic 95, 3) := by decide +kernel
theorem dd_AR_copyOf2_21 : decode cd_AR_copyOf2 21 = .ok (.checkcast 110, 3) := by decide +kernel
theorem dd_AR_copyOf2_24 : decode cd_AR_copyOf2 24 = .ok (.astore_n 3, 1) := by decide +kernel
theorem dd_AR_copyOf2_25 : decode cd_AR_copyOf2 25 = .ok (.aload_n 0, 1) := by decide +kernel
theorem dd_AR_copyOf2_26 : decode cd_AR_copyOf2 26 = .ok (.iconst 0, 1) := by decide +kernel
theorem dd_AR_copyOf2_27 : decode cd_AR_copyOf2 27 = .ok (.aload_n 3, 1) := by decide +kernel
theorem dd_AR_copyOf2_28 : decode cd_AR_copyOf2 28 = .ok (.iconst 0, 1) := by decide +kernel
theorem dd_AR_copyOf2_29 : decode cd_AR_copyOf2 29 = .ok (.aload_n 0, 1) := by decide +kernel
theorem dd_AR_copyOf2_30 : decode cd_AR_copyOf2 30 = .ok (.arraylength, 1) := by decide +kernel
theorem dd_AR_copyOf2_31 : decode cd_AR_copyOf2 31 = .ok (.iload_n 1, 1) := by decide +kernel
theorem dd_AR_copyOf2_32 : decode cd_AR_copyOf2 32 = .ok (.invokestatic 304, 3) := by decide +kernel
theorem dd_AR_copyOf2_35 : decode cd_AR_copyOf2 35 = .ok (.invokestatic 150, 3) := by decide +kernel
theorem dd_AR_copyOf2_38 : decode cd_AR_copyOf2 38 = .ok (.aload_n 3, 1) := by decide +kernel
theorem dd_AR_copyOf2_39 : decode cd_AR_copyOf2 39 = .ok (.areturn, 1) := by decide +kernel
theorem dd_SB_toString_0 : decode cd_SB_toString 0 = .ok (.new 18, 3) := by decide +kernel
theorem dd_SB_toString_3 : decode cd_SB_toString 3 = .ok (.dup, 1) := by decide +kernel
theorem dd_SB_toString_4 : decode cd_SB_toString 4 = .ok (.aload_n 0, 1) := by decide +kernel
theorem dd_SB_toString_5 : decode cd_SB_toString 5 = .ok (.invokespecial 137, 3) := by decide +kernel
theorem dd_SB_toString_8 : decode cd_SB_toString 8 = .ok (.areturn, 1) := by decide +kernel
theorem dd_ST_init0_0 : decode cd_ST_init0 0 = .ok (.aload_n 0, 1) := by decide +kernel
theorem dd_ST_init0_1 : decode cd_ST_init0 1 = .ok (.aload_n 1, 1) := by decide +kernel
theorem dd_ST_init0_2 : decode cd_ST_init0 2 = .ok (.aconst_null, 1) := by decide +kernel
theorem dd_ST_init0_3 : decode cd_ST_init0 3 = .ok (.invokespecial 489, 3) := by decide +kernel
theorem dd_ST_init0_6 : decode cd_ST_init0 6 = .ok (.return_, 1) := by decide +kernel
theorem dd_ST_init1_0 : decode cd_ST_init1 0 = .ok (.aload_n 0, 1) := by decide +kernel
theorem dd_ST_init1_1 : decode cd_ST_init1 1 = .ok (.invokespecial 1, 3) := by decide +kernel
theorem dd_ST_init1_4 : decode cd_ST_init1 4 = .ok (.aload_n 1, 1) := by decide +kernel
theorem dd_ST_init1_5 : decode cd_ST_init1 5 = .ok (.invokevirtual 552, 3) := by decide +kernel
theorem dd_ST_init1_8 : decode cd_ST_init1 8 = .ok (.astore_n 3, 1) := by decide +kernel
theorem dd_ST_init1_9 : decode cd_ST_init1 9 = .ok (.aload_n 1, 1) := by decide +kernel
theorem dd_ST_init1_10 : decode cd_ST_init1 10 = .ok (.invokevirtual 549, 3) := by decide +kernel
theorem dd_ST_init1_13 : decode cd_ST_init1 13 = .ok (.istore 4, 2) := by decide +kernel
theorem dd_ST_init1_15 : decode cd_ST_init1 15 = .ok (.aload_n 1, 1) := by decide +kernel
theorem dd_ST_init1_16 : decode cd_ST_init1 16 = .ok (.invokevirtual 1047, 3) := by decide +kernel
theorem dd_ST_init1_19 : decode cd_ST_init1 19 = .ok (.ifCond .eq 22, 3) := by decide +kernel
theorem dd_ST_init1_22 : decode cd_ST_init1 22 = .ok (.aload_n 0, 1) := by decide +kernel
theorem dd_ST_init1_23 : decode cd_ST_init1 23 = .ok (.iconst 0, 1) := by decide +kernel
theorem dd_ST_init1_24 : decode cd_ST_init1 24 = .ok (.putfield 15, 3) := by decide +kernel
theorem dd_ST_init1_27 : decode cd_ST_init1 27 = .ok (.aload_n 0, 1) := by decide +kernel
theorem dd_ST_init1_28 : decode cd_ST_init1 28 = .ok (.aload_n 3, 1) := by decide +kernel
theorem dd_ST_init1_29 : decode cd_ST_init1 29 = .ok (.iconst 0, 1) := by decide +kernel
theorem dd_ST_init1_30 : decode cd_ST_init1 30 = .ok (.iload 4, 2) := by decide +kernel
theorem dd_ST_init1_32 : decode cd_ST_init1 32 = .ok (.invokestatic 54, 3) := by decide +kernel
theorem dd_ST_init1_35 : decode cd_ST_init1 35 = .ok (.putfield 9, 3) := by decide +kernel
theorem dd_ST_init1_38 : decode cd_ST_init1 38 = .ok (.goto 59, 3) := by decide +kernel
theorem dd_ST_init1_41 : decode cd_ST_init1 41 = .ok (.getstatic 38, 3) := by decide +kernel
theorem dd_ST_init1_44 : decode cd_ST_init1 44 = .ok (.ifCond .eq 35, 3) := by decide +kernel
theorem dd_ST_init1_47 : decode cd_ST_init1 47 = .ok (.aload_n 1, 1) := by decide +kernel
theorem dd_ST_init1_48 : decode cd_ST_init1 48 = .ok (.getfield 1048, 3) := by decide +kernel
theorem dd_ST_init1_51 : decode cd_ST_init1 51 = .ok (.ifCond .eq 28, 3) := by decide +kernel
theorem dd_ST_init1_54 : decode cd_ST_init1 54 = .ok (.aload_n 0, 1) := by decide +kernel
theorem dd_ST_init1_55 : decode cd_ST_init1 55 = .ok (.aload_n 3, 1) := by decide +kernel
theorem dd_ST_init1_56 : decode cd_ST_init1 56 = .ok (.iconst 0, 1) := by decide +kernel
theorem dd_ST_init1_57 : decode cd_ST_init1 57 = .ok (.iload 4, 2) := by decide +kernel
theorem dd_ST_init1_59 : decode cd_ST_init1 59 = .ok (.invokestatic 1051, 3) := by decide +kernel
theorem dd_ST_init1_62 : decode cd_ST_init1 62 = .ok (.putfield 9, 3) := by decide +kernel
theorem dd_ST_init1_65 : decode cd_ST_init1 65 = .ok (.aload_n 0, 1) := by decide +kernel
theorem dd_ST_init1_66 : decode cd_ST_init1 66 = .ok (.aload_n 0, 1) := by decide +kernel
theorem dd_ST_init1_67 : decode cd_ST_init1 67 = .ok (.getfield 9, 3) := by decide +kernel
theorem dd_ST_init1_70 : decode cd_ST_init1 70 = .ok (.iload 4, 2) := by decide +kernel
theorem dd_ST_init1_72 : decode cd_ST_init1 72 = .ok (.invokestatic 47, 3) := by decide +kernel
theorem dd_ST_init1_75 : decode cd_ST_init1 75 = .ok (.putfield 15, 3) := by decide +kernel
theorem dd_ST_init1_78 : decode cd_ST_init1 78 = .ok (.return_, 1) := by decide +kernel
theorem dd_ST_init1_79 : decode cd_ST_init1 79 = .ok (.aload_n 0, 1) := by decide +kernel
theorem dd_ST_init1_80 : decode cd_ST_init1 80 = .ok (.iconst 1, 1) := by decide +kernel
theorem dd_ST_init1_81 : decode cd_ST_init1 81 = .ok (.putfield 15, 3) := by decide +kernel
theorem dd_ST_init1_84 : decode cd_ST_init1 84 = .ok (.aload_n 0, 1) := by decide +kernel
theorem dd_ST_init1_85 : decode cd_ST_init1 85 = .ok (.aload_n 3, 1) := by decide +kernel
theorem dd_ST_init1_86 : decode cd_ST_init1 86 = .ok (.iconst 0, 1) := by decide +kernel
theorem dd_ST_init1_87 : decode cd_ST_init1 87 = .ok (.iload 4, 2) := by decide +kernel
theorem dd_ST_init1_89 : decode cd_ST_init1 89 = .ok (.iconst 1, 1) := by decide +kernel
theorem dd_ST_init1_90 : decode cd_ST_init1 90 = .ok (.ishl, 1) := by decide +kernel
theorem dd_ST_init1_91 : decode cd_ST_init1 91 = .ok (.invokestatic 54, 3) := by decide +kernel
theorem dd_ST_init1_94 : decode cd_ST_init1 94 = .ok (.putfield 9, 3) := by decide +kernel
theorem dd_ST_init1_97 : decode cd_ST_init1 97 = .ok (.return_, 1) := by decide +kernel
theorem dd_ST_init2_0 : decode cd_ST_init2 0 = .ok (.aload_n 0, 1) := by decide +kernel
theorem dd_ST_init2_1 : decode cd_ST_init2 1 = .ok (.invokespecial 1, 3) := by decide +kernel
theorem dd_ST_init2_4 : decode cd_ST_init2 4 = .ok (.aload_n 0, 1) := by decide +kernel
theorem dd_ST_init2_5 : decode cd_ST_init2 5 = .ok (.aload_n 1, 1) := by decide +kernel
theorem dd_ST_init2_6 : decode cd_ST_init2 6 = .ok (.putfield 9, 3) := by decide +kernel
theorem dd_ST_init2_9 : decode cd_ST_init2 9 = .ok (.aload_n 0, 1) := by decide +kernel
theorem dd_ST_init2_10 : decode cd_ST_init2 10 = .ok (.iload_n 2, 1) := by decide +kernel
theorem dd_ST_init2_11 : decode cd_ST_init2 11 = .ok (.putfield 15, 3) := by decide +kernel
theorem dd_ST_init2_14 : decode cd_ST_init2 14 = .ok (.return_, 1) := by decide +kernel
theorem dd_AB_getValue_0 : decode cd_AB_getValue 0 = .ok (.aload_n 0, 1) := by decide +kernel
theorem dd_AB_getValue_1 : decode cd_AB_getValue 1 = .ok (.getfield 15, 3) := by decide +kernel
theorem dd_AB_getValue_4 : decode cd_AB_getValue 4 = .ok (.areturn, 1) := by decide +kernel
theorem dd_AR_copyOfRange_0 : decode cd_AR_copyOfRange 0 = .ok (.iload_n 1, 1) := by decide +kernel
theorem dd_AR_copyOfRange_1 : decode cd_AR_copyOfRange 1 = .ok (.ifCond .ne 9, 3) := by decide +kernel
theorem dd_AR_copyOfRange_4 : decode cd_AR_copyOfRange 4 = .ok (.iload_n 2, 1) := by decide +kernel
theorem dd_AR_copyOfRange_5 : decode cd_AR_copyOfRange 5 = .ok (.aload_n 0, 1) := by decide +kernel
theorem dd_AR_copyOfRange_6 : decode cd_AR_copyOfRange 6 = .ok (.arraylength, 1) := by decide +kernel
theorem dd_AR_copyOfRange_7 : decode cd_AR_copyOfRange 7 = .ok (.if_icmp .eq 10, 3) := by decide +kernel
theorem dd_AR_copyOfRange_10 : decode cd_AR_copyOfRange 10 = .ok (.aload_n 0, 1) := by decide +kernel
theorem dd_AR_copyOfRange_11 : decode cd_AR_copyOfRange 11 = .ok (.iload_n 1, 1) := by decide +kernel
theorem dd_AR_copyOfRange_12 : decode cd_AR_copyOfRange 12 = .ok (.iload_n 2, 1) := by decide +kernel
theorem dd_AR_copyOfRange_13 : decode cd_AR_copyOfRange 13 = .ok (.invokestatic 339, 3) := by decide +kernel
theorem dd_AR_copyOfRange_16 : decode cd_AR_copyOfRange 16 = .ok (.areturn, 1) := by decide +kernel
theorem dd_AR_copyOfRange_17 : decode cd_AR_copyOfRange 17 = .ok (.aload_n 0, 1) := by decide +kernel
theorem dd_AR_copyOfRange_18 : decode cd_AR_copyOfRange 18 = .ok (.invokevirtual 310, 3) := by decide +kernel
theorem dd_AR_copyOfRange_21 : decode cd_AR_copyOfRange 21 = .ok (.checkcast 311, 3) := by decide +kernel
theorem dd_AR_copyOfRange_24 : decode cd_AR_copyOfRange 24 = .ok (.areturn, 1) := by decide +kernel
theorem dd_AR_copyOfRangeByte_0 : decode cd_AR_copyOfRangeByte 0 = .ok (.iload_n 1, 1) := by decide +kernel
theorem dd_AR_copyOfRangeByte_1 : decode cd_AR_copyOfRangeByte 1 = .ok (.iload_n 2, 1) := by decide +kernel
theorem dd_AR_copyOfRangeByte_2 : decode cd_AR_copyOfRangeByte 2 = .ok (.invokestatic 343, 3) := by decide +kernel
theorem dd_AR_copyOfRangeByte_5 : decode cd_AR_copyOfRangeByte 5 = .ok (.iload_n 2, 1) := by decide +kernel
theorem dd_AR_copyOfRangeByte_6 : decode cd_AR_copyOfRangeByte 6 = .ok (.iload_n 1, 1) := by decide +kernel
theorem dd_AR_copyOfRangeByte_7 : decode cd_AR_copyOfRangeByte 7 = .ok (.isub, 1) := by decide +kernel
theorem dd_AR_copyOfRangeByte_8 : decode cd_AR_copyOfRangeByte 8 = .ok (.istore_n 3, 1) := by decide +kernel
theorem dd_AR_copyOfRangeByte_9 : decode cd_AR_copyOfRangeByte 9 = .ok (.iload_n 3, 1) := by decide +kernel
theorem dd_AR_copyOfRangeByte_10 : decode cd_AR_copyOfRangeByte 10 = .ok (.newarray .byte, 2) := by decide +kernel
theorem dd_AR_copyOfRangeByte_12 : decode cd_AR_copyOfRangeByte 12 = .ok (.astore 4, 2) := by decide +kernel
theorem dd_AR_copyOfRangeByte_14 : decode cd_AR_copyOfRangeByte 14 = .ok (.aload_n 0, 1) := by decide +kernel
theorem dd_AR_copyOfRangeByte_15 : decode cd_AR_copyOfRangeByte 15 = .ok (.iload_n 1, 1) := by decide +kernel
theorem dd_AR_copyOfRangeByte_16 : decode cd_AR_copyOfRangeByte 16 = .ok (.aload 4, 2) := by decide +kernel
theorem dd_AR_copyOfRangeByte_18 : decode cd_AR_copyOfRangeByte 18 = .ok (.iconst 0, 1) := by decide +kernel
theorem dd_AR_copyOfRangeByte_19 : decode cd_AR_copyOfRangeByte 19 = .ok (.aload_n 0, 1) := by decide +kernel
theorem dd_AR_copyOfRangeByte_20 : decode cd_AR_copyOfRangeByte 20 = .ok (.arraylength, 1) := by decide +kernel
theorem dd_AR_copyOfRangeByte_21 : decode cd_AR_copyOfRangeByte 21 = .ok (.iload_n 1, 1) := by decide +kernel
theorem dd_AR_copyOfRangeByte_22 : decode cd_AR_copyOfRangeByte 22 = .ok (.isub, 1) := by decide +kernel
theorem dd_AR_copyOfRangeByte_23 : decode cd_AR_copyOfRangeByte 23 = .ok (.iload_n 3, 1) := by decide +kernel
theorem dd_AR_copyOfRangeByte_24 : decode cd_AR_copyOfRangeByte 24 = .ok (.invokestatic 304, 3) := by decide +kernel
theorem dd_AR_copyOfRangeByte_27 : decode cd_AR_copyOfRangeByte 27 = .ok (.invokestatic 150, 3) := by decide +kernel
theorem dd_AR_copyOfRangeByte_30 : decode cd_AR_copyOfRangeByte 30 = .ok (.aload 4, 2) := by decide +kernel
theorem dd_AR_copyOfRangeByte_32 : decode cd_AR_copyOfRangeByte 32 = .ok (.areturn, 1) := by decide +kernel
theorem dd_AR_checkLength_0 : decode cd_AR_checkLength 0 = .ok (.iload_n 1, 1) := by decide +kernel
theorem dd_AR_checkLength_1 : decode cd_AR_checkLength 1 = .ok (.iload_n 0, 1) := by decide +kernel
theorem dd_AR_checkLength_2 : decode cd_AR_checkLength 2 = .ok (.if_icmp .ge 35, 3) := by decide +kernel
theorem dd_AR_checkLength_5 : decode cd_AR_checkLength 5 = .ok (.new 43, 3) := by decide +kernel
theorem dd_AR_checkLength_8 : decode cd_AR_checkLength 8 = .ok (.dup, 1) := by decide +kernel
theorem dd_AR_checkLength_9 : decode cd_AR_checkLength 9 = .ok (.new 45, 3) := by decide +kernel
theorem dd_AR_checkLength_12 : decode cd_AR_checkLength 12 = .ok (.dup, 1) := by decide +kernel
theorem dd_AR_checkLength_13 : decode cd_AR_checkLength 13 = .ok (.invokespecial 47, 3) := by decide +kernel
theorem dd_AR_checkLength_16 : decode cd_AR_checkLength 16 = .ok (.iload_n 0, 1) := by decide +kernel
theorem dd_AR_checkLength_17 : decode cd_AR_checkLength 17 = .ok (.invokevirtual 54, 3) := by decide +kernel
theorem dd_AR_checkLength_20 : decode cd_AR_checkLength 20 = .ok (.ldc_w 337, 3) := by decide +kernel
theorem dd_AR_checkLength_23 : decode cd_AR_checkLength 23 = .ok (.invokevirtual 50, 3) := by decide +kernel
theorem dd_AR_checkLength_26 : decode cd_AR_checkLength 26 = .ok (.iload_n 1, 1) := by decide +kernel
theorem dd_AR_checkLength_27 : decode cd_AR_checkLength 27 = .ok (.invokevirtual 54, 3) := by decide +kernel
theorem dd_AR_checkLength_30 : decode cd_AR_checkLength 30 = .ok (.invokevirtual 61, 3) := by decide +kernel
theorem dd_AR_checkLength_33 : decode cd_AR_checkLength 33 = .ok (.invokespecial 65, 3) := by decide +kernel
theorem dd_AR_checkLength_36 : decode cd_AR_checkLength 36 = .ok (.athrow, 1) := by decide +kernel
theorem dd_AR_checkLength_37 : decode cd_AR_checkLength 37 = .ok (.return_, 1) := by decide +kernel
theorem dd_AB_setLength_0 : decode cd_AB_setLength 0 = .ok (.iload_n 1, 1) := by decide +kernel
theorem dd_AB_setLength_1 : decode cd_AB_setLength 1 = .ok (.ifCond .ge 12, 3) := by decide +kernel
theorem dd_AB_setLength_4 : decode cd_AB_setLength 4 = .ok (.new 129, 3) := by decide +kernel
theorem dd_AB_setLength_7 : decode cd_AB_setLength 7 = .ok (.dup, 1) := by decide +kernel
theorem dd_AB_setLength_8 : decode cd_AB_setLength 8 = .ok (.iload_n 1, 1) := by decide +kernel
theorem dd_AB_setLength_9 : decode cd_AB_setLength 9 = .ok (.invokespecial 131, 3) := by decide +kernel
theorem dd_AB_setLength_12 : decode cd_AB_setLength 12 = .ok (.athrow, 1) := by decide +kernel
theorem dd_AB_setLength_13 : decode cd_AB_setLength 13 = .ok (.aload_n 0, 1) := by decide +kernel
theorem dd_AB_setLength_14 : decode cd_AB_setLength 14 = .ok (.iload_n 1, 1) := by decide +kernel
theorem dd_AB_setLength_15 : decode cd_AB_setLength 15 = .ok (.invokevirtual 100, 3) := by decide +kernel
theorem dd_AB_setLength_18 : decode cd_AB_setLength 18 = .ok (.aload_n 0, 1) := by decide +kernel
theorem dd_AB_setLength_19 : decode cd_AB_setLength 19 = .ok (.getfield 79, 3) := by decide +kernel
theorem dd_AB_setLength_22 : decode cd_AB_setLength 22 = .ok (.iload_n 1, 1) := by decide +kernel
theorem dd_AB_setLength_23 : decode cd_AB_setLength 23 = .ok (.if_icmp .ge 40, 3) := by decide +kernel
theorem dd_AB_setLength_26 : decode cd_AB_setLength 26 = .ok (.aload_n 0, 1) := by decide +kernel
theorem dd_AB_setLength_27 : decode cd_AB_setLength 27 = .ok (.invokevirtual 83, 3) := by decide +kernel
theorem dd_AB_setLength_30 : decode cd_AB_setLength 30 = .ok (.ifCond .eq 18, 3) := by decide +kernel
theorem dd_AB_setLength_33 : decode cd_AB_setLength 33 = .ok (.aload_n 0, 1) := by decide +kernel
theorem dd_AB_setLength_34 : decode cd_AB_setLength 34 = .ok (.getfield 15, 3) := by decide +kernel
theorem dd_AB_setLength_37 : decode cd_AB_setLength 37 = .ok (.aload_n 0, 1) := by decide +kernel
theorem dd_AB_setLength_38 : decode cd_AB_setLength 38 = .ok (.getfield 79, 3) := by decide +kernel
theorem dd_AB_setLength_41 : decode cd_AB_setLength 41 = .ok (.iload_n 1, 1) := by decide +kernel
theorem dd_AB_setLength_42 : decode cd_AB_setLength 42 = .ok (.invokestatic 133, 3) := by decide +kernel
theorem dd_AB_setLength_45 : decode cd_AB_setLength 45 = .ok (.goto 31, 3) := by decide +kernel
theorem dd_AB_setLength_48 : decode cd_AB_setLength 48 = .ok (.aload_n 0, 1) := by decide +kernel
theorem dd_AB_setLength_49 : decode cd_AB_setLength 49 = .ok (.getfield 15, 3) := by decide +kernel
theorem dd_AB_setLength_52 : decode cd_AB_setLength 52 = .ok (.aload_n 0, 1) := by decide +kernel
theorem dd_AB_setLength_53 : decode cd_AB_setLength 53 = .ok (.getfield 79, 3) := by decide +kernel
theorem dd_AB_setLength_56 : decode cd_AB_setLength 56 = .ok (.iload_n 1, 1) := by decide +kernel
theorem dd_AB_setLength_57 : decode cd_AB_setLength 57 = .ok (.invokestatic 137, 3) := by decide +kernel
theorem dd_AB_setLength_60 : decode cd_AB_setLength 60 = .ok (.goto 16, 3) := by decide +kernel
theorem dd_AB_setLength_63 : decode cd_AB_setLength 63 = .ok (.aload_n 0, 1) := by decide +kernel
theorem dd_AB_setLength_64 : decode cd_AB_setLength 64 = .ok (.getfield 79, 3) := by decide +kernel
theorem dd_AB_setLength_67 : decode cd_AB_setLength 67 = .ok (.iload_n 1, 1) := by decide +kernel
theorem dd_AB_setLength_68 : decode cd_AB_setLength 68 = .ok (.if_icmp .le 8, 3) := by decide +kernel
theorem dd_AB_setLength_71 : decode cd_AB_setLength 71 = .ok (.aload_n 0, 1) := by decide +kernel
theorem dd_AB_setLength_72 : decode cd_AB_setLength 72 = .ok (.iconst 1, 1) := by decide +kernel
theorem dd_AB_setLength_73 : decode cd_AB_setLength 73 = .ok (.putfield 73, 3) := by decide +kernel
theorem dd_AB_setLength_76 : decode cd_AB_setLength 76 = .ok (.aload_n 0, 1) := by decide +kernel
theorem dd_AB_setLength_77 : decode cd_AB_setLength 77 = .ok (.iload_n 1, 1) := by decide +kernel
theorem dd_AB_setLength_78 : decode cd_AB_setLength 78 = .ok (.putfield 79, 3) := by decide +kernel
theorem dd_AB_setLength_81 : decode cd_AB_setLength 81 = .ok (.return_, 1) := by decide +kernel
theorem dd_SB_setLength_0 : decode cd_SB_setLength 0 = .ok (.aload_n 0, 1) := by decide +kernel
theorem dd_SB_setLength_1 : decode cd_SB_setLength 1 = .ok (.iload_n 1, 1) := by decide +kernel
theorem dd_SB_setLength_2 : decode cd_SB_setLength 2 = .ok (.invokespecial 333, 3) := by decide +kernel
theorem dd_SB_setLength_5 : decode cd_SB_setLength 5 = .ok (.return_, 1) := by decide +kernel
theorem dd_AB_length_0 : decode cd_AB_length 0 = .ok (.aload_n 0, 1) := by decide +kernel
theorem dd_AB_length_1 : decode cd_AB_length 1 = .ok (.getfield 79, 3) := by decide +kernel
theorem dd_AB_length_4 : decode cd_AB_length 4 = .ok (.ireturn, 1) := by decide +kernel
theorem dd_SB_length_0 : decode cd_SB_length 0 = .ok (.aload_n 0, 1) := by decide +kernel
theorem dd_SB_length_1 : decode cd_SB_length 1 = .ok (.invokespecial 343, 3) := by decide +kernel
theorem dd_SB_length_4 : decode cd_SB_length 4 = .ok (.ireturn, 1) := by decide +kernel
theorem dd_ST_length_0 : decode cd_ST_length 0 = .ok (.aload_n 0, 1) := by decide +kernel
theorem dd_ST_length_1 : decode cd_ST_length 1 = .ok (.getfield 9, 3) := by decide +kernel
theorem dd_ST_length_4 : decode cd_ST_length 4 = .ok (.arraylength, 1) := by decide +kernel
theorem dd_ST_length_5 : decode cd_ST_length 5 = .ok (.aload_n 0, 1) := by decide +kernel
theorem dd_ST_length_6 : decode cd_ST_length 6 = .ok (.invokevirtual 335, 3) := by decide +kernel
theorem dd_ST_length_9 : decode cd_ST_length 9 = .ok (.ishr, 1) := by decide +kernel
theorem dd_ST_length_10 : decode cd_ST_length 10 = .ok (.ireturn, 1) := by decide +kernel
theorem dd_ST_coder_0 : decode cd_ST_coder 0 = .ok (.getstatic 38, 3) := by decide +kernel
theorem dd_ST_coder_3 : decode cd_ST_coder 3 = .ok (.ifCond .eq 10, 3) := by decide +kernel
theorem dd_ST_coder_6 : decode cd_ST_coder 6 = .ok (.aload_n 0, 1) := by decide +kernel
theorem dd_ST_coder_7 : decode cd_ST_coder 7 = .ok (.getfield 15, 3) := by decide +kernel
theorem dd_ST_coder_10 : decode cd_ST_coder 10 = .ok (.goto 4, 3) := by decide +kernel
theorem dd_ST_coder_13 : decode cd_ST_coder 13 = .ok (.iconst 1, 1) := by decide +kernel
theorem dd_ST_coder_14 : decode cd_ST_coder 14 = .ok (.ireturn, 1) := by decide +kernel
theorem dd_ST_isLatin1_0 : decode cd_ST_isLatin1 0 = .ok (.getstatic 38, 3) := by decide +kernel
theorem dd_ST_isLatin1_3 : decode cd_ST_isLatin1 3 = .ok (.ifCond .eq 14, 3) := by decide +kernel
theorem dd_ST_isLatin1_6 : decode cd_ST_isLatin1 6 = .ok (.aload_n 0, 1) := by decide +kernel
theorem dd_ST_isLatin1_7 : decode cd_ST_isLatin1 7 = .ok (.getfield 15, 3) := by decide +kernel
theorem dd_ST_isLatin1_10 : decode cd_ST_isLatin1 10 = .ok (.ifCond .ne 7, 3) := by decide +kernel
theorem dd_ST_isLatin1_13 : decode cd_ST_isLatin1 13 = .ok (.iconst 1, 1) := by decide +kernel
theorem dd_ST_isLatin1_14 : decode cd_ST_isLatin1 14 = .ok (.goto 4, 3) := by decide +kernel
theorem dd_ST_isLatin1_17 : decode cd_ST_isLatin1 17 = .ok (.iconst 0, 1) := by decide +kernel
theorem dd_ST_isLatin1_18 : decode cd_ST_isLatin1 18 = .ok (.ireturn, 1) := by decide +kernel
theorem dd_ST_charAt_0 : decode cd_ST_charAt 0 = .ok (.aload_n 0, 1) := by decide +kernel
theorem dd_ST_charAt_1 : decode cd_ST_charAt 1 = .ok (.invokevirtual 492, 3) := by decide +kernel
theorem dd_ST_charAt_4 : decode cd_ST_charAt 4 = .ok (.ifCond .eq 12, 3) := by decide +kernel
theorem dd_ST_charAt_7 : decode cd_ST_charAt 7 = .ok (.aload_n 0, 1) := by decide +kernel
theorem dd_ST_charAt_8 : decode cd_ST_charAt 8 = .ok (.getfield 9, 3) := by decide +kernel
theorem dd_ST_charAt_11 : decode cd_ST_charAt 11 = .ok (.iload_n 1, 1) := by decide +kernel
theorem dd_ST_charAt_12 : decode cd_ST_charAt 12 = .ok (.invokestatic 495, 3) := by decide +kernel
theorem dd_ST_charAt_15 : decode cd_ST_charAt 15 = .ok (.ireturn, 1) := by decide +kernel
theorem dd_ST_charAt_16 : decode cd_ST_charAt 16 = .ok (.aload_n 0, 1) := by decide +kernel
theorem dd_ST_charAt_17 : decode cd_ST_charAt 17 = .ok (.getfield 9, 3) := by decide +kernel
theorem dd_ST_charAt_20 : decode cd_ST_charAt 20 = .ok (.iload_n 1, 1) := by decide +kernel
theorem dd_ST_charAt_21 : decode cd_ST_charAt 21 = .ok (.invokestatic 498, 3) := by decide +kernel
theorem dd_ST_charAt_24 : decode cd_ST_charAt 24 = .ok (.ireturn, 1) := by decide +kernel
theorem dd_SL_charAt_0 : decode cd_SL_charAt 0 = .ok (.iload_n 1, 1) := by decide +kernel
theorem dd_SL_charAt_1 : decode cd_SL_charAt 1 = .ok (.aload_n 0, 1) := by decide +kernel
theorem dd_SL_charAt_2 : decode cd_SL_charAt 2 = .ok (.arraylength, 1) := by decide +kernel
theorem dd_SL_charAt_3 : decode cd_SL_charAt 3 = .ok (.invokestatic 9, 3) := by decide +kernel
theorem dd_SL_charAt_6 : decode cd_SL_charAt 6 = .ok (.aload_n 0, 1) := by decide +kernel
theorem dd_SL_charAt_7 : decode cd_SL_charAt 7 = .ok (.iload_n 1, 1) := by decide +kernel
theorem dd_SL_charAt_8 : decode cd_SL_charAt 8 = .ok (.baload, 1) := by decide +kernel
theorem dd_SL_charAt_9 : decode cd_SL_charAt 9 = .ok (.sipush 255, 3) := by decide +kernel
theorem dd_SL_charAt_12 : decode cd_SL_charAt 12 = .ok (.iand, 1) := by decide +kernel
theorem dd_SL_charAt_13 : decode cd_SL_charAt 13 = .ok (.i2c, 1) := by decide +kernel
theorem dd_SL_charAt_14 : decode cd_SL_charAt 14 = .ok (.ireturn, 1) := by decide +kernel
theorem dd_ST_equals_0 : decode cd_ST_equals 0 = .ok (.aload_n 0, 1) := by decide +kernel
theorem dd_ST_equals_1 : decode cd_ST_equals 1 = .ok (.aload_n 1, 1) := by decide +kernel
theorem dd_ST_equals_2 : decode cd_ST_equals 2 = .ok (.if_acmp .ne 5, 3) := by decide +kernel
theorem dd_ST_equals_5 : decode cd_ST_equals 5 = .ok (.iconst 1, 1) := by decide +kernel
theorem dd_ST_equals_6 : decode cd_ST_equals 6 = .ok (.ireturn, 1) := by decide +kernel
theorem dd_ST_equals_7 : decode cd_ST_equals 7 = .ok (.aload_n 1, 1) := by decide +kernel
theorem dd_ST_equals_8 : decode cd_ST_equals 8 = .ok (.instanceof 10, 3) := by decide +kernel
theorem dd_ST_equals_11 : decode cd_ST_equals 11 = .ok (.ifCond .eq 43, 3) := by decide +kernel
theorem dd_ST_equals_14 : decode cd_ST_equals 14 = .ok (.aload_n 1, 1) := by decide +kernel
theorem dd_ST_equals_15 : decode cd_ST_equals 15 = .ok (.checkcast 10, 3) := by decide +kernel
theorem dd_ST_equals_18 : decode cd_ST_equals 18 = .ok (.astore_n 2, 1) := by decide +kernel
theorem dd_ST_equals_19 : decode cd_ST_equals 19 = .ok (.getstatic 38, 3) := by decide +kernel
theorem dd_ST_equals_22 : decode cd_ST_equals 22 = .ok (.ifCond .eq 14, 3) := by decide +kernel
theorem dd_ST_equals_25 : decode cd_ST_equals 25 = .ok (.aload_n 0, 1) := by decide +kernel
theorem dd_ST_equals_26 : decode cd_ST_equals 26 = .ok (.getfield 15, 3) := by decide +kernel
theorem dd_ST_equals_29 : decode cd_ST_equals 29 = .ok (.aload_n 2, 1) := by decide +kernel
theorem dd_ST_equals_30 : decode cd_ST_equals 30 = .ok (.getfield 15, 3) := by decide +kernel
theorem dd_ST_equals_33 : decode cd_ST_equals 33 = .ok (.if_icmp .ne 21, 3) := by decide +kernel
theorem dd_ST_equals_36 : decode cd_ST_equals 36 = .ok (.aload_n 0, 1) := by decide +kernel
theorem dd_ST_equals_37 : decode cd_ST_equals 37 = .ok (.getfield 9, 3) := by decide +kernel
theorem dd_ST_equals_40 : decode cd_ST_equals 40 = .ok (.aload_n 2, 1) := by decide +kernel
theorem dd_ST_equals_41 : decode cd_ST_equals 41 = .ok (.getfield 9, 3) := by decide +kernel
theorem dd_ST_equals_44 : decode cd_ST_equals 44 = .ok (.invokestatic 541, 3) := by decide +kernel
theorem dd_ST_equals_47 : decode cd_ST_equals 47 = .ok (.ifCond .eq 7, 3) := by decide +kernel
theorem dd_ST_equals_50 : decode cd_ST_equals 50 = .ok (.iconst 1, 1) := by decide +kernel
theorem dd_ST_equals_51 : decode cd_ST_equals 51 = .ok (.goto 4, 3) := by decide +kernel
theorem dd_ST_equals_54 : decode cd_ST_equals 54 = .ok (.iconst 0, 1) := by decide +kernel
theorem dd_ST_equals_55 : decode cd_ST_equals 55 = .ok (.ireturn, 1) := by decide +kernel
theorem dd_SL_equals_0 : decode cd_SL_equals 0 = .ok (.aload_n 0, 1) := by decide +kernel
theorem dd_SL_equals_1 : decode cd_SL_equals 1 = .ok (.arraylength, 1) := by decide +kernel
theorem dd_SL_equals_2 : decode cd_SL_equals 2 = .ok (.aload_n 1, 1) := by decide +kernel
theorem dd_SL_equals_3 : decode cd_SL_equals 3 = .ok (.arraylength, 1) := by decide +kernel
theorem dd_SL_equals_4 : decode cd_SL_equals 4 = .ok (.if_icmp .ne 30, 3) := by decide +kernel
theorem dd_SL_equals_7 : decode cd_SL_equals 7 = .ok (.iconst 0, 1) := by decide +kernel
theorem dd_SL_equals_8 : decode cd_SL_equals 8 = .ok (.istore_n 2, 1) := by decide +kernel
theorem dd_SL_equals_9 : decode cd_SL_equals 9 = .ok (.iload_n 2, 1) := by decide +kernel
theorem dd_SL_equals_10 : decode cd_SL_equals 10 = .ok (.aload_n 0, 1) := by decide +kernel
theorem dd_SL_equals_11 : decode cd_SL_equals 11 = .ok (.arraylength, 1) := by decide +kernel
theorem dd_SL_equals_12 : decode cd_SL_equals 12 = .ok (.if_icmp .ge 20, 3) := by decide +kernel
theorem dd_SL_equals_15 : decode cd_SL_equals 15 = .ok (.aload_n 0, 1) := by decide +kernel
theorem dd_SL_equals_16 : decode cd_SL_equals 16 = .ok (.iload_n 2, 1) := by decide +kernel
theorem dd_SL_equals_17 : decode cd_SL_equals 17 = .ok (.baload, 1) := by decide +kernel
theorem dd_SL_equals_18 : decode cd_SL_equals 18 = .ok (.aload_n 1, 1) := by decide +kernel
theorem dd_SL_equals_19 : decode cd_SL_equals 19 = .ok (.iload_n 2, 1) := by decide +kernel
theorem dd_SL_equals_20 : decode cd_SL_equals 20 = .ok (.baload, 1) := by decide +kernel
theorem dd_SL_equals_21 : decode cd_SL_equals 21 = .ok (.if_icmp .eq 5, 3) := by decide +kernel
theorem dd_SL_equals_24 : decode cd_SL_equals 24 = .ok (.iconst 0, 1) := by decide +kernel
theorem dd_SL_equals_25 : decode cd_SL_equals 25 = .ok (.ireturn, 1) := by decide +kernel
theorem dd_SL_equals_26 : decode cd_SL_equals 26 = .ok (.iinc 2 1, 3) := by decide +kernel
theorem dd_SL_equals_29 : decode cd_SL_equals 29 = .ok (.goto (-20), 3) := by decide +kernel
theorem dd_SL_equals_32 : decode cd_SL_equals 32 = .ok (.iconst 1, 1) := by decide +kernel
theorem dd_SL_equals_33 : decode cd_SL_equals 33 = .ok (.ireturn, 1) := by decide +kernel
theorem dd_SL_equals_34 : decode cd_SL_equals 34 = .ok (.iconst 0, 1) := by decide +kernel
theorem dd_SL_equals_35 : decode cd_SL_equals 35 = .ok (.ireturn, 1) := by decide +kernel
theorem dd_ST_isEmpty_0 : decode cd_ST_isEmpty 0 = .ok (.aload_n 0, 1) := by decide +kernel
theorem dd_ST_isEmpty_1 : decode cd_ST_isEmpty 1 = .ok (.getfield 9, 3) := by decide +kernel
theorem dd_ST_isEmpty_4 : decode cd_ST_isEmpty 4 = .ok (.arraylength, 1) := by decide +kernel
theorem dd_ST_isEmpty_5 : decode cd_ST_isEmpty 5 = .ok (.ifCond .ne 7, 3) := by decide +kernel
theorem dd_ST_isEmpty_8 : decode cd_ST_isEmpty 8 = .ok (.iconst 1, 1) := by decide +kernel
theorem dd_ST_isEmpty_9 : decode cd_ST_isEmpty 9 = .ok (.goto 4, 3) := by decide +kernel
theorem dd_ST_isEmpty_12 : decode cd_ST_isEmpty 12 = .ok (.iconst 0, 1) := by decide +kernel
theorem dd_ST_isEmpty_13 : decode cd_ST_isEmpty 13 = .ok (.ireturn, 1) := by decide +kernel
theorem dd_ST_substring_0 : decode cd_ST_substring 0 = .ok (.aload_n 0, 1) := by decide +kernel
theorem dd_ST_substring_1 : decode cd_ST_substring 1 = .ok (.invokevirtual 505, 3) := by decide +kernel
theorem dd_ST_substring_4 : decode cd_ST_substring 4 = .ok (.istore_n 3, 1) := by decide +kernel
theorem dd_ST_substring_5 : decode cd_ST_substring 5 = .ok (.iload_n 1, 1) := by decide +kernel
theorem dd_ST_substring_6 : decode cd_ST_substring 6 = .ok (.iload_n 2, 1) := by decide +kernel
theorem dd_ST_substring_7 : decode cd_ST_substring 7 = .ok (.iload_n 3, 1) := by decide +kernel
theorem dd_ST_substring_8 : decode cd_ST_substring 8 = .ok (.invokestatic 521, 3) := by decide +kernel
theorem dd_ST_substring_11 : decode cd_ST_substring 11 = .ok (.iload_n 1, 1) := by decide +kernel
theorem dd_ST_substring_12 : decode cd_ST_substring 12 = .ok (.ifCond .ne 10, 3) := by decide +kernel
theorem dd_ST_substring_15 : decode cd_ST_substring 15 = .ok (.iload_n 2, 1) := by decide +kernel
theorem dd_ST_substring_16 : decode cd_ST_substring 16 = .ok (.iload_n 3, 1) := by decide +kernel
theorem dd_ST_substring_17 : decode cd_ST_substring 17 = .ok (.if_icmp .ne 5, 3) := by decide +kernel
theorem dd_ST_substring_20 : decode cd_ST_substring 20 = .ok (.aload_n 0, 1) := by decide +kernel
theorem dd_ST_substring_21 : decode cd_ST_substring 21 = .ok (.areturn, 1) := by decide +kernel
theorem dd_ST_substring_22 : decode cd_ST_substring 22 = .ok (.iload_n 2, 1) := by decide +kernel
theorem dd_ST_substring_23 : decode cd_ST_substring 23 = .ok (.iload_n 1, 1) := by decide +kernel
theorem dd_ST_substring_24 : decode cd_ST_substring 24 = .ok (.isub, 1) := by decide +kernel
theorem dd_ST_substring_25 : decode cd_ST_substring 25 = .ok (.istore 4, 2) := by decide +kernel
theorem dd_ST_substring_27 : decode cd_ST_substring 27 = .ok (.aload_n 0, 1) := by decide +kernel
theorem dd_ST_substring_28 : decode cd_ST_substring 28 = .ok (.invokevirtual 492, 3) := by decide +kernel
theorem dd_ST_substring_31 : decode cd_ST_substring 31 = .ok (.ifCond .eq 16, 3) := by decide +kernel
theorem dd_ST_substring_34 : decode cd_ST_substring 34 = .ok (.aload_n 0, 1) := by decide +kernel
theorem dd_ST_substring_35 : decode cd_ST_substring 35 = .ok (.getfield 9, 3) := by decide +kernel
theorem dd_ST_substring_38 : decode cd_ST_substring 38 = .ok (.iload_n 1, 1) := by decide +kernel
theorem dd_ST_substring_39 : decode cd_ST_substring 39 = .ok (.iload 4, 2) := by decide +kernel
theorem dd_ST_substring_41 : decode cd_ST_substring 41 = .ok (.invokestatic 685, 3) := by decide +kernel
theorem dd_ST_substring_44 : decode cd_ST_substring 44 = .ok (.goto 13, 3) := by decide +kernel
theorem dd_ST_substring_47 : decode cd_ST_substring 47 = .ok (.aload_n 0, 1) := by decide +kernel
theorem dd_ST_substring_48 : decode cd_ST_substring 48 = .ok (.getfield 9, 3) := by decide +kernel
theorem dd_ST_substring_51 : decode cd_ST_substring 51 = .ok (.iload_n 1, 1) := by decide +kernel
theorem dd_ST_substring_52 : decode cd_ST_substring 52 = .ok (.iload 4, 2) := by decide +kernel
theorem dd_ST_substring_54 : decode cd_ST_substring 54 = .ok (.invokestatic 689, 3) := by decide +kernel
theorem dd_ST_substring_57 : decode cd_ST_substring 57 = .ok (.areturn, 1) := by decide +kernel
theorem dd_ST_checkBoundsBeginEnd_0 : decode cd_ST_checkBoundsBeginEnd 0 = .ok (.iload_n 0, 1) := by decide +kernel
theorem dd_ST_checkBoundsBeginEnd_1 : decode cd_ST_checkBoundsBeginEnd 1 = .ok (.iload_n 1, 1) := by decide +kernel
theorem dd_ST_checkBoundsBeginEnd_2 : decode cd_ST_checkBoundsBeginEnd 2 = .ok (.iload_n 2, 1) := by decide +kernel
theorem dd_ST_checkBoundsBeginEnd_3 : decode cd_ST_checkBoundsBeginEnd 3 = .ok (.getstatic 1053, 3) := by decide +kernel
theorem dd_ST_checkBoundsBeginEnd_6 : decode cd_ST_checkBoundsBeginEnd 6 = .ok (.invokestatic 1062, 3) := by decide +kernel
theorem dd_ST_checkBoundsBeginEnd_9 : decode cd_ST_checkBoundsBeginEnd 9 = .ok (.pop, 1) := by decide +kernel
theorem dd_ST_checkBoundsBeginEnd_10 : decode cd_ST_checkBoundsBeginEnd 10 = .ok (.return_, 1) := by decide +kernel
theorem dd_SL_newString_0 : decode cd_SL_newString 0 = .ok (.iload_n 2, 1) := by decide +kernel
theorem dd_SL_newString_1 : decode cd_SL_newString 1 = .ok (.ifCond .ne 6, 3) := by decide +kernel
theorem dd_SL_newString_4 : decode cd_SL_newString 4 = .ok (.ldc 151, 2) := by decide +kernel
theorem dd_SL_newString_6 : decode cd_SL_newString 6 = .ok (.areturn, 1) := by decide +kernel
theorem dd_SL_newString_7 : decode cd_SL_newString 7 = .ok (.new 1, 3) := by decide +kernel
theorem dd_SL_newString_10 : decode cd_SL_newString 10 = .ok (.dup, 1) := by decide +kernel
theorem dd_SL_newString_11 : decode cd_SL_newString 11 = .ok (.aload_n 0, 1) := by decide +kernel
theorem dd_SL_newString_12 : decode cd_SL_newString 12 = .ok (.iload_n 1, 1) := by decide +kernel
theorem dd_SL_newString_13 : decode cd_SL_newString 13 = .ok (.iload_n 1, 1) := by decide +kernel
theorem dd_SL_newString_14 : decode cd_SL_newString 14 = .ok (.iload_n 2, 1) := by decide +kernel
theorem dd_SL_newString_15 : decode cd_SL_newString 15 = .ok (.iadd, 1) := by decide +kernel
theorem dd_SL_newString_16 : decode cd_SL_newString 16 = .ok (.invokestatic 232, 3) := by decide +kernel
theorem dd_SL_newString_19 : decode cd_SL_newString 19 = .ok (.iconst 0, 1) := by decide +kernel
theorem dd_SL_newString_20 : decode cd_SL_newString 20 = .ok (.invokespecial 112, 3) := by decide +kernel
theorem dd_SL_newString_23 : decode cd_SL_newString 23 = .ok (.areturn, 1) := by decide +kernel
theorem dd_ST_checkIndex_0 : decode cd_ST_checkIndex 0 = .ok (.iload_n 0, 1) := by decide +kernel
theorem dd_ST_checkIndex_1 : decode cd_ST_checkIndex 1 = .ok (.iload_n 1, 1) := by decide +kernel
theorem dd_ST_checkIndex_2 : decode cd_ST_checkIndex 2 = .ok (.getstatic 1053, 3) := by decide +kernel
theorem dd_ST_checkIndex_5 : decode cd_ST_checkIndex 5 = .ok (.invokestatic 1059, 3) := by decide +kernel
theorem dd_ST_checkIndex_8 : decode cd_ST_checkIndex 8 = .ok (.pop, 1) := by decide +kernel
theorem dd_ST_checkIndex_9 : decode cd_ST_checkIndex 9 = .ok (.return_, 1) := by decide +kernel
theorem dd_PC_checkIndex_0 : decode cd_PC_checkIndex 0 = .ok (.iload_n 0, 1) := by decide +kernel
theorem dd_PC_checkIndex_1 : decode cd_PC_checkIndex 1 = .ok (.ifCond .lt 8, 3) := by decide +kernel
theorem dd_PC_checkIndex_4 : decode cd_PC_checkIndex 4 = .ok (.iload_n 0, 1) := by decide +kernel
theorem dd_PC_checkIndex_5 : decode cd_PC_checkIndex 5 = .ok (.iload_n 1, 1) := by decide +kernel
theorem dd_PC_checkIndex_6 : decode cd_PC_checkIndex 6 = .ok (.if_icmp .lt 10, 3) := by decide +kernel
theorem dd_PC_checkIndex_9 : decode cd_PC_checkIndex 9 = .ok (.aload_n 2, 1) := by decide +kernel
theorem dd_PC_checkIndex_10 : decode cd_PC_checkIndex 10 = .ok (.iload_n 0, 1) := by decide +kernel
theorem dd_PC_checkIndex_11 : decode cd_PC_checkIndex 11 = .ok (.iload_n 1, 1) := by decide +kernel
theorem dd_PC_checkIndex_12 : decode cd_PC_checkIndex 12 = .ok (.invokestatic 95, 3) := by decide +kernel
theorem dd_PC_checkIndex_15 : decode cd_PC_checkIndex 15 = .ok (.athrow, 1) := by decide +kernel
theorem dd_PC_checkIndex_16 : decode cd_PC_checkIndex 16 = .ok (.iload_n 0, 1) := by decide +kernel
theorem dd_PC_checkIndex_17 : decode cd_PC_checkIndex 17 = .ok (.ireturn, 1) := by decide +kernel
theorem dd_PC_checkFromToIndex_0 : decode cd_PC_checkFromToIndex 0 = .ok (.iload_n 0, 1) := by decide +kernel
theorem dd_PC_checkFromToIndex_1 : decode cd_PC_checkFromToIndex 1 = .ok (.ifCond .lt 13, 3) := by decide +kernel
theorem dd_PC_checkFromToIndex_4 : decode cd_PC_checkFromToIndex 4 = .ok (.iload_n 0, 1) := by decide +kernel
theorem dd_PC_checkFromToIndex_5 : decode cd_PC_checkFromToIndex 5 = .ok (.iload_n 1, 1) := by decide +kernel
theorem dd_PC_checkFromToIndex_6 : decode cd_PC_checkFromToIndex 6 = .ok (.if_icmp .gt 8, 3) := by decide +kernel
theorem dd_PC_checkFromToIndex_9 : decode cd_PC_checkFromToIndex 9 = .ok (.iload_n 1, 1) := by decide +kernel
theorem dd_PC_checkFromToIndex_10 : decode cd_PC_checkFromToIndex 10 = .ok (.iload_n 2, 1) := by decide +kernel
theorem dd_PC_checkFromToIndex_11 : decode cd_PC_checkFromToIndex 11 = .ok (.if_icmp .le 11, 3) := by decide +kernel
theorem dd_PC_checkFromToIndex_14 : decode cd_PC_checkFromToIndex 14 = .ok (.aload_n 3, 1) := by decide +kernel
theorem dd_PC_checkFromToIndex_15 : decode cd_PC_checkFromToIndex 15 = .ok (.iload_n 0, 1) := by decide +kernel
theorem dd_PC_checkFromToIndex_16 : decode cd_PC_checkFromToIndex 16 = .ok (.iload_n 1, 1) := by decide +kernel
theorem dd_PC_checkFromToIndex_17 : decode cd_PC_checkFromToIndex 17 = .ok (.iload_n 2, 1) := by decide +kernel
theorem dd_PC_checkFromToIndex_18 : decode cd_PC_checkFromToIndex 18 = .ok (.invokestatic 99, 3) := by decide +kernel
theorem dd_PC_checkFromToIndex_21 : decode cd_PC_checkFromToIndex 21 = .ok (.athrow, 1) := by decide +kernel
theorem dd_PC_checkFromToIndex_22 : decode cd_PC_checkFromToIndex 22 = .ok (.iload_n 0, 1) := by decide +kernel
theorem dd_PC_checkFromToIndex_23 : decode cd_PC_checkFromToIndex 23 = .ok (.ireturn, 1) := by decide +kernel
theorem dd_OB_checkIndex_0 : decode cd_OB_checkIndex 0 = .ok (.iload_n 0, 1) := by decide +kernel
theorem dd_OB_checkIndex_1 : decode cd_OB_checkIndex 1 = .ok (.iload_n 1, 1) := by decide +kernel
theorem dd_OB_checkIndex_2 : decode cd_OB_checkIndex 2 = .ok (.aconst_null, 1) := by decide +kernel
theorem dd_OB_checkIndex_3 : decode cd_OB_checkIndex 3 = .ok (.invokestatic 105, 3) := by decide +kernel
theorem dd_OB_checkIndex_6 : decode cd_OB_checkIndex 6 = .ok (.ireturn, 1) := by decide +kernel
theorem dd_LO_lowestOneBit_0 : decode cd_LO_lowestOneBit 0 = .ok (.lload_n 0, 1) := by decide +kernel
theorem dd_LO_lowestOneBit_1 : decode cd_LO_lowestOneBit 1 = .ok (.lload_n 0, 1) := by decide +kernel
theorem dd_LO_lowestOneBit_2 : decode cd_LO_lowestOneBit 2 = .ok (.lneg, 1) := by decide +kernel
theorem dd_LO_lowestOneBit_3 : decode cd_LO_lowestOneBit 3 = .ok (.land, 1) := by decide +kernel
theorem dd_LO_lowestOneBit_4 : decode cd_LO_lowestOneBit 4 = .ok (.lreturn, 1) := by decide +kernel
theorem dd_AL_init_0 : decode cd_AL_init 0 = .ok (.aload_n 0, 1) := by decide +kernel
theorem dd_AL_init_1 : decode cd_AL_init 1 = .ok (.invokespecial 1, 3) := by decide +kernel
theorem dd_AL_init_4 : decode cd_AL_init 4 = .ok (.aload_n 0, 1) := by decide +kernel
theorem dd_AL_init_5 : decode cd_AL_init 5 = .ok (.getstatic 39, 3) := by decide +kernel
theorem dd_AL_init_8 : decode cd_AL_init 8 = .ok (.putfield 9, 3) := by decide +kernel
theorem dd_AL_init_11 : decode cd_AL_init 11 = .ok (.return_, 1) := by decide +kernel
theorem dd_AL_add0_0 : decode cd_AL_add0 0 = .ok (.aload_n 0, 1) := by decide +kernel
theorem dd_AL_add0_1 : decode cd_AL_add0 1 = .ok (.dup, 1) := by decide +kernel
theorem dd_AL_add0_2 : decode cd_AL_add0 2 = .ok (.getfield 63, 3) := by decide +kernel
theorem dd_AL_add0_5 : decode cd_AL_add0 5 = .ok (.iconst 1, 1) := by decide +kernel
theorem dd_AL_add0_6 : decode cd_AL_add0 6 = .ok (.iadd, 1) := by decide +kernel
theorem dd_AL_add0_7 : decode cd_AL_add0 7 = .ok (.putfield 63, 3) := by decide +kernel
theorem dd_AL_add0_10 : decode cd_AL_add0 10 = .ok (.aload_n 0, 1) := by decide +kernel
theorem dd_AL_add0_11 : decode cd_AL_add0 11 = .ok (.aload_n 1, 1) := by decide +kernel
theorem dd_AL_add0_12 : decode cd_AL_add0 12 = .ok (.aload_n 0, 1) := by decide +kernel
theorem dd_AL_add0_13 : decode cd_AL_add0 13 = .ok (.getfield 9, 3) := by decide +kernel
theorem dd_AL_add0_16 : decode cd_AL_add0 16 = .ok (.aload_n 0, 1) := by decide +kernel
theorem dd_AL_add0_17 : decode cd_AL_add0 17 = .ok (.getfield 48, 3) := by decide +kernel
theorem dd_AL_add0_20 : decode cd_AL_add0 20 = .ok (.invokevirtual 131, 3) := by decide +kernel
theorem dd_AL_add0_23 : decode cd_AL_add0 23 = .ok (.iconst 1, 1) := by decide +kernel
theorem dd_AL_add0_24 : decode cd_AL_add0 24 = .ok (.ireturn, 1) := by decide +kernel
theorem dd_AL_add1_0 : decode cd_AL_add1 0 = .ok (.iload_n 3, 1) := by decide +kernel
theorem dd_AL_add1_1 : decode cd_AL_add1 1 = .ok (.aload_n 2, 1) := by decide +kernel
theorem dd_AL_add1_2 : decode cd_AL_add1 2 = .ok (.arraylength, 1) := by decide +kernel
theorem dd_AL_add1_3 : decode cd_AL_add1 3 = .ok (.if_icmp .ne 8, 3) := by decide +kernel
theorem dd_AL_add1_6 : decode cd_AL_add1 6 = .ok (.aload_n 0, 1) := by decide +kernel
theorem dd_AL_add1_7 : decode cd_AL_add1 7 = .ok (.invokevirtual 129, 3) := by decide +kernel
theorem dd_AL_add1_10 : decode cd_AL_add1 10 = .ok (.astore_n 2, 1) := by decide +kernel
theorem dd_AL_add1_11 : decode cd_AL_add1 11 = .ok (.aload_n 2, 1) := by decide +kernel
theorem dd_AL_add1_12 : decode cd_AL_add1 12 = .ok (.iload_n 3, 1) := by decide +kernel
theorem dd_AL_add1_13 : decode cd_AL_add1 13 = .ok (.aload_n 1, 1) := by decide +kernel
theorem dd_AL_add1_14 : decode cd_AL_add1 14 = .ok (.aastore, 1) := by decide +kernel
theorem dd_AL_add1_15 : decode cd_AL_add1 15 = .ok (.aload_n 0, 1) := by decide +kernel
theorem dd_AL_add1_16 : decode cd_AL_add1 16 = .ok (.iload_n 3, 1) := by decide +kernel
theorem dd_AL_add1_17 : decode cd_AL_add1 17 = .ok (.iconst 1, 1) := by decide +kernel
theorem dd_AL_add1_18 : decode cd_AL_add1 18 = .ok (.iadd, 1) := by decide +kernel
theorem dd_AL_add1_19 : decode cd_AL_add1 19 = .ok (.putfield 48, 3) := by decide +kernel
theorem dd_AL_add1_22 : decode cd_AL_add1 22 = .ok (.return_, 1) := by decide +kernel
theorem dd_AL_grow0_0 : decode cd_AL_grow0 0 = .ok (.aload_n 0, 1) := by decide +kernel
theorem dd_AL_grow0_1 : decode cd_AL_grow0 1 = .ok (.aload_n 0, 1) := by decide +kernel
theorem dd_AL_grow0_2 : decode cd_AL_grow0 2 = .ok (.getfield 48, 3) := by decide +kernel
theorem dd_AL_grow0_5 : decode cd_AL_grow0 5 = .ok (.iconst 1, 1) := by decide +kernel
theorem dd_AL_grow0_6 : decode cd_AL_grow0 6 = .ok (.iadd, 1) := by decide +kernel
theorem dd_AL_grow0_7 : decode cd_AL_grow0 7 = .ok (.invokevirtual 69, 3) := by decide +kernel
theorem dd_AL_grow0_10 : decode cd_AL_grow0 10 = .ok (.areturn, 1) := by decide +kernel
theorem dd_AL_grow1_0 : decode cd_AL_grow1 0 = .ok (.aload_n 0, 1) := by decide +kernel
theorem dd_AL_grow1_1 : decode cd_AL_grow1 1 = .ok (.getfield 9, 3) := by decide +kernel
theorem dd_AL_grow1_4 : decode cd_AL_grow1 4 = .ok (.arraylength, 1) := by decide +kernel
theorem dd_AL_grow1_5 : decode cd_AL_grow1 5 = .ok (.istore_n 2, 1) := by decide +kernel
theorem dd_AL_grow1_6 : decode cd_AL_grow1 6 = .ok (.iload_n 2, 1) := by decide +kernel
theorem dd_AL_grow1_7 : decode cd_AL_grow1 7 = .ok (.ifCond .gt 13, 3) := by decide +kernel
theorem dd_AL_grow1_10 : decode cd_AL_grow1 10 = .ok (.aload_n 0, 1) := by decide +kernel
theorem dd_AL_grow1_11 : decode cd_AL_grow1 11 = .ok (.getfield 9, 3) := by decide +kernel
theorem dd_AL_grow1_14 : decode cd_AL_grow1 14 = .ok (.getstatic 39, 3) := by decide +kernel
theorem dd_AL_grow1_17 : decode cd_AL_grow1 17 = .ok (.if_acmp .eq 28, 3) := by decide +kernel
theorem dd_AL_grow1_20 : decode cd_AL_grow1 20 = .ok (.iload_n 2, 1) := by decide +kernel
theorem dd_AL_grow1_21 : decode cd_AL_grow1 21 = .ok (.iload_n 1, 1) := by decide +kernel
theorem dd_AL_grow1_22 : decode cd_AL_grow1 22 = .ok (.iload_n 2, 1) := by decide +kernel
theorem dd_AL_grow1_23 : decode cd_AL_grow1 23 = .ok (.isub, 1) := by decide +kernel
theorem dd_AL_grow1_24 : decode cd_AL_grow1 24 = .ok (.iload_n 2, 1) := by decide +kernel
theorem dd_AL_grow1_25 : decode cd_AL_grow1 25 = .ok (.iconst 1, 1) := by decide +kernel
theorem dd_AL_grow1_26 : decode cd_AL_grow1 26 = .ok (.ishr, 1) := by decide +kernel
theorem dd_AL_grow1_27 : decode cd_AL_grow1 27 = .ok (.invokestatic 73, 3) := by decide +kernel
theorem dd_AL_grow1_30 : decode cd_AL_grow1 30 = .ok (.istore_n 3, 1) := by decide +kernel
theorem dd_AL_grow1_31 : decode cd_AL_grow1 31 = .ok (.aload_n 0, 1) := by decide +kernel
theorem dd_AL_grow1_32 : decode cd_AL_grow1 32 = .ok (.aload_n 0, 1) := by decide +kernel
theorem dd_AL_grow1_33 : decode cd_AL_grow1 33 = .ok (.getfield 9, 3) := by decide +kernel
theorem dd_AL_grow1_36 : decode cd_AL_grow1 36 = .ok (.iload_n 3, 1) := by decide +kernel
theorem dd_AL_grow1_37 : decode cd_AL_grow1 37 = .ok (.invokestatic 66, 3) := by decide +kernel
theorem dd_AL_grow1_40 : decode cd_AL_grow1 40 = .ok (.dup_x1, 1) := by decide +kernel
theorem dd_AL_grow1_41 : decode cd_AL_grow1 41 = .ok (.putfield 9, 3) := by decide +kernel
theorem dd_AL_grow1_44 : decode cd_AL_grow1 44 = .ok (.areturn, 1) := by decide +kernel
theorem dd_AL_grow1_45 : decode cd_AL_grow1 45 = .ok (.aload_n 0, 1) := by decide +kernel
theorem dd_AL_grow1_46 : decode cd_AL_grow1 46 = .ok (.bipush 10, 2) := by decide +kernel
theorem dd_AL_grow1_48 : decode cd_AL_grow1 48 = .ok (.iload_n 1, 1) := by decide +kernel
theorem dd_AL_grow1_49 : decode cd_AL_grow1 49 = .ok (.invokestatic 79, 3) := by decide +kernel
theorem dd_AL_grow1_52 : decode cd_AL_grow1 52 = .ok (.anewarray 7, 3) := by decide +kernel
theorem dd_AL_grow1_55 : decode cd_AL_grow1 55 = .ok (.dup_x1, 1) := by decide +kernel
theorem dd_AL_grow1_56 : decode cd_AL_grow1 56 = .ok (.putfield 9, 3) := by decide +kernel
theorem dd_AL_grow1_59 : decode cd_AL_grow1 59 = .ok (.areturn, 1) := by decide +kernel
theorem dd_AL_get_0 : decode cd_AL_get 0 = .ok (.iload_n 1, 1) := by decide +kernel
theorem dd_AL_get_1 : decode cd_AL_get 1 = .ok (.aload_n 0, 1) := by decide +kernel
theorem dd_AL_get_2 : decode cd_AL_get 2 = .ok (.getfield 48, 3) := by decide +kernel
theorem dd_AL_get_5 : decode cd_AL_get 5 = .ok (.invokestatic 118, 3) := by decide +kernel
theorem dd_AL_get_8 : decode cd_AL_get 8 = .ok (.pop, 1) := by decide +kernel
theorem dd_AL_get_9 : decode cd_AL_get 9 = .ok (.aload_n 0, 1) := by decide +kernel
theorem dd_AL_get_10 : decode cd_AL_get 10 = .ok (.iload_n 1, 1) := by decide +kernel
theorem dd_AL_get_11 : decode cd_AL_get 11 = .ok (.invokevirtual 123, 3) := by decide +kernel
theorem dd_AL_get_14 : decode cd_AL_get 14 = .ok (.areturn, 1) := by decide +kernel
theorem dd_AL_elementData_0 : decode cd_AL_elementData 0 = .ok (.aload_n 0, 1) := by decide +kernel
theorem dd_AL_elementData_1 : decode cd_AL_elementData 1 = .ok (.getfield 9, 3) := by decide +kernel
theorem dd_AL_elementData_4 : decode cd_AL_elementData 4 = .ok (.iload_n 1, 1) := by decide +kernel
theorem dd_AL_elementData_5 : decode cd_AL_elementData 5 = .ok (.aaload, 1) := by decide +kernel
theorem dd_AL_elementData_6 : decode cd_AL_elementData 6 = .ok (.areturn, 1) := by decide +kernel
theorem dd_AL_remove_0 : decode cd_AL_remove 0 = .ok (.iload_n 1, 1) := by decide +kernel
theorem dd_AL_remove_1 : decode cd_AL_remove 1 = .ok (.aload_n 0, 1) := by decide +kernel
theorem dd_AL_remove_2 : decode cd_AL_remove 2 = .ok (.getfield 48, 3) := by decide +kernel
theorem dd_AL_remove_5 : decode cd_AL_remove 5 = .ok (.invokestatic 118, 3) := by decide +kernel
theorem dd_AL_remove_8 : decode cd_AL_remove 8 = .ok (.pop, 1) := by decide +kernel
theorem dd_AL_remove_9 : decode cd_AL_remove 9 = .ok (.aload_n 0, 1) := by decide +kernel
theorem dd_AL_remove_10 : decode cd_AL_remove 10 = .ok (.getfield 9, 3) := by decide +kernel
theorem dd_AL_remove_13 : decode cd_AL_remove 13 = .ok (.astore_n 2, 1) := by decide +kernel
theorem dd_AL_remove_14 : decode cd_AL_remove 14 = .ok (.aload_n 2, 1) := by decide +kernel
theorem dd_AL_remove_15 : decode cd_AL_remove 15 = .ok (.iload_n 1, 1) := by decide +kernel
theorem dd_AL_remove_16 : decode cd_AL_remove 16 = .ok (.aaload, 1) := by decide +kernel
theorem dd_AL_remove_17 : decode cd_AL_remove 17 = .ok (.astore_n 3, 1) := by decide +kernel
theorem dd_AL_remove_18 : decode cd_AL_remove 18 = .ok (.aload_n 0, 1) := by decide +kernel
theorem dd_AL_remove_19 : decode cd_AL_remove 19 = .ok (.aload_n 2, 1) := by decide +kernel
theorem dd_AL_remove_20 : decode cd_AL_remove 20 = .ok (.iload_n 1, 1) := by decide +kernel
theorem dd_AL_remove_21 : decode cd_AL_remove 21 = .ok (.invokevirtual 144, 3) := by decide +kernel
theorem dd_AL_remove_24 : decode cd_AL_remove 24 = .ok (.aload_n 3, 1) := by decide +kernel
theorem dd_AL_remove_25 : decode cd_AL_remove 25 = .ok (.areturn, 1) := by decide +kernel
theorem dd_AL_fastRemove_0 : decode cd_AL_fastRemove 0 = .ok (.aload_n 0, 1) := by decide +kernel
theorem dd_AL_fastRemove_1 : decode cd_AL_fastRemove 1 = .ok (.dup, 1) := by decide +kernel
theorem dd_AL_fastRemove_2 : decode cd_AL_fastRemove 2 = .ok (.getfield 63, 3) := by decide +kernel
theorem dd_AL_fastRemove_5 : decode cd_AL_fastRemove 5 = .ok (.iconst 1, 1) := by decide +kernel
theorem dd_AL_fastRemove_6 : decode cd_AL_fastRemove 6 = .ok (.iadd, 1) := by decide +kernel
theorem dd_AL_fastRemove_7 : decode cd_AL_fastRemove 7 = .ok (.putfield 63, 3) := by decide +kernel
theorem dd_AL_fastRemove_10 : decode cd_AL_fastRemove 10 = .ok (.aload_n 0, 1) := by decide +kernel
theorem dd_AL_fastRemove_11 : decode cd_AL_fastRemove 11 = .ok (.getfield 48, 3) := by decide +kernel
theorem dd_AL_fastRemove_14 : decode cd_AL_fastRemove 14 = .ok (.iconst 1, 1) := by decide +kernel
theorem dd_AL_fastRemove_15 : decode cd_AL_fastRemove 15 = .ok (.isub, 1) := by decide +kernel
theorem dd_AL_fastRemove_16 : decode cd_AL_fastRemove 16 = .ok (.dup, 1) := by decide +kernel
theorem dd_AL_fastRemove_17 : decode cd_AL_fastRemove 17 = .ok (.istore_n 3, 1) := by decide +kernel
theorem dd_AL_fastRemove_18 : decode cd_AL_fastRemove 18 = .ok (.iload_n 2, 1) := by decide +kernel
theorem dd_AL_fastRemove_19 : decode cd_AL_fastRemove 19 = .ok (.if_icmp .le 15, 3) := by decide +kernel
theorem dd_AL_fastRemove_22 : decode cd_AL_fastRemove 22 = .ok (.aload_n 1, 1) := by decide +kernel
theorem dd_AL_fastRemove_23 : decode cd_AL_fastRemove 23 = .ok (.iload_n 2, 1) := by decide +kernel
theorem dd_AL_fastRemove_24 : decode cd_AL_fastRemove 24 = .ok (.iconst 1, 1) := by decide +kernel
theorem dd_AL_fastRemove_25 : decode cd_AL_fastRemove 25 = .ok (.iadd, 1) := by decide +kernel
theorem dd_AL_fastRemove_26 : decode cd_AL_fastRemove 26 = .ok (.aload_n 1, 1) := by decide +kernel
theorem dd_AL_fastRemove_27 : decode cd_AL_fastRemove 27 = .ok (.iload_n 2, 1) := by decide +kernel
theorem dd_AL_fastRemove_28 : decode cd_AL_fastRemove 28 = .ok (.iload_n 3, 1) := by decide +kernel
theorem dd_AL_fastRemove_29 : decode cd_AL_fastRemove 29 = .ok (.iload_n 2, 1) := by decide +kernel
theorem dd_AL_fastRemove_30 : decode cd_AL_fastRemove 30 = .ok (.isub, 1) := by decide +kernel
theorem dd_AL_fastRemove_31 : decode cd_AL_fastRemove 31 = .ok (.invokestatic 112, 3) := by decide +kernel
theorem dd_AL_fastRemove_34 : decode cd_AL_fastRemove 34 = .ok (.aload_n 1, 1) := by decide +kernel
theorem dd_AL_fastRemove_35 : decode cd_AL_fastRemove 35 = .ok (.aload_n 0, 1) := by decide +kernel
theorem dd_AL_fastRemove_36 : decode cd_AL_fastRemove 36 = .ok (.iload_n 3, 1) := by decide +kernel
theorem dd_AL_fastRemove_37 : decode cd_AL_fastRemove 37 = .ok (.dup_x1, 1) := by decide +kernel
theorem dd_AL_fastRemove_38 : decode cd_AL_fastRemove 38 = .ok (.putfield 48, 3) := by decide +kernel
theorem dd_AL_fastRemove_41 : decode cd_AL_fastRemove 41 = .ok (.aconst_null, 1) := by decide +kernel
theorem dd_AL_fastRemove_42 : decode cd_AL_fastRemove 42 = .ok (.aastore, 1) := by decide +kernel
theorem dd_AL_fastRemove_43 : decode cd_AL_fastRemove 43 = .ok (.return_, 1) := by decide +kernel
theorem dd_AL_size_0 : decode cd_AL_size 0 = .ok (.aload_n 0, 1) := by decide +kernel
theorem dd_AL_size_1 : decode cd_AL_size 1 = .ok (.getfield 48, 3) := by decide +kernel
theorem dd_AL_size_4 : decode cd_AL_size 4 = .ok (.ireturn, 1) := by decide +kernel
theorem dd_AL_clear_0 : decode cd_AL_clear 0 = .ok (.aload_n 0, 1) := by decide +kernel
theorem dd_AL_clear_1 : decode cd_AL_clear 1 = .ok (.dup, 1) := by decide +kernel
theorem dd_AL_clear_2 : decode cd_AL_clear 2 = .ok (.getfield 63, 3) := by decide +kernel
theorem dd_AL_clear_5 : decode cd_AL_clear 5 = .ok (.iconst 1, 1) := by decide +kernel
theorem dd_AL_clear_6 : decode cd_AL_clear 6 = .ok (.iadd, 1) := by decide +kernel
theorem dd_AL_clear_7 : decode cd_AL_clear 7 = .ok (.putfield 63, 3) := by decide +kernel
theorem dd_AL_clear_10 : decode cd_AL_clear 10 = .ok (.aload_n 0, 1) := by decide +kernel
theorem dd_AL_clear_11 : decode cd_AL_clear 11 = .ok (.getfield 9, 3) := by decide +kernel
theorem dd_AL_clear_14 : decode cd_AL_clear 14 = .ok (.astore_n 1, 1) := by decide +kernel
theorem dd_AL_clear_15 : decode cd_AL_clear 15 = .ok (.aload_n 0, 1) := by decide +kernel
theorem dd_AL_clear_16 : decode cd_AL_clear 16 = .ok (.getfield 48, 3) := by decide +kernel
theorem dd_AL_clear_19 : decode cd_AL_clear 19 = .ok (.istore_n 2, 1) := by decide +kernel
theorem dd_AL_clear_20 : decode cd_AL_clear 20 = .ok (.aload_n 0, 1) := by decide +kernel
theorem dd_AL_clear_21 : decode cd_AL_clear 21 = .ok (.iconst 0, 1) := by decide +kernel
theorem dd_AL_clear_22 : decode cd_AL_clear 22 = .ok (.dup_x1, 1) := by decide +kernel
theorem dd_AL_clear_23 : decode cd_AL_clear 23 = .ok (.putfield 48, 3) := by decide +kernel
theorem dd_AL_clear_26 : decode cd_AL_clear 26 = .ok (.istore_n 3, 1) := by decide +kernel
theorem dd_AL_clear_27 : decode cd_AL_clear 27 = .ok (.iload_n 3, 1) := by decide +kernel
theorem dd_AL_clear_28 : decode cd_AL_clear 28 = .ok (.iload_n 2, 1) := by decide +kernel
theorem dd_AL_clear_29 : decode cd_AL_clear 29 = .ok (.if_icmp .ge 13, 3) := by decide +kernel
theorem dd_AL_clear_32 : decode cd_AL_clear 32 = .ok (.aload_n 1, 1) := by decide +kernel
theorem dd_AL_clear_33 : decode cd_AL_clear 33 = .ok (.iload_n 3, 1) := by decide +kernel
theorem dd_AL_clear_34 : decode cd_AL_clear 34 = .ok (.aconst_null, 1) := by decide +kernel
theorem dd_AL_clear_35 : decode cd_AL_clear 35 = .ok (.aastore, 1) := by decide +kernel
theorem dd_AL_clear_36 : decode cd_AL_clear 36 = .ok (.iinc 3 1, 3) := by decide +kernel
theorem dd_AL_clear_39 : decode cd_AL_clear 39 = .ok (.goto (-12), 3) := by decide +kernel
theorem dd_AL_clear_42 : decode cd_AL_clear 42 = .ok (.return_, 1) := by decide +kernel
theorem dd_AA_init_0 : decode cd_AA_init 0 = .ok (.aload_n 0, 1) := by decide +kernel
theorem dd_AA_init_1 : decode cd_AA_init 1 = .ok (.invokespecial 1, 3) := by decide +kernel
theorem dd_AA_init_4 : decode cd_AA_init 4 = .ok (.aload_n 0, 1) := by decide +kernel
theorem dd_AA_init_5 : decode cd_AA_init 5 = .ok (.iconst 0, 1) := by decide +kernel
theorem dd_AA_init_6 : decode cd_AA_init 6 = .ok (.putfield 7, 3) := by decide +kernel
theorem dd_AA_init_9 : decode cd_AA_init 9 = .ok (.return_, 1) := by decide +kernel
theorem dd_AC_init_0 : decode cd_AC_init 0 = .ok (.aload_n 0, 1) := by decide +kernel
theorem dd_AC_init_1 : decode cd_AC_init 1 = .ok (.invokespecial 1, 3) := by decide +kernel
theorem dd_AC_init_4 : decode cd_AC_init 4 = .ok (.return_, 1) := by decide +kernel
