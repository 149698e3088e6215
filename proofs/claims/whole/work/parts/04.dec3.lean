/-! printed (gen/names.py): what the codes decode to -/
theorem dd_RD_isMet_0 : decode cd_RD_isMet 0 = .ok (.iload_n 1, 1) := by decide +kernel
theorem dd_RD_isMet_1 : decode cd_RD_isMet 1 = .ok (.tableswitch 53 0 2 #[27, 39, 41], 27) := by decide +kernel
theorem dd_RD_isMet_28 : decode cd_RD_isMet 28 = .ok (.aload_n 2, 1) := by decide +kernel
theorem dd_RD_isMet_29 : decode cd_RD_isMet 29 = .ok (.aload_n 0, 1) := by decide +kernel
theorem dd_RD_isMet_30 : decode cd_RD_isMet 30 = .ok (.getfield 36, 3) := by decide +kernel
theorem dd_RD_isMet_33 : decode cd_RD_isMet 33 = .ok (.getfield 206, 3) := by decide +kernel
theorem dd_RD_isMet_36 : decode cd_RD_isMet 36 = .ok (.invokevirtual 219, 3) := by decide +kernel
theorem dd_RD_isMet_39 : decode cd_RD_isMet 39 = .ok (.ireturn, 1) := by decide +kernel
theorem dd_RD_isMet_40 : decode cd_RD_isMet 40 = .ok (.iconst 1, 1) := by decide +kernel
theorem dd_RD_isMet_41 : decode cd_RD_isMet 41 = .ok (.ireturn, 1) := by decide +kernel
theorem dd_RD_isMet_42 : decode cd_RD_isMet 42 = .ok (.aload_n 2, 1) := by decide +kernel
theorem dd_RD_isMet_43 : decode cd_RD_isMet 43 = .ok (.aload_n 0, 1) := by decide +kernel
theorem dd_RD_isMet_44 : decode cd_RD_isMet 44 = .ok (.getfield 36, 3) := by decide +kernel
theorem dd_RD_isMet_47 : decode cd_RD_isMet 47 = .ok (.getfield 206, 3) := by decide +kernel
theorem dd_RD_isMet_50 : decode cd_RD_isMet 50 = .ok (.invokestatic 235, 3) := by decide +kernel
theorem dd_RD_isMet_53 : decode cd_RD_isMet 53 = .ok (.ireturn, 1) := by decide +kernel
theorem dd_RD_isMet_54 : decode cd_RD_isMet 54 = .ok (.aload_n 2, 1) := by decide +kernel
theorem dd_RD_isMet_55 : decode cd_RD_isMet 55 = .ok (.aload_n 0, 1) := by decide +kernel
theorem dd_RD_isMet_56 : decode cd_RD_isMet 56 = .ok (.getfield 36, 3) := by decide +kernel
theorem dd_RD_isMet_59 : decode cd_RD_isMet 59 = .ok (.invokestatic 238, 3) := by decide +kernel
theorem dd_RD_isMet_62 : decode cd_RD_isMet 62 = .ok (.ireturn, 1) := by decide +kernel
theorem dd_PT_isLike_0 : decode cd_PT_isLike 0 = .ok (.lconst 1, 1) := by decide +kernel
theorem dd_PT_isLike_1 : decode cd_PT_isLike 1 = .ok (.lstore_n 2, 1) := by decide +kernel
theorem dd_PT_isLike_2 : decode cd_PT_isLike 2 = .ok (.iconst 0, 1) := by decide +kernel
theorem dd_PT_isLike_3 : decode cd_PT_isLike 3 = .ok (.istore 4, 2) := by decide +kernel
theorem dd_PT_isLike_5 : decode cd_PT_isLike 5 = .ok (.iconst 0, 1) := by decide +kernel
theorem dd_PT_isLike_6 : decode cd_PT_isLike 6 = .ok (.istore 5, 2) := by decide +kernel
theorem dd_PT_isLike_8 : decode cd_PT_isLike 8 = .ok (.iload 5, 2) := by decide +kernel
theorem dd_PT_isLike_10 : decode cd_PT_isLike 10 = .ok (.aload_n 0, 1) := by decide +kernel
theorem dd_PT_isLike_11 : decode cd_PT_isLike 11 = .ok (.invokevirtual 7, 3) := by decide +kernel
theorem dd_PT_isLike_14 : decode cd_PT_isLike 14 = .ok (.if_icmp .gt 63, 3) := by decide +kernel
theorem dd_PT_isLike_17 : decode cd_PT_isLike 17 = .ok (.lload_n 2, 1) := by decide +kernel
theorem dd_PT_isLike_18 : decode cd_PT_isLike 18 = .ok (.lconst 0, 1) := by decide +kernel
theorem dd_PT_isLike_19 : decode cd_PT_isLike 19 = .ok (.lcmp, 1) := by decide +kernel
theorem dd_PT_isLike_20 : decode cd_PT_isLike 20 = .ok (.ifCond .eq 57, 3) := by decide +kernel
theorem dd_PT_isLike_23 : decode cd_PT_isLike 23 = .ok (.aload_n 0, 1) := by decide +kernel
theorem dd_PT_isLike_24 : decode cd_PT_isLike 24 = .ok (.iload 5, 2) := by decide +kernel
theorem dd_PT_isLike_26 : decode cd_PT_isLike 26 = .ok (.bipush 46, 2) := by decide +kernel
theorem dd_PT_isLike_28 : decode cd_PT_isLike 28 = .ok (.invokestatic 15, 3) := by decide +kernel
theorem dd_PT_isLike_31 : decode cd_PT_isLike 31 = .ok (.ifCond .eq 40, 3) := by decide +kernel
theorem dd_PT_isLike_34 : decode cd_PT_isLike 34 = .ok (.aload_n 0, 1) := by decide +kernel
theorem dd_PT_isLike_35 : decode cd_PT_isLike 35 = .ok (.iload 4, 2) := by decide +kernel
theorem dd_PT_isLike_37 : decode cd_PT_isLike 37 = .ok (.iload 5, 2) := by decide +kernel
theorem dd_PT_isLike_39 : decode cd_PT_isLike 39 = .ok (.bipush 35, 2) := by decide +kernel
theorem dd_PT_isLike_41 : decode cd_PT_isLike 41 = .ok (.invokestatic 25, 3) := by decide +kernel
theorem dd_PT_isLike_44 : decode cd_PT_isLike 44 = .ok (.ifCond .eq 10, 3) := by decide +kernel
theorem dd_PT_isLike_47 : decode cd_PT_isLike 47 = .ok (.lload_n 2, 1) := by decide +kernel
theorem dd_PT_isLike_48 : decode cd_PT_isLike 48 = .ok (.invokestatic 29, 3) := by decide +kernel
theorem dd_PT_isLike_51 : decode cd_PT_isLike 51 = .ok (.goto 13, 3) := by decide +kernel
theorem dd_PT_isLike_54 : decode cd_PT_isLike 54 = .ok (.lload_n 2, 1) := by decide +kernel
theorem dd_PT_isLike_55 : decode cd_PT_isLike 55 = .ok (.aload_n 0, 1) := by decide +kernel
theorem dd_PT_isLike_56 : decode cd_PT_isLike 56 = .ok (.iload 4, 2) := by decide +kernel
theorem dd_PT_isLike_58 : decode cd_PT_isLike 58 = .ok (.iload 5, 2) := by decide +kernel
theorem dd_PT_isLike_60 : decode cd_PT_isLike 60 = .ok (.aload_n 1, 1) := by decide +kernel
theorem dd_PT_isLike_61 : decode cd_PT_isLike 61 = .ok (.invokestatic 33, 3) := by decide +kernel
theorem dd_PT_isLike_64 : decode cd_PT_isLike 64 = .ok (.lstore_n 2, 1) := by decide +kernel
theorem dd_PT_isLike_65 : decode cd_PT_isLike 65 = .ok (.iload 5, 2) := by decide +kernel
theorem dd_PT_isLike_67 : decode cd_PT_isLike 67 = .ok (.iconst 1, 1) := by decide +kernel
theorem dd_PT_isLike_68 : decode cd_PT_isLike 68 = .ok (.iadd, 1) := by decide +kernel
theorem dd_PT_isLike_69 : decode cd_PT_isLike 69 = .ok (.istore 4, 2) := by decide +kernel
theorem dd_PT_isLike_71 : decode cd_PT_isLike 71 = .ok (.iinc 5 1, 3) := by decide +kernel
theorem dd_PT_isLike_74 : decode cd_PT_isLike 74 = .ok (.goto (-66), 3) := by decide +kernel
theorem dd_PT_isLike_77 : decode cd_PT_isLike 77 = .ok (.lload_n 2, 1) := by decide +kernel
theorem dd_PT_isLike_78 : decode cd_PT_isLike 78 = .ok (.aload_n 1, 1) := by decide +kernel
theorem dd_PT_isLike_79 : decode cd_PT_isLike 79 = .ok (.invokestatic 37, 3) := by decide +kernel
theorem dd_PT_isLike_82 : decode cd_PT_isLike 82 = .ok (.lushr, 1) := by decide +kernel
theorem dd_PT_isLike_83 : decode cd_PT_isLike 83 = .ok (.lconst 1, 1) := by decide +kernel
theorem dd_PT_isLike_84 : decode cd_PT_isLike 84 = .ok (.land, 1) := by decide +kernel
theorem dd_PT_isLike_85 : decode cd_PT_isLike 85 = .ok (.lconst 0, 1) := by decide +kernel
theorem dd_PT_isLike_86 : decode cd_PT_isLike 86 = .ok (.lcmp, 1) := by decide +kernel
theorem dd_PT_isLike_87 : decode cd_PT_isLike 87 = .ok (.ifCond .eq 7, 3) := by decide +kernel
theorem dd_PT_isLike_90 : decode cd_PT_isLike 90 = .ok (.iconst 1, 1) := by decide +kernel
theorem dd_PT_isLike_91 : decode cd_PT_isLike 91 = .ok (.goto 4, 3) := by decide +kernel
theorem dd_PT_isLike_94 : decode cd_PT_isLike 94 = .ok (.iconst 0, 1) := by decide +kernel
theorem dd_PT_isLike_95 : decode cd_PT_isLike 95 = .ok (.ireturn, 1) := by decide +kernel
theorem dd_PT_isJust_0 : decode cd_PT_isJust 0 = .ok (.iload_n 2, 1) := by decide +kernel
theorem dd_PT_isJust_1 : decode cd_PT_isJust 1 = .ok (.iload_n 1, 1) := by decide +kernel
theorem dd_PT_isJust_2 : decode cd_PT_isJust 2 = .ok (.isub, 1) := by decide +kernel
theorem dd_PT_isJust_3 : decode cd_PT_isJust 3 = .ok (.iconst 1, 1) := by decide +kernel
theorem dd_PT_isJust_4 : decode cd_PT_isJust 4 = .ok (.if_icmp .ne 16, 3) := by decide +kernel
theorem dd_PT_isJust_7 : decode cd_PT_isJust 7 = .ok (.aload_n 0, 1) := by decide +kernel
theorem dd_PT_isJust_8 : decode cd_PT_isJust 8 = .ok (.iload_n 1, 1) := by decide +kernel
theorem dd_PT_isJust_9 : decode cd_PT_isJust 9 = .ok (.invokevirtual 50, 3) := by decide +kernel
theorem dd_PT_isJust_12 : decode cd_PT_isJust 12 = .ok (.iload_n 3, 1) := by decide +kernel
theorem dd_PT_isJust_13 : decode cd_PT_isJust 13 = .ok (.if_icmp .ne 7, 3) := by decide +kernel
theorem dd_PT_isJust_16 : decode cd_PT_isJust 16 = .ok (.iconst 1, 1) := by decide +kernel
theorem dd_PT_isJust_17 : decode cd_PT_isJust 17 = .ok (.goto 4, 3) := by decide +kernel
theorem dd_PT_isJust_20 : decode cd_PT_isJust 20 = .ok (.iconst 0, 1) := by decide +kernel
theorem dd_PT_isJust_21 : decode cd_PT_isJust 21 = .ok (.ireturn, 1) := by decide +kernel
theorem dd_PT_afterAnyWords_0 : decode cd_PT_afterAnyWords 0 = .ok (.lload_n 0, 1) := by decide +kernel
theorem dd_PT_afterAnyWords_1 : decode cd_PT_afterAnyWords 1 = .ok (.invokestatic 41, 3) := by decide +kernel
theorem dd_PT_afterAnyWords_4 : decode cd_PT_afterAnyWords 4 = .ok (.lneg, 1) := by decide +kernel
theorem dd_PT_afterAnyWords_5 : decode cd_PT_afterAnyWords 5 = .ok (.lreturn, 1) := by decide +kernel
theorem dd_PT_afterOneWord_0 : decode cd_PT_afterOneWord 0 = .ok (.aload_n 2, 1) := by decide +kernel
theorem dd_PT_afterOneWord_1 : decode cd_PT_afterOneWord 1 = .ok (.iload_n 3, 1) := by decide +kernel
theorem dd_PT_afterOneWord_2 : decode cd_PT_afterOneWord 2 = .ok (.iload 4, 2) := by decide +kernel
theorem dd_PT_afterOneWord_4 : decode cd_PT_afterOneWord 4 = .ok (.bipush 42, 2) := by decide +kernel
theorem dd_PT_afterOneWord_6 : decode cd_PT_afterOneWord 6 = .ok (.invokestatic 25, 3) := by decide +kernel
theorem dd_PT_afterOneWord_9 : decode cd_PT_afterOneWord 9 = .ok (.istore 6, 2) := by decide +kernel
theorem dd_PT_afterOneWord_11 : decode cd_PT_afterOneWord 11 = .ok (.lconst 0, 1) := by decide +kernel
theorem dd_PT_afterOneWord_12 : decode cd_PT_afterOneWord 12 = .ok (.lstore 7, 2) := by decide +kernel
theorem dd_PT_afterOneWord_14 : decode cd_PT_afterOneWord 14 = .ok (.iconst 0, 1) := by decide +kernel
theorem dd_PT_afterOneWord_15 : decode cd_PT_afterOneWord 15 = .ok (.istore 9, 2) := by decide +kernel
theorem dd_PT_afterOneWord_17 : decode cd_PT_afterOneWord 17 = .ok (.iconst 0, 1) := by decide +kernel
theorem dd_PT_afterOneWord_18 : decode cd_PT_afterOneWord 18 = .ok (.istore 10, 2) := by decide +kernel
theorem dd_PT_afterOneWord_20 : decode cd_PT_afterOneWord 20 = .ok (.iconst 0, 1) := by decide +kernel
theorem dd_PT_afterOneWord_21 : decode cd_PT_afterOneWord 21 = .ok (.istore 11, 2) := by decide +kernel
theorem dd_PT_afterOneWord_23 : decode cd_PT_afterOneWord 23 = .ok (.iload 11, 2) := by decide +kernel
theorem dd_PT_afterOneWord_25 : decode cd_PT_afterOneWord 25 = .ok (.aload 5, 2) := by decide +kernel
theorem dd_PT_afterOneWord_27 : decode cd_PT_afterOneWord 27 = .ok (.invokevirtual 7, 3) := by decide +kernel
theorem dd_PT_afterOneWord_30 : decode cd_PT_afterOneWord 30 = .ok (.if_icmp .gt 83, 3) := by decide +kernel
theorem dd_PT_afterOneWord_33 : decode cd_PT_afterOneWord 33 = .ok (.aload 5, 2) := by decide +kernel
theorem dd_PT_afterOneWord_35 : decode cd_PT_afterOneWord 35 = .ok (.iload 11, 2) := by decide +kernel
theorem dd_PT_afterOneWord_37 : decode cd_PT_afterOneWord 37 = .ok (.bipush 46, 2) := by decide +kernel
theorem dd_PT_afterOneWord_39 : decode cd_PT_afterOneWord 39 = .ok (.invokestatic 15, 3) := by decide +kernel
theorem dd_PT_afterOneWord_42 : decode cd_PT_afterOneWord 42 = .ok (.ifCond .eq 65, 3) := by decide +kernel
theorem dd_PT_afterOneWord_45 : decode cd_PT_afterOneWord 45 = .ok (.lload_n 0, 1) := by decide +kernel
theorem dd_PT_afterOneWord_46 : decode cd_PT_afterOneWord 46 = .ok (.iload 9, 2) := by decide +kernel
theorem dd_PT_afterOneWord_48 : decode cd_PT_afterOneWord 48 = .ok (.lushr, 1) := by decide +kernel
theorem dd_PT_afterOneWord_49 : decode cd_PT_afterOneWord 49 = .ok (.lconst 1, 1) := by decide +kernel
theorem dd_PT_afterOneWord_50 : decode cd_PT_afterOneWord 50 = .ok (.land, 1) := by decide +kernel
theorem dd_PT_afterOneWord_51 : decode cd_PT_afterOneWord 51 = .ok (.lconst 0, 1) := by decide +kernel
theorem dd_PT_afterOneWord_52 : decode cd_PT_afterOneWord 52 = .ok (.lcmp, 1) := by decide +kernel
theorem dd_PT_afterOneWord_53 : decode cd_PT_afterOneWord 53 = .ok (.ifCond .eq 7, 3) := by decide +kernel
theorem dd_PT_afterOneWord_56 : decode cd_PT_afterOneWord 56 = .ok (.iconst 1, 1) := by decide +kernel
theorem dd_PT_afterOneWord_57 : decode cd_PT_afterOneWord 57 = .ok (.goto 4, 3) := by decide +kernel
theorem dd_PT_afterOneWord_60 : decode cd_PT_afterOneWord 60 = .ok (.iconst 0, 1) := by decide +kernel
theorem dd_PT_afterOneWord_61 : decode cd_PT_afterOneWord 61 = .ok (.istore 12, 2) := by decide +kernel
theorem dd_PT_afterOneWord_63 : decode cd_PT_afterOneWord 63 = .ok (.iinc 9 1, 3) := by decide +kernel
theorem dd_PT_afterOneWord_66 : decode cd_PT_afterOneWord 66 = .ok (.iload 12, 2) := by decide +kernel
theorem dd_PT_afterOneWord_68 : decode cd_PT_afterOneWord 68 = .ok (.ifCond .eq 33, 3) := by decide +kernel
theorem dd_PT_afterOneWord_71 : decode cd_PT_afterOneWord 71 = .ok (.iload 6, 2) := by decide +kernel
theorem dd_PT_afterOneWord_73 : decode cd_PT_afterOneWord 73 = .ok (.ifCond .ne 19, 3) := by decide +kernel
theorem dd_PT_afterOneWord_76 : decode cd_PT_afterOneWord 76 = .ok (.aload_n 2, 1) := by decide +kernel
theorem dd_PT_afterOneWord_77 : decode cd_PT_afterOneWord 77 = .ok (.iload_n 3, 1) := by decide +kernel
theorem dd_PT_afterOneWord_78 : decode cd_PT_afterOneWord 78 = .ok (.iload 4, 2) := by decide +kernel
theorem dd_PT_afterOneWord_80 : decode cd_PT_afterOneWord 80 = .ok (.aload 5, 2) := by decide +kernel
theorem dd_PT_afterOneWord_82 : decode cd_PT_afterOneWord 82 = .ok (.iload 10, 2) := by decide +kernel
theorem dd_PT_afterOneWord_84 : decode cd_PT_afterOneWord 84 = .ok (.iload 11, 2) := by decide +kernel
theorem dd_PT_afterOneWord_86 : decode cd_PT_afterOneWord 86 = .ok (.invokestatic 46, 3) := by decide +kernel
theorem dd_PT_afterOneWord_89 : decode cd_PT_afterOneWord 89 = .ok (.ifCond .eq 12, 3) := by decide +kernel
theorem dd_PT_afterOneWord_92 : decode cd_PT_afterOneWord 92 = .ok (.lload 7, 2) := by decide +kernel
theorem dd_PT_afterOneWord_94 : decode cd_PT_afterOneWord 94 = .ok (.lconst 1, 1) := by decide +kernel
theorem dd_PT_afterOneWord_95 : decode cd_PT_afterOneWord 95 = .ok (.iload 9, 2) := by decide +kernel
theorem dd_PT_afterOneWord_97 : decode cd_PT_afterOneWord 97 = .ok (.lshl, 1) := by decide +kernel
theorem dd_PT_afterOneWord_98 : decode cd_PT_afterOneWord 98 = .ok (.lor, 1) := by decide +kernel
theorem dd_PT_afterOneWord_99 : decode cd_PT_afterOneWord 99 = .ok (.lstore 7, 2) := by decide +kernel
theorem dd_PT_afterOneWord_101 : decode cd_PT_afterOneWord 101 = .ok (.iload 11, 2) := by decide +kernel
theorem dd_PT_afterOneWord_103 : decode cd_PT_afterOneWord 103 = .ok (.iconst 1, 1) := by decide +kernel
theorem dd_PT_afterOneWord_104 : decode cd_PT_afterOneWord 104 = .ok (.iadd, 1) := by decide +kernel
theorem dd_PT_afterOneWord_105 : decode cd_PT_afterOneWord 105 = .ok (.istore 10, 2) := by decide +kernel
theorem dd_PT_afterOneWord_107 : decode cd_PT_afterOneWord 107 = .ok (.iinc 11 1, 3) := by decide +kernel
theorem dd_PT_afterOneWord_110 : decode cd_PT_afterOneWord 110 = .ok (.goto (-87), 3) := by decide +kernel
theorem dd_PT_afterOneWord_113 : decode cd_PT_afterOneWord 113 = .ok (.lload 7, 2) := by decide +kernel
theorem dd_PT_afterOneWord_115 : decode cd_PT_afterOneWord 115 = .ok (.lreturn, 1) := by decide +kernel
theorem dd_PT_countWords_0 : decode cd_PT_countWords 0 = .ok (.iconst 1, 1) := by decide +kernel
theorem dd_PT_countWords_1 : decode cd_PT_countWords 1 = .ok (.istore_n 1, 1) := by decide +kernel
theorem dd_PT_countWords_2 : decode cd_PT_countWords 2 = .ok (.iconst 0, 1) := by decide +kernel
theorem dd_PT_countWords_3 : decode cd_PT_countWords 3 = .ok (.istore_n 2, 1) := by decide +kernel
theorem dd_PT_countWords_4 : decode cd_PT_countWords 4 = .ok (.iload_n 2, 1) := by decide +kernel
theorem dd_PT_countWords_5 : decode cd_PT_countWords 5 = .ok (.aload_n 0, 1) := by decide +kernel
theorem dd_PT_countWords_6 : decode cd_PT_countWords 6 = .ok (.invokevirtual 7, 3) := by decide +kernel
theorem dd_PT_countWords_9 : decode cd_PT_countWords 9 = .ok (.if_icmp .ge 22, 3) := by decide +kernel
theorem dd_PT_countWords_12 : decode cd_PT_countWords 12 = .ok (.aload_n 0, 1) := by decide +kernel
theorem dd_PT_countWords_13 : decode cd_PT_countWords 13 = .ok (.iload_n 2, 1) := by decide +kernel
theorem dd_PT_countWords_14 : decode cd_PT_countWords 14 = .ok (.invokevirtual 50, 3) := by decide +kernel
theorem dd_PT_countWords_17 : decode cd_PT_countWords 17 = .ok (.bipush 46, 2) := by decide +kernel
theorem dd_PT_countWords_19 : decode cd_PT_countWords 19 = .ok (.if_icmp .ne 6, 3) := by decide +kernel
theorem dd_PT_countWords_22 : decode cd_PT_countWords 22 = .ok (.iinc 1 1, 3) := by decide +kernel
theorem dd_PT_countWords_25 : decode cd_PT_countWords 25 = .ok (.iinc 2 1, 3) := by decide +kernel
theorem dd_PT_countWords_28 : decode cd_PT_countWords 28 = .ok (.goto (-24), 3) := by decide +kernel
theorem dd_PT_countWords_31 : decode cd_PT_countWords 31 = .ok (.iload_n 1, 1) := by decide +kernel
theorem dd_PT_countWords_32 : decode cd_PT_countWords 32 = .ok (.ireturn, 1) := by decide +kernel
theorem dd_HT_isRuleMet_0 : decode cd_HT_isRuleMet 0 = .ok (.aload_n 0, 1) := by decide +kernel
theorem dd_HT_isRuleMet_1 : decode cd_HT_isRuleMet 1 = .ok (.ldc 22, 2) := by decide +kernel
theorem dd_HT_isRuleMet_3 : decode cd_HT_isRuleMet 3 = .ok (.invokestatic 24, 3) := by decide +kernel
theorem dd_HT_isRuleMet_6 : decode cd_HT_isRuleMet 6 = .ok (.istore_n 2, 1) := by decide +kernel
theorem dd_HT_isRuleMet_7 : decode cd_HT_isRuleMet 7 = .ok (.iconst 4, 1) := by decide +kernel
theorem dd_HT_isRuleMet_8 : decode cd_HT_isRuleMet 8 = .ok (.istore_n 3, 1) := by decide +kernel
theorem dd_HT_isRuleMet_9 : decode cd_HT_isRuleMet 9 = .ok (.iload_n 3, 1) := by decide +kernel
theorem dd_HT_isRuleMet_10 : decode cd_HT_isRuleMet 10 = .ok (.istore 4, 2) := by decide +kernel
theorem dd_HT_isRuleMet_12 : decode cd_HT_isRuleMet 12 = .ok (.iload 4, 2) := by decide +kernel
theorem dd_HT_isRuleMet_14 : decode cd_HT_isRuleMet 14 = .ok (.aload_n 0, 1) := by decide +kernel
theorem dd_HT_isRuleMet_15 : decode cd_HT_isRuleMet 15 = .ok (.invokevirtual 34, 3) := by decide +kernel
theorem dd_HT_isRuleMet_18 : decode cd_HT_isRuleMet 18 = .ok (.if_icmp .gt 47, 3) := by decide +kernel
theorem dd_HT_isRuleMet_21 : decode cd_HT_isRuleMet 21 = .ok (.aload_n 0, 1) := by decide +kernel
theorem dd_HT_isRuleMet_22 : decode cd_HT_isRuleMet 22 = .ok (.iload 4, 2) := by decide +kernel
theorem dd_HT_isRuleMet_24 : decode cd_HT_isRuleMet 24 = .ok (.bipush 44, 2) := by decide +kernel
theorem dd_HT_isRuleMet_26 : decode cd_HT_isRuleMet 26 = .ok (.invokestatic 30, 3) := by decide +kernel
theorem dd_HT_isRuleMet_29 : decode cd_HT_isRuleMet 29 = .ok (.ifCond .eq 30, 3) := by decide +kernel
theorem dd_HT_isRuleMet_32 : decode cd_HT_isRuleMet 32 = .ok (.aload_n 0, 1) := by decide +kernel
theorem dd_HT_isRuleMet_33 : decode cd_HT_isRuleMet 33 = .ok (.iload_n 3, 1) := by decide +kernel
theorem dd_HT_isRuleMet_34 : decode cd_HT_isRuleMet 34 = .ok (.iload 4, 2) := by decide +kernel
theorem dd_HT_isRuleMet_36 : decode cd_HT_isRuleMet 36 = .ok (.aload_n 1, 1) := by decide +kernel
theorem dd_HT_isRuleMet_37 : decode cd_HT_isRuleMet 37 = .ok (.invokestatic 43, 3) := by decide +kernel
theorem dd_HT_isRuleMet_40 : decode cd_HT_isRuleMet 40 = .ok (.iload_n 2, 1) := by decide +kernel
theorem dd_HT_isRuleMet_41 : decode cd_HT_isRuleMet 41 = .ok (.if_icmp .eq 13, 3) := by decide +kernel
theorem dd_HT_isRuleMet_44 : decode cd_HT_isRuleMet 44 = .ok (.iload_n 2, 1) := by decide +kernel
theorem dd_HT_isRuleMet_45 : decode cd_HT_isRuleMet 45 = .ok (.ifCond .ne 7, 3) := by decide +kernel
theorem dd_HT_isRuleMet_48 : decode cd_HT_isRuleMet 48 = .ok (.iconst 1, 1) := by decide +kernel
theorem dd_HT_isRuleMet_49 : decode cd_HT_isRuleMet 49 = .ok (.goto 4, 3) := by decide +kernel
theorem dd_HT_isRuleMet_52 : decode cd_HT_isRuleMet 52 = .ok (.iconst 0, 1) := by decide +kernel
theorem dd_HT_isRuleMet_53 : decode cd_HT_isRuleMet 53 = .ok (.ireturn, 1) := by decide +kernel
theorem dd_HT_isRuleMet_54 : decode cd_HT_isRuleMet 54 = .ok (.iload 4, 2) := by decide +kernel
theorem dd_HT_isRuleMet_56 : decode cd_HT_isRuleMet 56 = .ok (.iconst 1, 1) := by decide +kernel
theorem dd_HT_isRuleMet_57 : decode cd_HT_isRuleMet 57 = .ok (.iadd, 1) := by decide +kernel
theorem dd_HT_isRuleMet_58 : decode cd_HT_isRuleMet 58 = .ok (.istore_n 3, 1) := by decide +kernel
theorem dd_HT_isRuleMet_59 : decode cd_HT_isRuleMet 59 = .ok (.iinc 4 1, 3) := by decide +kernel
theorem dd_HT_isRuleMet_62 : decode cd_HT_isRuleMet 62 = .ok (.goto (-50), 3) := by decide +kernel
theorem dd_HT_isRuleMet_65 : decode cd_HT_isRuleMet 65 = .ok (.iload_n 2, 1) := by decide +kernel
theorem dd_HT_isRuleMet_66 : decode cd_HT_isRuleMet 66 = .ok (.ireturn, 1) := by decide +kernel
theorem dd_HT_isNameMet_0 : decode cd_HT_isNameMet 0 = .ok (.aload_n 0, 1) := by decide +kernel
theorem dd_HT_isNameMet_1 : decode cd_HT_isNameMet 1 = .ok (.bipush 61, 2) := by decide +kernel
theorem dd_HT_isNameMet_3 : decode cd_HT_isNameMet 3 = .ok (.iload_n 1, 1) := by decide +kernel
theorem dd_HT_isNameMet_4 : decode cd_HT_isNameMet 4 = .ok (.iload_n 2, 1) := by decide +kernel
theorem dd_HT_isNameMet_5 : decode cd_HT_isNameMet 5 = .ok (.invokestatic 9, 3) := by decide +kernel
theorem dd_HT_isNameMet_8 : decode cd_HT_isNameMet 8 = .ok (.istore 4, 2) := by decide +kernel
theorem dd_HT_isNameMet_10 : decode cd_HT_isNameMet 10 = .ok (.iconst 0, 1) := by decide +kernel
theorem dd_HT_isNameMet_11 : decode cd_HT_isNameMet 11 = .ok (.istore 5, 2) := by decide +kernel
theorem dd_HT_isNameMet_13 : decode cd_HT_isNameMet 13 = .ok (.iload 5, 2) := by decide +kernel
theorem dd_HT_isNameMet_15 : decode cd_HT_isNameMet 15 = .ok (.aload_n 3, 1) := by decide +kernel
theorem dd_HT_isNameMet_16 : decode cd_HT_isNameMet 16 = .ok (.getfield 47, 3) := by decide +kernel
theorem dd_HT_isNameMet_19 : decode cd_HT_isNameMet 19 = .ok (.invokevirtual 53, 3) := by decide +kernel
theorem dd_HT_isNameMet_22 : decode cd_HT_isNameMet 22 = .ok (.if_icmp .ge 85, 3) := by decide +kernel
theorem dd_HT_isNameMet_25 : decode cd_HT_isNameMet 25 = .ok (.aload_n 3, 1) := by decide +kernel
theorem dd_HT_isNameMet_26 : decode cd_HT_isNameMet 26 = .ok (.getfield 47, 3) := by decide +kernel
theorem dd_HT_isNameMet_29 : decode cd_HT_isNameMet 29 = .ok (.iload 5, 2) := by decide +kernel
theorem dd_HT_isNameMet_31 : decode cd_HT_isNameMet 31 = .ok (.invokevirtual 58, 3) := by decide +kernel
theorem dd_HT_isNameMet_34 : decode cd_HT_isNameMet 34 = .ok (.checkcast 62, 3) := by decide +kernel
theorem dd_HT_isNameMet_37 : decode cd_HT_isNameMet 37 = .ok (.astore 6, 2) := by decide +kernel
theorem dd_HT_isNameMet_39 : decode cd_HT_isNameMet 39 = .ok (.aload_n 0, 1) := by decide +kernel
theorem dd_HT_isNameMet_40 : decode cd_HT_isNameMet 40 = .ok (.iload_n 1, 1) := by decide +kernel
theorem dd_HT_isNameMet_41 : decode cd_HT_isNameMet 41 = .ok (.iload 4, 2) := by decide +kernel
theorem dd_HT_isNameMet_43 : decode cd_HT_isNameMet 43 = .ok (.aload 6, 2) := by decide +kernel
theorem dd_HT_isNameMet_45 : decode cd_HT_isNameMet 45 = .ok (.getfield 64, 3) := by decide +kernel
theorem dd_HT_isNameMet_48 : decode cd_HT_isNameMet 48 = .ok (.iconst 0, 1) := by decide +kernel
theorem dd_HT_isNameMet_49 : decode cd_HT_isNameMet 49 = .ok (.aload 6, 2) := by decide +kernel
theorem dd_HT_isNameMet_51 : decode cd_HT_isNameMet 51 = .ok (.getfield 64, 3) := by decide +kernel
theorem dd_HT_isNameMet_54 : decode cd_HT_isNameMet 54 = .ok (.invokevirtual 34, 3) := by decide +kernel
theorem dd_HT_isNameMet_57 : decode cd_HT_isNameMet 57 = .ok (.invokestatic 68, 3) := by decide +kernel
theorem dd_HT_isNameMet_60 : decode cd_HT_isNameMet 60 = .ok (.ifCond .eq 41, 3) := by decide +kernel
theorem dd_HT_isNameMet_63 : decode cd_HT_isNameMet 63 = .ok (.iload 4, 2) := by decide +kernel
theorem dd_HT_isNameMet_65 : decode cd_HT_isNameMet 65 = .ok (.iload_n 2, 1) := by decide +kernel
theorem dd_HT_isNameMet_66 : decode cd_HT_isNameMet 66 = .ok (.if_icmp .eq 29, 3) := by decide +kernel
theorem dd_HT_isNameMet_69 : decode cd_HT_isNameMet 69 = .ok (.aload_n 0, 1) := by decide +kernel
theorem dd_HT_isNameMet_70 : decode cd_HT_isNameMet 70 = .ok (.iload 4, 2) := by decide +kernel
theorem dd_HT_isNameMet_72 : decode cd_HT_isNameMet 72 = .ok (.iconst 1, 1) := by decide +kernel
theorem dd_HT_isNameMet_73 : decode cd_HT_isNameMet 73 = .ok (.iadd, 1) := by decide +kernel
theorem dd_HT_isNameMet_74 : decode cd_HT_isNameMet 74 = .ok (.iload_n 2, 1) := by decide +kernel
theorem dd_HT_isNameMet_75 : decode cd_HT_isNameMet 75 = .ok (.aload 6, 2) := by decide +kernel
theorem dd_HT_isNameMet_77 : decode cd_HT_isNameMet 77 = .ok (.getfield 72, 3) := by decide +kernel
theorem dd_HT_isNameMet_80 : decode cd_HT_isNameMet 80 = .ok (.iconst 0, 1) := by decide +kernel
theorem dd_HT_isNameMet_81 : decode cd_HT_isNameMet 81 = .ok (.aload 6, 2) := by decide +kernel
theorem dd_HT_isNameMet_83 : decode cd_HT_isNameMet 83 = .ok (.getfield 72, 3) := by decide +kernel
theorem dd_HT_isNameMet_86 : decode cd_HT_isNameMet 86 = .ok (.invokevirtual 34, 3) := by decide +kernel
theorem dd_HT_isNameMet_89 : decode cd_HT_isNameMet 89 = .ok (.invokestatic 68, 3) := by decide +kernel
theorem dd_HT_isNameMet_92 : decode cd_HT_isNameMet 92 = .ok (.ifCond .eq 7, 3) := by decide +kernel
theorem dd_HT_isNameMet_95 : decode cd_HT_isNameMet 95 = .ok (.iconst 1, 1) := by decide +kernel
theorem dd_HT_isNameMet_96 : decode cd_HT_isNameMet 96 = .ok (.goto 4, 3) := by decide +kernel
theorem dd_HT_isNameMet_99 : decode cd_HT_isNameMet 99 = .ok (.iconst 0, 1) := by decide +kernel
theorem dd_HT_isNameMet_100 : decode cd_HT_isNameMet 100 = .ok (.ireturn, 1) := by decide +kernel
theorem dd_HT_isNameMet_101 : decode cd_HT_isNameMet 101 = .ok (.iinc 5 1, 3) := by decide +kernel
theorem dd_HT_isNameMet_104 : decode cd_HT_isNameMet 104 = .ok (.goto (-91), 3) := by decide +kernel
theorem dd_HT_isNameMet_107 : decode cd_HT_isNameMet 107 = .ok (.iconst 0, 1) := by decide +kernel
theorem dd_HT_isNameMet_108 : decode cd_HT_isNameMet 108 = .ok (.ireturn, 1) := by decide +kernel
theorem dd_RD_follow_0 : decode cd_RD_follow 0 = .ok (.aload_n 1, 1) := by decide +kernel
theorem dd_RD_follow_1 : decode cd_RD_follow 1 = .ok (.getfield 252, 3) := by decide +kernel
theorem dd_RD_follow_4 : decode cd_RD_follow 4 = .ok (.ifCond .eq 17, 3) := by decide +kernel
theorem dd_RD_follow_7 : decode cd_RD_follow 7 = .ok (.aload_n 0, 1) := by decide +kernel
theorem dd_RD_follow_8 : decode cd_RD_follow 8 = .ok (.getfield 43, 3) := by decide +kernel
theorem dd_RD_follow_11 : decode cd_RD_follow 11 = .ok (.aload_n 1, 1) := by decide +kernel
theorem dd_RD_follow_12 : decode cd_RD_follow 12 = .ok (.getfield 256, 3) := by decide +kernel
theorem dd_RD_follow_15 : decode cd_RD_follow 15 = .ok (.invokevirtual 259, 3) := by decide +kernel
theorem dd_RD_follow_18 : decode cd_RD_follow 18 = .ok (.goto 14, 3) := by decide +kernel
theorem dd_RD_follow_21 : decode cd_RD_follow 21 = .ok (.aload_n 0, 1) := by decide +kernel
theorem dd_RD_follow_22 : decode cd_RD_follow 22 = .ok (.getfield 43, 3) := by decide +kernel
theorem dd_RD_follow_25 : decode cd_RD_follow 25 = .ok (.aload_n 1, 1) := by decide +kernel
theorem dd_RD_follow_26 : decode cd_RD_follow 26 = .ok (.getfield 256, 3) := by decide +kernel
theorem dd_RD_follow_29 : decode cd_RD_follow 29 = .ok (.invokevirtual 249, 3) := by decide +kernel
theorem dd_RD_follow_32 : decode cd_RD_follow 32 = .ok (.return_, 1) := by decide +kernel
theorem dd_RT_markFound_0 : decode cd_RT_markFound 0 = .ok (.iload_n 1, 1) := by decide +kernel
theorem dd_RT_markFound_1 : decode cd_RT_markFound 1 = .ok (.ifCond .lt 18, 3) := by decide +kernel
theorem dd_RT_markFound_4 : decode cd_RT_markFound 4 = .ok (.iload_n 1, 1) := by decide +kernel
theorem dd_RT_markFound_5 : decode cd_RT_markFound 5 = .ok (.bipush 16, 2) := by decide +kernel
theorem dd_RT_markFound_7 : decode cd_RT_markFound 7 = .ok (.if_icmp .ge 12, 3) := by decide +kernel
theorem dd_RT_markFound_10 : decode cd_RT_markFound 10 = .ok (.aload_n 0, 1) := by decide +kernel
theorem dd_RT_markFound_11 : decode cd_RT_markFound 11 = .ok (.getfield 23, 3) := by decide +kernel
theorem dd_RT_markFound_14 : decode cd_RT_markFound 14 = .ok (.iload_n 1, 1) := by decide +kernel
theorem dd_RT_markFound_15 : decode cd_RT_markFound 15 = .ok (.baload, 1) := by decide +kernel
theorem dd_RT_markFound_16 : decode cd_RT_markFound 16 = .ok (.ifCond .eq 4, 3) := by decide +kernel
theorem dd_RT_markFound_19 : decode cd_RT_markFound 19 = .ok (.return_, 1) := by decide +kernel
theorem dd_RT_markFound_20 : decode cd_RT_markFound 20 = .ok (.aload_n 0, 1) := by decide +kernel
theorem dd_RT_markFound_21 : decode cd_RT_markFound 21 = .ok (.getfield 23, 3) := by decide +kernel
theorem dd_RT_markFound_24 : decode cd_RT_markFound 24 = .ok (.iload_n 1, 1) := by decide +kernel
theorem dd_RT_markFound_25 : decode cd_RT_markFound 25 = .ok (.iconst 1, 1) := by decide +kernel
theorem dd_RT_markFound_26 : decode cd_RT_markFound 26 = .ok (.bastore, 1) := by decide +kernel
theorem dd_RT_markFound_27 : decode cd_RT_markFound 27 = .ok (.aload_n 0, 1) := by decide +kernel
theorem dd_RT_markFound_28 : decode cd_RT_markFound 28 = .ok (.dup, 1) := by decide +kernel
theorem dd_RT_markFound_29 : decode cd_RT_markFound 29 = .ok (.getfield 26, 3) := by decide +kernel
theorem dd_RT_markFound_32 : decode cd_RT_markFound 32 = .ok (.iconst 1, 1) := by decide +kernel
theorem dd_RT_markFound_33 : decode cd_RT_markFound 33 = .ok (.iadd, 1) := by decide +kernel
theorem dd_RT_markFound_34 : decode cd_RT_markFound 34 = .ok (.putfield 26, 3) := by decide +kernel
theorem dd_RT_markFound_37 : decode cd_RT_markFound 37 = .ok (.return_, 1) := by decide +kernel
theorem dd_LW_found_0 : decode cd_LW_found 0 = .ok (.aload_n 2, 1) := by decide +kernel
theorem dd_LW_found_1 : decode cd_LW_found 1 = .ok (.iconst 0, 1) := by decide +kernel
theorem dd_LW_found_2 : decode cd_LW_found 2 = .ok (.aload_n 0, 1) := by decide +kernel
theorem dd_LW_found_3 : decode cd_LW_found 3 = .ok (.iload_n 1, 1) := by decide +kernel
theorem dd_LW_found_4 : decode cd_LW_found 4 = .ok (.invokevirtual 28, 3) := by decide +kernel
theorem dd_LW_found_7 : decode cd_LW_found 7 = .ok (.i2l, 1) := by decide +kernel
theorem dd_LW_found_8 : decode cd_LW_found 8 = .ok (.lastore, 1) := by decide +kernel
theorem dd_LW_found_9 : decode cd_LW_found 9 = .ok (.goto 6, 3) := by decide +kernel
theorem dd_LW_found_12 : decode cd_LW_found 12 = .ok (.astore_n 3, 1) := by decide +kernel
theorem dd_LW_found_13 : decode cd_LW_found 13 = .ok (.iconst 1, 1) := by decide +kernel
theorem dd_LW_found_14 : decode cd_LW_found 14 = .ok (.ireturn, 1) := by decide +kernel
theorem dd_LW_found_15 : decode cd_LW_found 15 = .ok (.iconst 0, 1) := by decide +kernel
theorem dd_LW_found_16 : decode cd_LW_found 16 = .ok (.ireturn, 1) := by decide +kernel
theorem dd_RD_found_0 : decode cd_RD_found 0 = .ok (.aload_n 0, 1) := by decide +kernel
theorem dd_RD_found_1 : decode cd_RD_found 1 = .ok (.getfield 43, 3) := by decide +kernel
theorem dd_RD_found_4 : decode cd_RD_found 4 = .ok (.iload_n 1, 1) := by decide +kernel
theorem dd_RD_found_5 : decode cd_RD_found 5 = .ok (.invokevirtual 178, 3) := by decide +kernel
theorem dd_RD_found_8 : decode cd_RD_found 8 = .ok (.istore_n 2, 1) := by decide +kernel
theorem dd_RD_found_9 : decode cd_RD_found 9 = .ok (.iload_n 2, 1) := by decide +kernel
theorem dd_RD_found_10 : decode cd_RD_found 10 = .ok (.iconst (-1), 1) := by decide +kernel
theorem dd_RD_found_11 : decode cd_RD_found 11 = .ok (.if_icmp .ne 13, 3) := by decide +kernel
theorem dd_RD_found_14 : decode cd_RD_found 14 = .ok (.new 182, 3) := by decide +kernel
theorem dd_RD_found_17 : decode cd_RD_found 17 = .ok (.dup, 1) := by decide +kernel
theorem dd_RD_found_18 : decode cd_RD_found 18 = .ok (.ldc 184, 2) := by decide +kernel
theorem dd_RD_found_20 : decode cd_RD_found 20 = .ok (.invokespecial 186, 3) := by decide +kernel
theorem dd_RD_found_23 : decode cd_RD_found 23 = .ok (.athrow, 1) := by decide +kernel
theorem dd_RD_found_24 : decode cd_RD_found 24 = .ok (.iload_n 2, 1) := by decide +kernel
theorem dd_RD_found_25 : decode cd_RD_found 25 = .ok (.ireturn, 1) := by decide +kernel
theorem dd_RT_foundAt_0 : decode cd_RT_foundAt 0 = .ok (.iconst 0, 1) := by decide +kernel
theorem dd_RT_foundAt_1 : decode cd_RT_foundAt 1 = .ok (.istore_n 2, 1) := by decide +kernel
theorem dd_RT_foundAt_2 : decode cd_RT_foundAt 2 = .ok (.iconst 0, 1) := by decide +kernel
theorem dd_RT_foundAt_3 : decode cd_RT_foundAt 3 = .ok (.istore_n 3, 1) := by decide +kernel
theorem dd_RT_foundAt_4 : decode cd_RT_foundAt 4 = .ok (.iload_n 3, 1) := by decide +kernel
theorem dd_RT_foundAt_5 : decode cd_RT_foundAt 5 = .ok (.bipush 16, 2) := by decide +kernel
theorem dd_RT_foundAt_7 : decode cd_RT_foundAt 7 = .ok (.if_icmp .ge 28, 3) := by decide +kernel
theorem dd_RT_foundAt_10 : decode cd_RT_foundAt 10 = .ok (.aload_n 0, 1) := by decide +kernel
theorem dd_RT_foundAt_11 : decode cd_RT_foundAt 11 = .ok (.getfield 23, 3) := by decide +kernel
theorem dd_RT_foundAt_14 : decode cd_RT_foundAt 14 = .ok (.iload_n 3, 1) := by decide +kernel
theorem dd_RT_foundAt_15 : decode cd_RT_foundAt 15 = .ok (.baload, 1) := by decide +kernel
theorem dd_RT_foundAt_16 : decode cd_RT_foundAt 16 = .ok (.ifCond .eq 13, 3) := by decide +kernel
theorem dd_RT_foundAt_19 : decode cd_RT_foundAt 19 = .ok (.iload_n 2, 1) := by decide +kernel
theorem dd_RT_foundAt_20 : decode cd_RT_foundAt 20 = .ok (.iload_n 1, 1) := by decide +kernel
theorem dd_RT_foundAt_21 : decode cd_RT_foundAt 21 = .ok (.if_icmp .ne 5, 3) := by decide +kernel
theorem dd_RT_foundAt_24 : decode cd_RT_foundAt 24 = .ok (.iload_n 3, 1) := by decide +kernel
theorem dd_RT_foundAt_25 : decode cd_RT_foundAt 25 = .ok (.ireturn, 1) := by decide +kernel
theorem dd_RT_foundAt_26 : decode cd_RT_foundAt 26 = .ok (.iinc 2 1, 3) := by decide +kernel
theorem dd_RT_foundAt_29 : decode cd_RT_foundAt 29 = .ok (.iinc 3 1, 3) := by decide +kernel
theorem dd_RT_foundAt_32 : decode cd_RT_foundAt 32 = .ok (.goto (-28), 3) := by decide +kernel
theorem dd_RT_foundAt_35 : decode cd_RT_foundAt 35 = .ok (.iconst (-1), 1) := by decide +kernel
theorem dd_RT_foundAt_36 : decode cd_RT_foundAt 36 = .ok (.ireturn, 1) := by decide +kernel
theorem dd_MO_init_0 : decode cd_MO_init 0 = .ok (.aload_n 0, 1) := by decide +kernel
theorem dd_MO_init_1 : decode cd_MO_init 1 = .ok (.invokespecial 1, 3) := by decide +kernel
theorem dd_MO_init_4 : decode cd_MO_init 4 = .ok (.aload_n 0, 1) := by decide +kernel
theorem dd_MO_init_5 : decode cd_MO_init 5 = .ok (.bipush 48, 2) := by decide +kernel
theorem dd_MO_init_7 : decode cd_MO_init 7 = .ok (.newarray .int, 2) := by decide +kernel
theorem dd_MO_init_9 : decode cd_MO_init 9 = .ok (.putfield 7, 3) := by decide +kernel
theorem dd_MO_init_12 : decode cd_MO_init 12 = .ok (.aload_n 0, 1) := by decide +kernel
theorem dd_MO_init_13 : decode cd_MO_init 13 = .ok (.bipush 16, 2) := by decide +kernel
theorem dd_MO_init_15 : decode cd_MO_init 15 = .ok (.newarray .int, 2) := by decide +kernel
theorem dd_MO_init_17 : decode cd_MO_init 17 = .ok (.putfield 13, 3) := by decide +kernel
theorem dd_MO_init_20 : decode cd_MO_init 20 = .ok (.aload_n 0, 1) := by decide +kernel
theorem dd_MO_init_21 : decode cd_MO_init 21 = .ok (.bipush 16, 2) := by decide +kernel
theorem dd_MO_init_23 : decode cd_MO_init 23 = .ok (.newarray .int, 2) := by decide +kernel
theorem dd_MO_init_25 : decode cd_MO_init 25 = .ok (.putfield 16, 3) := by decide +kernel
theorem dd_MO_init_28 : decode cd_MO_init 28 = .ok (.aload_n 0, 1) := by decide +kernel
theorem dd_MO_init_29 : decode cd_MO_init 29 = .ok (.bipush 16, 2) := by decide +kernel
theorem dd_MO_init_31 : decode cd_MO_init 31 = .ok (.newarray .boolean, 2) := by decide +kernel
theorem dd_MO_init_33 : decode cd_MO_init 33 = .ok (.putfield 19, 3) := by decide +kernel
theorem dd_MO_init_36 : decode cd_MO_init 36 = .ok (.aload_n 0, 1) := by decide +kernel
theorem dd_MO_init_37 : decode cd_MO_init 37 = .ok (.bipush 120, 2) := by decide +kernel
theorem dd_MO_init_39 : decode cd_MO_init 39 = .ok (.newarray .int, 2) := by decide +kernel
theorem dd_MO_init_41 : decode cd_MO_init 41 = .ok (.putfield 23, 3) := by decide +kernel
theorem dd_MO_init_44 : decode cd_MO_init 44 = .ok (.aload_n 0, 1) := by decide +kernel
theorem dd_MO_init_45 : decode cd_MO_init 45 = .ok (.bipush 120, 2) := by decide +kernel
theorem dd_MO_init_47 : decode cd_MO_init 47 = .ok (.newarray .int, 2) := by decide +kernel
theorem dd_MO_init_49 : decode cd_MO_init 49 = .ok (.putfield 26, 3) := by decide +kernel
theorem dd_MO_init_52 : decode cd_MO_init 52 = .ok (.aload_n 0, 1) := by decide +kernel
theorem dd_MO_init_53 : decode cd_MO_init 53 = .ok (.bipush 120, 2) := by decide +kernel
theorem dd_MO_init_55 : decode cd_MO_init 55 = .ok (.newarray .int, 2) := by decide +kernel
theorem dd_MO_init_57 : decode cd_MO_init 57 = .ok (.putfield 29, 3) := by decide +kernel
theorem dd_MO_init_60 : decode cd_MO_init 60 = .ok (.aload_n 0, 1) := by decide +kernel
theorem dd_MO_init_61 : decode cd_MO_init 61 = .ok (.sipush 5760, 3) := by decide +kernel
theorem dd_MO_init_64 : decode cd_MO_init 64 = .ok (.newarray .int, 2) := by decide +kernel
theorem dd_MO_init_66 : decode cd_MO_init 66 = .ok (.putfield 32, 3) := by decide +kernel
theorem dd_MO_init_69 : decode cd_MO_init 69 = .ok (.aload_n 0, 1) := by decide +kernel
theorem dd_MO_init_70 : decode cd_MO_init 70 = .ok (.bipush 48, 2) := by decide +kernel
theorem dd_MO_init_72 : decode cd_MO_init 72 = .ok (.newarray .int, 2) := by decide +kernel
theorem dd_MO_init_74 : decode cd_MO_init 74 = .ok (.putfield 35, 3) := by decide +kernel
theorem dd_MO_init_77 : decode cd_MO_init 77 = .ok (.aload_n 0, 1) := by decide +kernel
theorem dd_MO_init_78 : decode cd_MO_init 78 = .ok (.bipush 6, 2) := by decide +kernel
theorem dd_MO_init_80 : decode cd_MO_init 80 = .ok (.newarray .long, 2) := by decide +kernel
theorem dd_MO_init_82 : decode cd_MO_init 82 = .ok (.putfield 38, 3) := by decide +kernel
theorem dd_MO_init_85 : decode cd_MO_init 85 = .ok (.aload_n 0, 1) := by decide +kernel
theorem dd_MO_init_86 : decode cd_MO_init 86 = .ok (.bipush 6, 2) := by decide +kernel
theorem dd_MO_init_88 : decode cd_MO_init 88 = .ok (.newarray .long, 2) := by decide +kernel
theorem dd_MO_init_90 : decode cd_MO_init 90 = .ok (.putfield 42, 3) := by decide +kernel
theorem dd_MO_init_93 : decode cd_MO_init 93 = .ok (.aload_n 0, 1) := by decide +kernel
theorem dd_MO_init_94 : decode cd_MO_init 94 = .ok (.bipush 16, 2) := by decide +kernel
theorem dd_MO_init_96 : decode cd_MO_init 96 = .ok (.newarray .boolean, 2) := by decide +kernel
theorem dd_MO_init_98 : decode cd_MO_init 98 = .ok (.putfield 45, 3) := by decide +kernel
theorem dd_MO_init_101 : decode cd_MO_init 101 = .ok (.aload_n 0, 1) := by decide +kernel
theorem dd_MO_init_102 : decode cd_MO_init 102 = .ok (.bipush 16, 2) := by decide +kernel
theorem dd_MO_init_104 : decode cd_MO_init 104 = .ok (.newarray .boolean, 2) := by decide +kernel
theorem dd_MO_init_106 : decode cd_MO_init 106 = .ok (.putfield 48, 3) := by decide +kernel
theorem dd_MO_init_109 : decode cd_MO_init 109 = .ok (.aload_n 0, 1) := by decide +kernel
theorem dd_MO_init_110 : decode cd_MO_init 110 = .ok (.sipush 2601, 3) := by decide +kernel
theorem dd_MO_init_113 : decode cd_MO_init 113 = .ok (.newarray .boolean, 2) := by decide +kernel
theorem dd_MO_init_115 : decode cd_MO_init 115 = .ok (.putfield 51, 3) := by decide +kernel
theorem dd_MO_init_118 : decode cd_MO_init 118 = .ok (.aload_n 0, 1) := by decide +kernel
theorem dd_MO_init_119 : decode cd_MO_init 119 = .ok (.bipush 52, 2) := by decide +kernel
theorem dd_MO_init_121 : decode cd_MO_init 121 = .ok (.newarray .int, 2) := by decide +kernel
theorem dd_MO_init_123 : decode cd_MO_init 123 = .ok (.putfield 54, 3) := by decide +kernel
theorem dd_MO_init_126 : decode cd_MO_init 126 = .ok (.aload_n 0, 1) := by decide +kernel
theorem dd_MO_init_127 : decode cd_MO_init 127 = .ok (.bipush 52, 2) := by decide +kernel
theorem dd_MO_init_129 : decode cd_MO_init 129 = .ok (.newarray .int, 2) := by decide +kernel
theorem dd_MO_init_131 : decode cd_MO_init 131 = .ok (.putfield 57, 3) := by decide +kernel
theorem dd_MO_init_134 : decode cd_MO_init 134 = .ok (.iconst 0, 1) := by decide +kernel
theorem dd_MO_init_135 : decode cd_MO_init 135 = .ok (.istore_n 1, 1) := by decide +kernel
theorem dd_MO_init_136 : decode cd_MO_init 136 = .ok (.iload_n 1, 1) := by decide +kernel
theorem dd_MO_init_137 : decode cd_MO_init 137 = .ok (.bipush 16, 2) := by decide +kernel
theorem dd_MO_init_139 : decode cd_MO_init 139 = .ok (.if_icmp .ge 23, 3) := by decide +kernel
theorem dd_MO_init_142 : decode cd_MO_init 142 = .ok (.aload_n 0, 1) := by decide +kernel
theorem dd_MO_init_143 : decode cd_MO_init 143 = .ok (.getfield 13, 3) := by decide +kernel
theorem dd_MO_init_146 : decode cd_MO_init 146 = .ok (.iload_n 1, 1) := by decide +kernel
theorem dd_MO_init_147 : decode cd_MO_init 147 = .ok (.iconst (-1), 1) := by decide +kernel
theorem dd_MO_init_148 : decode cd_MO_init 148 = .ok (.iastore, 1) := by decide +kernel
theorem dd_MO_init_149 : decode cd_MO_init 149 = .ok (.aload_n 0, 1) := by decide +kernel
theorem dd_MO_init_150 : decode cd_MO_init 150 = .ok (.getfield 16, 3) := by decide +kernel
theorem dd_MO_init_153 : decode cd_MO_init 153 = .ok (.iload_n 1, 1) := by decide +kernel
theorem dd_MO_init_154 : decode cd_MO_init 154 = .ok (.iconst (-1), 1) := by decide +kernel
theorem dd_MO_init_155 : decode cd_MO_init 155 = .ok (.iastore, 1) := by decide +kernel
theorem dd_MO_init_156 : decode cd_MO_init 156 = .ok (.iinc 1 1, 3) := by decide +kernel
theorem dd_MO_init_159 : decode cd_MO_init 159 = .ok (.goto (-23), 3) := by decide +kernel
theorem dd_MO_init_162 : decode cd_MO_init 162 = .ok (.return_, 1) := by decide +kernel
theorem dd_MO_thrown_0 : decode cd_MO_thrown 0 = .ok (.aload_n 0, 1) := by decide +kernel
theorem dd_MO_thrown_1 : decode cd_MO_thrown 1 = .ok (.getfield 60, 3) := by decide +kernel
theorem dd_MO_thrown_4 : decode cd_MO_thrown 4 = .ok (.ireturn, 1) := by decide +kernel
theorem dd_MO_type_0 : decode cd_MO_type 0 = .ok (.aload_n 0, 1) := by decide +kernel
theorem dd_MO_type_1 : decode cd_MO_type 1 = .ok (.iconst 0, 1) := by decide +kernel
theorem dd_MO_type_2 : decode cd_MO_type 2 = .ok (.putfield 60, 3) := by decide +kernel
theorem dd_MO_type_5 : decode cd_MO_type 5 = .ok (.iload_n 3, 1) := by decide +kernel
theorem dd_MO_type_6 : decode cd_MO_type 6 = .ok (.iconst 1, 1) := by decide +kernel
theorem dd_MO_type_7 : decode cd_MO_type 7 = .ok (.if_icmp .lt 20, 3) := by decide +kernel
theorem dd_MO_type_10 : decode cd_MO_type 10 = .ok (.iload_n 3, 1) := by decide +kernel
theorem dd_MO_type_11 : decode cd_MO_type 11 = .ok (.bipush 8, 2) := by decide +kernel
theorem dd_MO_type_13 : decode cd_MO_type 13 = .ok (.if_icmp .gt 14, 3) := by decide +kernel
theorem dd_MO_type_16 : decode cd_MO_type 16 = .ok (.aload_n 0, 1) := by decide +kernel
theorem dd_MO_type_17 : decode cd_MO_type 17 = .ok (.getfield 64, 3) := by decide +kernel
theorem dd_MO_type_20 : decode cd_MO_type 20 = .ok (.iload_n 3, 1) := by decide +kernel
theorem dd_MO_type_21 : decode cd_MO_type 21 = .ok (.iadd, 1) := by decide +kernel
theorem dd_MO_type_22 : decode cd_MO_type 22 = .ok (.bipush 48, 2) := by decide +kernel
theorem dd_MO_type_24 : decode cd_MO_type 24 = .ok (.if_icmp .le 5, 3) := by decide +kernel
theorem dd_MO_type_27 : decode cd_MO_type 27 = .ok (.iconst 0, 1) := by decide +kernel
theorem dd_MO_type_28 : decode cd_MO_type 28 = .ok (.ireturn, 1) := by decide +kernel
theorem dd_MO_type_29 : decode cd_MO_type 29 = .ok (.iconst 0, 1) := by decide +kernel
theorem dd_MO_type_30 : decode cd_MO_type 30 = .ok (.istore 4, 2) := by decide +kernel
theorem dd_MO_type_32 : decode cd_MO_type 32 = .ok (.iload 4, 2) := by decide +kernel
theorem dd_MO_type_34 : decode cd_MO_type 34 = .ok (.iload_n 3, 1) := by decide +kernel
theorem dd_MO_type_35 : decode cd_MO_type 35 = .ok (.if_icmp .ge 39, 3) := by decide +kernel
theorem dd_MO_type_38 : decode cd_MO_type 38 = .ok (.lload_n 1, 1) := by decide +kernel
theorem dd_MO_type_39 : decode cd_MO_type 39 = .ok (.bipush 8, 2) := by decide +kernel
theorem dd_MO_type_41 : decode cd_MO_type 41 = .ok (.iload 4, 2) := by decide +kernel
theorem dd_MO_type_43 : decode cd_MO_type 43 = .ok (.imul, 1) := by decide +kernel
theorem dd_MO_type_44 : decode cd_MO_type 44 = .ok (.lshr, 1) := by decide +kernel
theorem dd_MO_type_45 : decode cd_MO_type 45 = .ok (.ldc2_w 67, 3) := by decide +kernel
theorem dd_MO_type_48 : decode cd_MO_type 48 = .ok (.land, 1) := by decide +kernel
theorem dd_MO_type_49 : decode cd_MO_type 49 = .ok (.l2i, 1) := by decide +kernel
theorem dd_MO_type_50 : decode cd_MO_type 50 = .ok (.istore 5, 2) := by decide +kernel
theorem dd_MO_type_52 : decode cd_MO_type 52 = .ok (.iload 5, 2) := by decide +kernel
theorem dd_MO_type_54 : decode cd_MO_type 54 = .ok (.bipush 32, 2) := by decide +kernel
theorem dd_MO_type_56 : decode cd_MO_type 56 = .ok (.if_icmp .lt 10, 3) := by decide +kernel
theorem dd_MO_type_59 : decode cd_MO_type 59 = .ok (.iload 5, 2) := by decide +kernel
theorem dd_MO_type_61 : decode cd_MO_type 61 = .ok (.bipush 126, 2) := by decide +kernel
theorem dd_MO_type_63 : decode cd_MO_type 63 = .ok (.if_icmp .le 5, 3) := by decide +kernel
theorem dd_MO_type_66 : decode cd_MO_type 66 = .ok (.iconst 0, 1) := by decide +kernel
theorem dd_MO_type_67 : decode cd_MO_type 67 = .ok (.ireturn, 1) := by decide +kernel
theorem dd_MO_type_68 : decode cd_MO_type 68 = .ok (.iinc 4 1, 3) := by decide +kernel
theorem dd_MO_type_71 : decode cd_MO_type 71 = .ok (.goto (-39), 3) := by decide +kernel
theorem dd_MO_type_74 : decode cd_MO_type 74 = .ok (.iload_n 3, 1) := by decide +kernel
theorem dd_MO_type_75 : decode cd_MO_type 75 = .ok (.iconst 1, 1) := by decide +kernel
theorem dd_MO_type_76 : decode cd_MO_type 76 = .ok (.isub, 1) := by decide +kernel
theorem dd_MO_type_77 : decode cd_MO_type 77 = .ok (.istore 4, 2) := by decide +kernel
theorem dd_MO_type_79 : decode cd_MO_type 79 = .ok (.iload 4, 2) := by decide +kernel
theorem dd_MO_type_81 : decode cd_MO_type 81 = .ok (.ifCond .lt 40, 3) := by decide +kernel
theorem dd_MO_type_84 : decode cd_MO_type 84 = .ok (.aload_n 0, 1) := by decide +kernel
theorem dd_MO_type_85 : decode cd_MO_type 85 = .ok (.getfield 7, 3) := by decide +kernel
theorem dd_MO_type_88 : decode cd_MO_type 88 = .ok (.aload_n 0, 1) := by decide +kernel
theorem dd_MO_type_89 : decode cd_MO_type 89 = .ok (.getfield 64, 3) := by decide +kernel
theorem dd_MO_type_92 : decode cd_MO_type 92 = .ok (.lload_n 1, 1) := by decide +kernel
theorem dd_MO_type_93 : decode cd_MO_type 93 = .ok (.bipush 8, 2) := by decide +kernel
theorem dd_MO_type_95 : decode cd_MO_type 95 = .ok (.iload 4, 2) := by decide +kernel
theorem dd_MO_type_97 : decode cd_MO_type 97 = .ok (.imul, 1) := by decide +kernel
theorem dd_MO_type_98 : decode cd_MO_type 98 = .ok (.lshr, 1) := by decide +kernel
theorem dd_MO_type_99 : decode cd_MO_type 99 = .ok (.ldc2_w 67, 3) := by decide +kernel
theorem dd_MO_type_102 : decode cd_MO_type 102 = .ok (.land, 1) := by decide +kernel
theorem dd_MO_type_103 : decode cd_MO_type 103 = .ok (.l2i, 1) := by decide +kernel
theorem dd_MO_type_104 : decode cd_MO_type 104 = .ok (.iastore, 1) := by decide +kernel
theorem dd_MO_type_105 : decode cd_MO_type 105 = .ok (.aload_n 0, 1) := by decide +kernel
theorem dd_MO_type_106 : decode cd_MO_type 106 = .ok (.dup, 1) := by decide +kernel
theorem dd_MO_type_107 : decode cd_MO_type 107 = .ok (.getfield 64, 3) := by decide +kernel
theorem dd_MO_type_110 : decode cd_MO_type 110 = .ok (.iconst 1, 1) := by decide +kernel
theorem dd_MO_type_111 : decode cd_MO_type 111 = .ok (.iadd, 1) := by decide +kernel
theorem dd_MO_type_112 : decode cd_MO_type 112 = .ok (.putfield 64, 3) := by decide +kernel
theorem dd_MO_type_115 : decode cd_MO_type 115 = .ok (.iinc 4 (-1), 3) := by decide +kernel
theorem dd_MO_type_118 : decode cd_MO_type 118 = .ok (.goto (-39), 3) := by decide +kernel
theorem dd_MO_type_121 : decode cd_MO_type 121 = .ok (.iconst 1, 1) := by decide +kernel
theorem dd_MO_type_122 : decode cd_MO_type 122 = .ok (.ireturn, 1) := by decide +kernel
theorem dd_MO_exchange_0 : decode cd_MO_exchange 0 = .ok (.iload_n 1, 1) := by decide +kernel
theorem dd_MO_exchange_1 : decode cd_MO_exchange 1 = .ok (.ifCond .lt 8, 3) := by decide +kernel
theorem dd_MO_exchange_4 : decode cd_MO_exchange 4 = .ok (.iload_n 1, 1) := by decide +kernel
theorem dd_MO_exchange_5 : decode cd_MO_exchange 5 = .ok (.iconst 3, 1) := by decide +kernel
theorem dd_MO_exchange_6 : decode cd_MO_exchange 6 = .ok (.if_icmp .le 9, 3) := by decide +kernel
theorem dd_MO_exchange_9 : decode cd_MO_exchange 9 = .ok (.aload_n 0, 1) := by decide +kernel
theorem dd_MO_exchange_10 : decode cd_MO_exchange 10 = .ok (.iconst 1, 1) := by decide +kernel
theorem dd_MO_exchange_11 : decode cd_MO_exchange 11 = .ok (.invokevirtual 69, 3) := by decide +kernel
theorem dd_MO_exchange_14 : decode cd_MO_exchange 14 = .ok (.ireturn, 1) := by decide +kernel
theorem dd_MO_exchange_15 : decode cd_MO_exchange 15 = .ok (.iconst 0, 1) := by decide +kernel
theorem dd_MO_exchange_16 : decode cd_MO_exchange 16 = .ok (.istore_n 2, 1) := by decide +kernel
theorem dd_MO_exchange_17 : decode cd_MO_exchange 17 = .ok (.iload_n 2, 1) := by decide +kernel
theorem dd_MO_exchange_18 : decode cd_MO_exchange 18 = .ok (.bipush 16, 2) := by decide +kernel
theorem dd_MO_exchange_20 : decode cd_MO_exchange 20 = .ok (.if_icmp .ge 19, 3) := by decide +kernel
theorem dd_MO_exchange_23 : decode cd_MO_exchange 23 = .ok (.aload_n 0, 1) := by decide +kernel
theorem dd_MO_exchange_24 : decode cd_MO_exchange 24 = .ok (.getfield 13, 3) := by decide +kernel
theorem dd_MO_exchange_27 : decode cd_MO_exchange 27 = .ok (.iload_n 2, 1) := by decide +kernel
theorem dd_MO_exchange_28 : decode cd_MO_exchange 28 = .ok (.iaload, 1) := by decide +kernel
theorem dd_MO_exchange_29 : decode cd_MO_exchange 29 = .ok (.iconst (-1), 1) := by decide +kernel
theorem dd_MO_exchange_30 : decode cd_MO_exchange 30 = .ok (.if_icmp .eq 9, 3) := by decide +kernel
theorem dd_MO_exchange_33 : decode cd_MO_exchange 33 = .ok (.iinc 2 1, 3) := by decide +kernel
theorem dd_MO_exchange_36 : decode cd_MO_exchange 36 = .ok (.goto (-19), 3) := by decide +kernel
theorem dd_MO_exchange_39 : decode cd_MO_exchange 39 = .ok (.iload_n 2, 1) := by decide +kernel
theorem dd_MO_exchange_40 : decode cd_MO_exchange 40 = .ok (.bipush 16, 2) := by decide +kernel
theorem dd_MO_exchange_42 : decode cd_MO_exchange 42 = .ok (.if_icmp .ne 9, 3) := by decide +kernel
theorem dd_MO_exchange_45 : decode cd_MO_exchange 45 = .ok (.aload_n 0, 1) := by decide +kernel
theorem dd_MO_exchange_46 : decode cd_MO_exchange 46 = .ok (.iconst 2, 1) := by decide +kernel
theorem dd_MO_exchange_47 : decode cd_MO_exchange 47 = .ok (.invokevirtual 69, 3) := by decide +kernel
theorem dd_MO_exchange_50 : decode cd_MO_exchange 50 = .ok (.ireturn, 1) := by decide +kernel
theorem dd_MO_exchange_51 : decode cd_MO_exchange 51 = .ok (.aload_n 0, 1) := by decide +kernel
theorem dd_MO_exchange_52 : decode cd_MO_exchange 52 = .ok (.iconst 0, 1) := by decide +kernel
theorem dd_MO_exchange_53 : decode cd_MO_exchange 53 = .ok (.putfield 60, 3) := by decide +kernel
theorem dd_MO_exchange_56 : decode cd_MO_exchange 56 = .ok (.aload_n 0, 1) := by decide +kernel
theorem dd_MO_exchange_57 : decode cd_MO_exchange 57 = .ok (.getfield 13, 3) := by decide +kernel
theorem dd_MO_exchange_60 : decode cd_MO_exchange 60 = .ok (.iload_n 2, 1) := by decide +kernel
theorem dd_MO_exchange_61 : decode cd_MO_exchange 61 = .ok (.iload_n 1, 1) := by decide +kernel
theorem dd_MO_exchange_62 : decode cd_MO_exchange 62 = .ok (.iastore, 1) := by decide +kernel
theorem dd_MO_exchange_63 : decode cd_MO_exchange 63 = .ok (.aload_n 0, 1) := by decide +kernel
theorem dd_MO_exchange_64 : decode cd_MO_exchange 64 = .ok (.getfield 16, 3) := by decide +kernel
theorem dd_MO_exchange_67 : decode cd_MO_exchange 67 = .ok (.iload_n 2, 1) := by decide +kernel
theorem dd_MO_exchange_68 : decode cd_MO_exchange 68 = .ok (.iconst (-1), 1) := by decide +kernel
theorem dd_MO_exchange_69 : decode cd_MO_exchange 69 = .ok (.iastore, 1) := by decide +kernel
theorem dd_MO_exchange_70 : decode cd_MO_exchange 70 = .ok (.iload_n 2, 1) := by decide +kernel
theorem dd_MO_exchange_71 : decode cd_MO_exchange 71 = .ok (.ireturn, 1) := by decide +kernel
theorem dd_MO_raise_0 : decode cd_MO_raise 0 = .ok (.aload_n 0, 1) := by decide +kernel
theorem dd_MO_raise_1 : decode cd_MO_raise 1 = .ok (.iload_n 1, 1) := by decide +kernel
theorem dd_MO_raise_2 : decode cd_MO_raise 2 = .ok (.putfield 60, 3) := by decide +kernel
theorem dd_MO_raise_5 : decode cd_MO_raise 5 = .ok (.iconst 0, 1) := by decide +kernel
theorem dd_MO_raise_6 : decode cd_MO_raise 6 = .ok (.ireturn, 1) := by decide +kernel
theorem dd_MO_alternate_0 : decode cd_MO_alternate 0 = .ok (.aload_n 0, 1) := by decide +kernel
theorem dd_MO_alternate_1 : decode cd_MO_alternate 1 = .ok (.iconst 0, 1) := by decide +kernel
theorem dd_MO_alternate_2 : decode cd_MO_alternate 2 = .ok (.putfield 60, 3) := by decide +kernel
theorem dd_MO_alternate_5 : decode cd_MO_alternate 5 = .ok (.aload_n 0, 1) := by decide +kernel
theorem dd_MO_alternate_6 : decode cd_MO_alternate 6 = .ok (.iload_n 1, 1) := by decide +kernel
theorem dd_MO_alternate_7 : decode cd_MO_alternate 7 = .ok (.invokevirtual 73, 3) := by decide +kernel
theorem dd_MO_alternate_10 : decode cd_MO_alternate 10 = .ok (.ifCond .eq 19, 3) := by decide +kernel
theorem dd_MO_alternate_13 : decode cd_MO_alternate 13 = .ok (.iload_n 2, 1) := by decide +kernel
theorem dd_MO_alternate_14 : decode cd_MO_alternate 14 = .ok (.iconst (-1), 1) := by decide +kernel
theorem dd_MO_alternate_15 : decode cd_MO_alternate 15 = .ok (.if_icmp .lt 14, 3) := by decide +kernel
theorem dd_MO_alternate_18 : decode cd_MO_alternate 18 = .ok (.iload_n 2, 1) := by decide +kernel
theorem dd_MO_alternate_19 : decode cd_MO_alternate 19 = .ok (.bipush 16, 2) := by decide +kernel
theorem dd_MO_alternate_21 : decode cd_MO_alternate 21 = .ok (.if_icmp .ge 8, 3) := by decide +kernel
theorem dd_MO_alternate_24 : decode cd_MO_alternate 24 = .ok (.iload_n 2, 1) := by decide +kernel
theorem dd_MO_alternate_25 : decode cd_MO_alternate 25 = .ok (.iload_n 1, 1) := by decide +kernel
theorem dd_MO_alternate_26 : decode cd_MO_alternate 26 = .ok (.if_icmp .ne 5, 3) := by decide +kernel
theorem dd_MO_alternate_29 : decode cd_MO_alternate 29 = .ok (.iconst 0, 1) := by decide +kernel
theorem dd_MO_alternate_30 : decode cd_MO_alternate 30 = .ok (.ireturn, 1) := by decide +kernel
theorem dd_MO_alternate_31 : decode cd_MO_alternate 31 = .ok (.aload_n 0, 1) := by decide +kernel
theorem dd_MO_alternate_32 : decode cd_MO_alternate 32 = .ok (.getfield 16, 3) := by decide +kernel
theorem dd_MO_alternate_35 : decode cd_MO_alternate 35 = .ok (.iload_n 1, 1) := by decide +kernel
theorem dd_MO_alternate_36 : decode cd_MO_alternate 36 = .ok (.iload_n 2, 1) := by decide +kernel
theorem dd_MO_alternate_37 : decode cd_MO_alternate 37 = .ok (.iastore, 1) := by decide +kernel
theorem dd_MO_alternate_38 : decode cd_MO_alternate 38 = .ok (.iconst 1, 1) := by decide +kernel
theorem dd_MO_alternate_39 : decode cd_MO_alternate 39 = .ok (.ireturn, 1) := by decide +kernel
theorem dd_MO_isExchange_0 : decode cd_MO_isExchange 0 = .ok (.iload_n 1, 1) := by decide +kernel
theorem dd_MO_isExchange_1 : decode cd_MO_isExchange 1 = .ok (.ifCond .lt 23, 3) := by decide +kernel
theorem dd_MO_isExchange_4 : decode cd_MO_isExchange 4 = .ok (.iload_n 1, 1) := by decide +kernel
theorem dd_MO_isExchange_5 : decode cd_MO_isExchange 5 = .ok (.bipush 16, 2) := by decide +kernel
theorem dd_MO_isExchange_7 : decode cd_MO_isExchange 7 = .ok (.if_icmp .ge 17, 3) := by decide +kernel
theorem dd_MO_isExchange_10 : decode cd_MO_isExchange 10 = .ok (.aload_n 0, 1) := by decide +kernel
theorem dd_MO_isExchange_11 : decode cd_MO_isExchange 11 = .ok (.getfield 13, 3) := by decide +kernel
theorem dd_MO_isExchange_14 : decode cd_MO_isExchange 14 = .ok (.iload_n 1, 1) := by decide +kernel
theorem dd_MO_isExchange_15 : decode cd_MO_isExchange 15 = .ok (.iaload, 1) := by decide +kernel
theorem dd_MO_isExchange_16 : decode cd_MO_isExchange 16 = .ok (.iconst (-1), 1) := by decide +kernel
theorem dd_MO_isExchange_17 : decode cd_MO_isExchange 17 = .ok (.if_icmp .eq 7, 3) := by decide +kernel
theorem dd_MO_isExchange_20 : decode cd_MO_isExchange 20 = .ok (.iconst 1, 1) := by decide +kernel
theorem dd_MO_isExchange_21 : decode cd_MO_isExchange 21 = .ok (.goto 4, 3) := by decide +kernel
theorem dd_MO_isExchange_24 : decode cd_MO_isExchange 24 = .ok (.iconst 0, 1) := by decide +kernel
theorem dd_MO_isExchange_25 : decode cd_MO_isExchange 25 = .ok (.ireturn, 1) := by decide +kernel
theorem dd_MO_queue_0 : decode cd_MO_queue 0 = .ok (.iconst 0, 1) := by decide +kernel
theorem dd_MO_queue_1 : decode cd_MO_queue 1 = .ok (.istore_n 1, 1) := by decide +kernel
theorem dd_MO_queue_2 : decode cd_MO_queue 2 = .ok (.iload_n 1, 1) := by decide +kernel
theorem dd_MO_queue_3 : decode cd_MO_queue 3 = .ok (.bipush 16, 2) := by decide +kernel
theorem dd_MO_queue_5 : decode cd_MO_queue 5 = .ok (.if_icmp .ge 18, 3) := by decide +kernel
theorem dd_MO_queue_8 : decode cd_MO_queue 8 = .ok (.aload_n 0, 1) := by decide +kernel
theorem dd_MO_queue_9 : decode cd_MO_queue 9 = .ok (.getfield 19, 3) := by decide +kernel
theorem dd_MO_queue_12 : decode cd_MO_queue 12 = .ok (.iload_n 1, 1) := by decide +kernel
theorem dd_MO_queue_13 : decode cd_MO_queue 13 = .ok (.baload, 1) := by decide +kernel
theorem dd_MO_queue_14 : decode cd_MO_queue 14 = .ok (.ifCond .eq 9, 3) := by decide +kernel
theorem dd_MO_queue_17 : decode cd_MO_queue 17 = .ok (.iinc 1 1, 3) := by decide +kernel
theorem dd_MO_queue_20 : decode cd_MO_queue 20 = .ok (.goto (-18), 3) := by decide +kernel
theorem dd_MO_queue_23 : decode cd_MO_queue 23 = .ok (.iload_n 1, 1) := by decide +kernel
theorem dd_MO_queue_24 : decode cd_MO_queue 24 = .ok (.bipush 16, 2) := by decide +kernel
theorem dd_MO_queue_26 : decode cd_MO_queue 26 = .ok (.if_icmp .ne 9, 3) := by decide +kernel
theorem dd_MO_queue_29 : decode cd_MO_queue 29 = .ok (.aload_n 0, 1) := by decide +kernel
theorem dd_MO_queue_30 : decode cd_MO_queue 30 = .ok (.iconst 1, 1) := by decide +kernel
theorem dd_MO_queue_31 : decode cd_MO_queue 31 = .ok (.invokevirtual 69, 3) := by decide +kernel
theorem dd_MO_queue_34 : decode cd_MO_queue 34 = .ok (.ireturn, 1) := by decide +kernel
theorem dd_MO_queue_35 : decode cd_MO_queue 35 = .ok (.aload_n 0, 1) := by decide +kernel
theorem dd_MO_queue_36 : decode cd_MO_queue 36 = .ok (.iconst 0, 1) := by decide +kernel
theorem dd_MO_queue_37 : decode cd_MO_queue 37 = .ok (.putfield 60, 3) := by decide +kernel
theorem dd_MO_queue_40 : decode cd_MO_queue 40 = .ok (.aload_n 0, 1) := by decide +kernel
theorem dd_MO_queue_41 : decode cd_MO_queue 41 = .ok (.getfield 19, 3) := by decide +kernel
theorem dd_MO_queue_44 : decode cd_MO_queue 44 = .ok (.iload_n 1, 1) := by decide +kernel
theorem dd_MO_queue_45 : decode cd_MO_queue 45 = .ok (.iconst 1, 1) := by decide +kernel
theorem dd_MO_queue_46 : decode cd_MO_queue 46 = .ok (.bastore, 1) := by decide +kernel
theorem dd_MO_queue_47 : decode cd_MO_queue 47 = .ok (.iload_n 1, 1) := by decide +kernel
theorem dd_MO_queue_48 : decode cd_MO_queue 48 = .ok (.ireturn, 1) := by decide +kernel
