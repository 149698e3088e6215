/-! printed (gen/names.py): what the codes decode to -/
theorem dd_MO_remove_0 : decode cd_MO_remove 0 = .ok (.aload_n 0, 1) := by decide +kernel
theorem dd_MO_remove_1 : decode cd_MO_remove 1 = .ok (.iconst 0, 1) := by decide +kernel
theorem dd_MO_remove_2 : decode cd_MO_remove 2 = .ok (.putfield 60, 3) := by decide +kernel
theorem dd_MO_remove_5 : decode cd_MO_remove 5 = .ok (.iload_n 2, 1) := by decide +kernel
theorem dd_MO_remove_6 : decode cd_MO_remove 6 = .ok (.ifCond .eq 14, 3) := by decide +kernel
theorem dd_MO_remove_9 : decode cd_MO_remove 9 = .ok (.aload_n 0, 1) := by decide +kernel
theorem dd_MO_remove_10 : decode cd_MO_remove 10 = .ok (.iload_n 1, 1) := by decide +kernel
theorem dd_MO_remove_11 : decode cd_MO_remove 11 = .ok (.invokevirtual 80, 3) := by decide +kernel
theorem dd_MO_remove_14 : decode cd_MO_remove 14 = .ok (.ifCond .ne 16, 3) := by decide +kernel
theorem dd_MO_remove_17 : decode cd_MO_remove 17 = .ok (.goto 11, 3) := by decide +kernel
theorem dd_MO_remove_20 : decode cd_MO_remove 20 = .ok (.aload_n 0, 1) := by decide +kernel
theorem dd_MO_remove_21 : decode cd_MO_remove 21 = .ok (.iload_n 1, 1) := by decide +kernel
theorem dd_MO_remove_22 : decode cd_MO_remove 22 = .ok (.invokevirtual 73, 3) := by decide +kernel
theorem dd_MO_remove_25 : decode cd_MO_remove 25 = .ok (.ifCond .ne 5, 3) := by decide +kernel
theorem dd_MO_remove_28 : decode cd_MO_remove 28 = .ok (.iconst 0, 1) := by decide +kernel
theorem dd_MO_remove_29 : decode cd_MO_remove 29 = .ok (.ireturn, 1) := by decide +kernel
theorem dd_MO_remove_30 : decode cd_MO_remove 30 = .ok (.aload_n 0, 1) := by decide +kernel
theorem dd_MO_remove_31 : decode cd_MO_remove 31 = .ok (.getfield 77, 3) := by decide +kernel
theorem dd_MO_remove_34 : decode cd_MO_remove 34 = .ok (.iconst 1, 1) := by decide +kernel
theorem dd_MO_remove_35 : decode cd_MO_remove 35 = .ok (.isub, 1) := by decide +kernel
theorem dd_MO_remove_36 : decode cd_MO_remove 36 = .ok (.istore_n 3, 1) := by decide +kernel
theorem dd_MO_remove_37 : decode cd_MO_remove 37 = .ok (.iload_n 3, 1) := by decide +kernel
theorem dd_MO_remove_38 : decode cd_MO_remove 38 = .ok (.ifCond .lt 49, 3) := by decide +kernel
theorem dd_MO_remove_41 : decode cd_MO_remove 41 = .ok (.aload_n 0, 1) := by decide +kernel
theorem dd_MO_remove_42 : decode cd_MO_remove 42 = .ok (.getfield 26, 3) := by decide +kernel
theorem dd_MO_remove_45 : decode cd_MO_remove 45 = .ok (.iload_n 3, 1) := by decide +kernel
theorem dd_MO_remove_46 : decode cd_MO_remove 46 = .ok (.iaload, 1) := by decide +kernel
theorem dd_MO_remove_47 : decode cd_MO_remove 47 = .ok (.iload_n 2, 1) := by decide +kernel
theorem dd_MO_remove_48 : decode cd_MO_remove 48 = .ok (.ifCond .eq 10, 3) := by decide +kernel
theorem dd_MO_remove_51 : decode cd_MO_remove 51 = .ok (.bipush 16, 2) := by decide +kernel
theorem dd_MO_remove_53 : decode cd_MO_remove 53 = .ok (.iload_n 1, 1) := by decide +kernel
theorem dd_MO_remove_54 : decode cd_MO_remove 54 = .ok (.iadd, 1) := by decide +kernel
theorem dd_MO_remove_55 : decode cd_MO_remove 55 = .ok (.goto 4, 3) := by decide +kernel
theorem dd_MO_remove_58 : decode cd_MO_remove 58 = .ok (.iload_n 1, 1) := by decide +kernel
theorem dd_MO_remove_59 : decode cd_MO_remove 59 = .ok (.if_icmp .eq 17, 3) := by decide +kernel
theorem dd_MO_remove_62 : decode cd_MO_remove 62 = .ok (.iload_n 2, 1) := by decide +kernel
theorem dd_MO_remove_63 : decode cd_MO_remove 63 = .ok (.ifCond .ne 18, 3) := by decide +kernel
theorem dd_MO_remove_66 : decode cd_MO_remove 66 = .ok (.aload_n 0, 1) := by decide +kernel
theorem dd_MO_remove_67 : decode cd_MO_remove 67 = .ok (.getfield 23, 3) := by decide +kernel
theorem dd_MO_remove_70 : decode cd_MO_remove 70 = .ok (.iload_n 3, 1) := by decide +kernel
theorem dd_MO_remove_71 : decode cd_MO_remove 71 = .ok (.iaload, 1) := by decide +kernel
theorem dd_MO_remove_72 : decode cd_MO_remove 72 = .ok (.iload_n 1, 1) := by decide +kernel
theorem dd_MO_remove_73 : decode cd_MO_remove 73 = .ok (.if_icmp .ne 8, 3) := by decide +kernel
theorem dd_MO_remove_76 : decode cd_MO_remove 76 = .ok (.aload_n 0, 1) := by decide +kernel
theorem dd_MO_remove_77 : decode cd_MO_remove 77 = .ok (.iload_n 3, 1) := by decide +kernel
theorem dd_MO_remove_78 : decode cd_MO_remove 78 = .ok (.invokevirtual 83, 3) := by decide +kernel
theorem dd_MO_remove_81 : decode cd_MO_remove 81 = .ok (.iinc 3 (-1), 3) := by decide +kernel
theorem dd_MO_remove_84 : decode cd_MO_remove 84 = .ok (.goto (-47), 3) := by decide +kernel
theorem dd_MO_remove_87 : decode cd_MO_remove 87 = .ok (.iload_n 2, 1) := by decide +kernel
theorem dd_MO_remove_88 : decode cd_MO_remove 88 = .ok (.ifCond .eq 13, 3) := by decide +kernel
theorem dd_MO_remove_91 : decode cd_MO_remove 91 = .ok (.aload_n 0, 1) := by decide +kernel
theorem dd_MO_remove_92 : decode cd_MO_remove 92 = .ok (.getfield 19, 3) := by decide +kernel
theorem dd_MO_remove_95 : decode cd_MO_remove 95 = .ok (.iload_n 1, 1) := by decide +kernel
theorem dd_MO_remove_96 : decode cd_MO_remove 96 = .ok (.iconst 0, 1) := by decide +kernel
theorem dd_MO_remove_97 : decode cd_MO_remove 97 = .ok (.bastore, 1) := by decide +kernel
theorem dd_MO_remove_98 : decode cd_MO_remove 98 = .ok (.goto 10, 3) := by decide +kernel
theorem dd_MO_remove_101 : decode cd_MO_remove 101 = .ok (.aload_n 0, 1) := by decide +kernel
theorem dd_MO_remove_102 : decode cd_MO_remove 102 = .ok (.getfield 13, 3) := by decide +kernel
theorem dd_MO_remove_105 : decode cd_MO_remove 105 = .ok (.iload_n 1, 1) := by decide +kernel
theorem dd_MO_remove_106 : decode cd_MO_remove 106 = .ok (.iconst (-1), 1) := by decide +kernel
theorem dd_MO_remove_107 : decode cd_MO_remove 107 = .ok (.iastore, 1) := by decide +kernel
theorem dd_MO_remove_108 : decode cd_MO_remove 108 = .ok (.iconst 1, 1) := by decide +kernel
theorem dd_MO_remove_109 : decode cd_MO_remove 109 = .ok (.ireturn, 1) := by decide +kernel
theorem dd_MO_isQueue_0 : decode cd_MO_isQueue 0 = .ok (.iload_n 1, 1) := by decide +kernel
theorem dd_MO_isQueue_1 : decode cd_MO_isQueue 1 = .ok (.ifCond .lt 22, 3) := by decide +kernel
theorem dd_MO_isQueue_4 : decode cd_MO_isQueue 4 = .ok (.iload_n 1, 1) := by decide +kernel
theorem dd_MO_isQueue_5 : decode cd_MO_isQueue 5 = .ok (.bipush 16, 2) := by decide +kernel
theorem dd_MO_isQueue_7 : decode cd_MO_isQueue 7 = .ok (.if_icmp .ge 16, 3) := by decide +kernel
theorem dd_MO_isQueue_10 : decode cd_MO_isQueue 10 = .ok (.aload_n 0, 1) := by decide +kernel
theorem dd_MO_isQueue_11 : decode cd_MO_isQueue 11 = .ok (.getfield 19, 3) := by decide +kernel
theorem dd_MO_isQueue_14 : decode cd_MO_isQueue 14 = .ok (.iload_n 1, 1) := by decide +kernel
theorem dd_MO_isQueue_15 : decode cd_MO_isQueue 15 = .ok (.baload, 1) := by decide +kernel
theorem dd_MO_isQueue_16 : decode cd_MO_isQueue 16 = .ok (.ifCond .eq 7, 3) := by decide +kernel
theorem dd_MO_isQueue_19 : decode cd_MO_isQueue 19 = .ok (.iconst 1, 1) := by decide +kernel
theorem dd_MO_isQueue_20 : decode cd_MO_isQueue 20 = .ok (.goto 4, 3) := by decide +kernel
theorem dd_MO_isQueue_23 : decode cd_MO_isQueue 23 = .ok (.iconst 0, 1) := by decide +kernel
theorem dd_MO_isQueue_24 : decode cd_MO_isQueue 24 = .ok (.ireturn, 1) := by decide +kernel
theorem dd_MO_drop_0 : decode cd_MO_drop 0 = .ok (.aload_n 0, 1) := by decide +kernel
theorem dd_MO_drop_1 : decode cd_MO_drop 1 = .ok (.dup, 1) := by decide +kernel
theorem dd_MO_drop_2 : decode cd_MO_drop 2 = .ok (.getfield 77, 3) := by decide +kernel
theorem dd_MO_drop_5 : decode cd_MO_drop 5 = .ok (.iconst 1, 1) := by decide +kernel
theorem dd_MO_drop_6 : decode cd_MO_drop 6 = .ok (.isub, 1) := by decide +kernel
theorem dd_MO_drop_7 : decode cd_MO_drop 7 = .ok (.putfield 77, 3) := by decide +kernel
theorem dd_MO_drop_10 : decode cd_MO_drop 10 = .ok (.iload_n 1, 1) := by decide +kernel
theorem dd_MO_drop_11 : decode cd_MO_drop 11 = .ok (.istore_n 2, 1) := by decide +kernel
theorem dd_MO_drop_12 : decode cd_MO_drop 12 = .ok (.iload_n 2, 1) := by decide +kernel
theorem dd_MO_drop_13 : decode cd_MO_drop 13 = .ok (.aload_n 0, 1) := by decide +kernel
theorem dd_MO_drop_14 : decode cd_MO_drop 14 = .ok (.getfield 77, 3) := by decide +kernel
theorem dd_MO_drop_17 : decode cd_MO_drop 17 = .ok (.if_icmp .ge 90, 3) := by decide +kernel
theorem dd_MO_drop_20 : decode cd_MO_drop 20 = .ok (.aload_n 0, 1) := by decide +kernel
theorem dd_MO_drop_21 : decode cd_MO_drop 21 = .ok (.getfield 23, 3) := by decide +kernel
theorem dd_MO_drop_24 : decode cd_MO_drop 24 = .ok (.iload_n 2, 1) := by decide +kernel
theorem dd_MO_drop_25 : decode cd_MO_drop 25 = .ok (.aload_n 0, 1) := by decide +kernel
theorem dd_MO_drop_26 : decode cd_MO_drop 26 = .ok (.getfield 23, 3) := by decide +kernel
theorem dd_MO_drop_29 : decode cd_MO_drop 29 = .ok (.iload_n 2, 1) := by decide +kernel
theorem dd_MO_drop_30 : decode cd_MO_drop 30 = .ok (.iconst 1, 1) := by decide +kernel
theorem dd_MO_drop_31 : decode cd_MO_drop 31 = .ok (.iadd, 1) := by decide +kernel
theorem dd_MO_drop_32 : decode cd_MO_drop 32 = .ok (.iaload, 1) := by decide +kernel
theorem dd_MO_drop_33 : decode cd_MO_drop 33 = .ok (.iastore, 1) := by decide +kernel
theorem dd_MO_drop_34 : decode cd_MO_drop 34 = .ok (.aload_n 0, 1) := by decide +kernel
theorem dd_MO_drop_35 : decode cd_MO_drop 35 = .ok (.getfield 26, 3) := by decide +kernel
theorem dd_MO_drop_38 : decode cd_MO_drop 38 = .ok (.iload_n 2, 1) := by decide +kernel
theorem dd_MO_drop_39 : decode cd_MO_drop 39 = .ok (.aload_n 0, 1) := by decide +kernel
theorem dd_MO_drop_40 : decode cd_MO_drop 40 = .ok (.getfield 26, 3) := by decide +kernel
theorem dd_MO_drop_43 : decode cd_MO_drop 43 = .ok (.iload_n 2, 1) := by decide +kernel
theorem dd_MO_drop_44 : decode cd_MO_drop 44 = .ok (.iconst 1, 1) := by decide +kernel
theorem dd_MO_drop_45 : decode cd_MO_drop 45 = .ok (.iadd, 1) := by decide +kernel
theorem dd_MO_drop_46 : decode cd_MO_drop 46 = .ok (.iaload, 1) := by decide +kernel
theorem dd_MO_drop_47 : decode cd_MO_drop 47 = .ok (.iastore, 1) := by decide +kernel
theorem dd_MO_drop_48 : decode cd_MO_drop 48 = .ok (.aload_n 0, 1) := by decide +kernel
theorem dd_MO_drop_49 : decode cd_MO_drop 49 = .ok (.getfield 29, 3) := by decide +kernel
theorem dd_MO_drop_52 : decode cd_MO_drop 52 = .ok (.iload_n 2, 1) := by decide +kernel
theorem dd_MO_drop_53 : decode cd_MO_drop 53 = .ok (.aload_n 0, 1) := by decide +kernel
theorem dd_MO_drop_54 : decode cd_MO_drop 54 = .ok (.getfield 29, 3) := by decide +kernel
theorem dd_MO_drop_57 : decode cd_MO_drop 57 = .ok (.iload_n 2, 1) := by decide +kernel
theorem dd_MO_drop_58 : decode cd_MO_drop 58 = .ok (.iconst 1, 1) := by decide +kernel
theorem dd_MO_drop_59 : decode cd_MO_drop 59 = .ok (.iadd, 1) := by decide +kernel
theorem dd_MO_drop_60 : decode cd_MO_drop 60 = .ok (.iaload, 1) := by decide +kernel
theorem dd_MO_drop_61 : decode cd_MO_drop 61 = .ok (.iastore, 1) := by decide +kernel
theorem dd_MO_drop_62 : decode cd_MO_drop 62 = .ok (.iconst 0, 1) := by decide +kernel
theorem dd_MO_drop_63 : decode cd_MO_drop 63 = .ok (.istore_n 3, 1) := by decide +kernel
theorem dd_MO_drop_64 : decode cd_MO_drop 64 = .ok (.iload_n 3, 1) := by decide +kernel
theorem dd_MO_drop_65 : decode cd_MO_drop 65 = .ok (.bipush 48, 2) := by decide +kernel
theorem dd_MO_drop_67 : decode cd_MO_drop 67 = .ok (.if_icmp .ge 34, 3) := by decide +kernel
theorem dd_MO_drop_70 : decode cd_MO_drop 70 = .ok (.aload_n 0, 1) := by decide +kernel
theorem dd_MO_drop_71 : decode cd_MO_drop 71 = .ok (.getfield 32, 3) := by decide +kernel
theorem dd_MO_drop_74 : decode cd_MO_drop 74 = .ok (.bipush 48, 2) := by decide +kernel
theorem dd_MO_drop_76 : decode cd_MO_drop 76 = .ok (.iload_n 2, 1) := by decide +kernel
theorem dd_MO_drop_77 : decode cd_MO_drop 77 = .ok (.imul, 1) := by decide +kernel
theorem dd_MO_drop_78 : decode cd_MO_drop 78 = .ok (.iload_n 3, 1) := by decide +kernel
theorem dd_MO_drop_79 : decode cd_MO_drop 79 = .ok (.iadd, 1) := by decide +kernel
theorem dd_MO_drop_80 : decode cd_MO_drop 80 = .ok (.aload_n 0, 1) := by decide +kernel
theorem dd_MO_drop_81 : decode cd_MO_drop 81 = .ok (.getfield 32, 3) := by decide +kernel
theorem dd_MO_drop_84 : decode cd_MO_drop 84 = .ok (.bipush 48, 2) := by decide +kernel
theorem dd_MO_drop_86 : decode cd_MO_drop 86 = .ok (.iload_n 2, 1) := by decide +kernel
theorem dd_MO_drop_87 : decode cd_MO_drop 87 = .ok (.imul, 1) := by decide +kernel
theorem dd_MO_drop_88 : decode cd_MO_drop 88 = .ok (.bipush 48, 2) := by decide +kernel
theorem dd_MO_drop_90 : decode cd_MO_drop 90 = .ok (.iadd, 1) := by decide +kernel
theorem dd_MO_drop_91 : decode cd_MO_drop 91 = .ok (.iload_n 3, 1) := by decide +kernel
theorem dd_MO_drop_92 : decode cd_MO_drop 92 = .ok (.iadd, 1) := by decide +kernel
theorem dd_MO_drop_93 : decode cd_MO_drop 93 = .ok (.iaload, 1) := by decide +kernel
theorem dd_MO_drop_94 : decode cd_MO_drop 94 = .ok (.iastore, 1) := by decide +kernel
theorem dd_MO_drop_95 : decode cd_MO_drop 95 = .ok (.iinc 3 1, 3) := by decide +kernel
theorem dd_MO_drop_98 : decode cd_MO_drop 98 = .ok (.goto (-34), 3) := by decide +kernel
theorem dd_MO_drop_101 : decode cd_MO_drop 101 = .ok (.iinc 2 1, 3) := by decide +kernel
theorem dd_MO_drop_104 : decode cd_MO_drop 104 = .ok (.goto (-92), 3) := by decide +kernel
theorem dd_MO_drop_107 : decode cd_MO_drop 107 = .ok (.return_, 1) := by decide +kernel
theorem dd_MO_bind_0 : decode cd_MO_bind 0 = .ok (.aload_n 0, 1) := by decide +kernel
theorem dd_MO_bind_1 : decode cd_MO_bind 1 = .ok (.iload_n 1, 1) := by decide +kernel
theorem dd_MO_bind_2 : decode cd_MO_bind 2 = .ok (.invokevirtual 73, 3) := by decide +kernel
theorem dd_MO_bind_5 : decode cd_MO_bind 5 = .ok (.ifCond .eq 29, 3) := by decide +kernel
theorem dd_MO_bind_8 : decode cd_MO_bind 8 = .ok (.aload_n 0, 1) := by decide +kernel
theorem dd_MO_bind_9 : decode cd_MO_bind 9 = .ok (.iload_n 2, 1) := by decide +kernel
theorem dd_MO_bind_10 : decode cd_MO_bind 10 = .ok (.iload_n 3, 1) := by decide +kernel
theorem dd_MO_bind_11 : decode cd_MO_bind 11 = .ok (.invokevirtual 112, 3) := by decide +kernel
theorem dd_MO_bind_14 : decode cd_MO_bind 14 = .ok (.ifCond .eq 20, 3) := by decide +kernel
theorem dd_MO_bind_17 : decode cd_MO_bind 17 = .ok (.aload_n 0, 1) := by decide +kernel
theorem dd_MO_bind_18 : decode cd_MO_bind 18 = .ok (.aload_n 0, 1) := by decide +kernel
theorem dd_MO_bind_19 : decode cd_MO_bind 19 = .ok (.getfield 13, 3) := by decide +kernel
theorem dd_MO_bind_22 : decode cd_MO_bind 22 = .ok (.iload_n 1, 1) := by decide +kernel
theorem dd_MO_bind_23 : decode cd_MO_bind 23 = .ok (.iaload, 1) := by decide +kernel
theorem dd_MO_bind_24 : decode cd_MO_bind 24 = .ok (.invokevirtual 116, 3) := by decide +kernel
theorem dd_MO_bind_27 : decode cd_MO_bind 27 = .ok (.ifCond .eq 7, 3) := by decide +kernel
theorem dd_MO_bind_30 : decode cd_MO_bind 30 = .ok (.iconst 1, 1) := by decide +kernel
theorem dd_MO_bind_31 : decode cd_MO_bind 31 = .ok (.goto 4, 3) := by decide +kernel
theorem dd_MO_bind_34 : decode cd_MO_bind 34 = .ok (.iconst 0, 1) := by decide +kernel
theorem dd_MO_bind_35 : decode cd_MO_bind 35 = .ok (.istore 4, 2) := by decide +kernel
theorem dd_MO_bind_37 : decode cd_MO_bind 37 = .ok (.iload_n 3, 1) := by decide +kernel
theorem dd_MO_bind_38 : decode cd_MO_bind 38 = .ok (.ifCond .eq 10, 3) := by decide +kernel
theorem dd_MO_bind_41 : decode cd_MO_bind 41 = .ok (.bipush 16, 2) := by decide +kernel
theorem dd_MO_bind_43 : decode cd_MO_bind 43 = .ok (.iload_n 2, 1) := by decide +kernel
theorem dd_MO_bind_44 : decode cd_MO_bind 44 = .ok (.iadd, 1) := by decide +kernel
theorem dd_MO_bind_45 : decode cd_MO_bind 45 = .ok (.goto 4, 3) := by decide +kernel
theorem dd_MO_bind_48 : decode cd_MO_bind 48 = .ok (.iload_n 2, 1) := by decide +kernel
theorem dd_MO_bind_49 : decode cd_MO_bind 49 = .ok (.istore 5, 2) := by decide +kernel
theorem dd_MO_bind_51 : decode cd_MO_bind 51 = .ok (.iload 4, 2) := by decide +kernel
theorem dd_MO_bind_53 : decode cd_MO_bind 53 = .ok (.ifCond .eq 18, 3) := by decide +kernel
theorem dd_MO_bind_56 : decode cd_MO_bind 56 = .ok (.aload_n 0, 1) := by decide +kernel
theorem dd_MO_bind_57 : decode cd_MO_bind 57 = .ok (.iload_n 1, 1) := by decide +kernel
theorem dd_MO_bind_58 : decode cd_MO_bind 58 = .ok (.iload 5, 2) := by decide +kernel
theorem dd_MO_bind_60 : decode cd_MO_bind 60 = .ok (.invokevirtual 119, 3) := by decide +kernel
theorem dd_MO_bind_63 : decode cd_MO_bind 63 = .ok (.iconst (-1), 1) := by decide +kernel
theorem dd_MO_bind_64 : decode cd_MO_bind 64 = .ok (.if_icmp .eq 7, 3) := by decide +kernel
theorem dd_MO_bind_67 : decode cd_MO_bind 67 = .ok (.iconst 1, 1) := by decide +kernel
theorem dd_MO_bind_68 : decode cd_MO_bind 68 = .ok (.goto 4, 3) := by decide +kernel
theorem dd_MO_bind_71 : decode cd_MO_bind 71 = .ok (.iconst 0, 1) := by decide +kernel
theorem dd_MO_bind_72 : decode cd_MO_bind 72 = .ok (.istore 6, 2) := by decide +kernel
theorem dd_MO_bind_74 : decode cd_MO_bind 74 = .ok (.aload_n 0, 1) := by decide +kernel
theorem dd_MO_bind_75 : decode cd_MO_bind 75 = .ok (.iload 4, 2) := by decide +kernel
theorem dd_MO_bind_77 : decode cd_MO_bind 77 = .ok (.ifCond .ne 7, 3) := by decide +kernel
theorem dd_MO_bind_80 : decode cd_MO_bind 80 = .ok (.iconst 1, 1) := by decide +kernel
theorem dd_MO_bind_81 : decode cd_MO_bind 81 = .ok (.goto 22, 3) := by decide +kernel
theorem dd_MO_bind_84 : decode cd_MO_bind 84 = .ok (.iload 6, 2) := by decide +kernel
theorem dd_MO_bind_86 : decode cd_MO_bind 86 = .ok (.ifCond .ne 16, 3) := by decide +kernel
theorem dd_MO_bind_89 : decode cd_MO_bind 89 = .ok (.aload_n 0, 1) := by decide +kernel
theorem dd_MO_bind_90 : decode cd_MO_bind 90 = .ok (.getfield 77, 3) := by decide +kernel
theorem dd_MO_bind_93 : decode cd_MO_bind 93 = .ok (.bipush 120, 2) := by decide +kernel
theorem dd_MO_bind_95 : decode cd_MO_bind 95 = .ok (.if_icmp .ne 7, 3) := by decide +kernel
theorem dd_MO_bind_98 : decode cd_MO_bind 98 = .ok (.iconst 2, 1) := by decide +kernel
theorem dd_MO_bind_99 : decode cd_MO_bind 99 = .ok (.goto 4, 3) := by decide +kernel
theorem dd_MO_bind_102 : decode cd_MO_bind 102 = .ok (.iconst 0, 1) := by decide +kernel
theorem dd_MO_bind_103 : decode cd_MO_bind 103 = .ok (.putfield 60, 3) := by decide +kernel
theorem dd_MO_bind_106 : decode cd_MO_bind 106 = .ok (.aload_n 0, 1) := by decide +kernel
theorem dd_MO_bind_107 : decode cd_MO_bind 107 = .ok (.getfield 60, 3) := by decide +kernel
theorem dd_MO_bind_110 : decode cd_MO_bind 110 = .ok (.ifCond .ne 92, 3) := by decide +kernel
theorem dd_MO_bind_113 : decode cd_MO_bind 113 = .ok (.iload 6, 2) := by decide +kernel
theorem dd_MO_bind_115 : decode cd_MO_bind 115 = .ok (.ifCond .ne 87, 3) := by decide +kernel
theorem dd_MO_bind_118 : decode cd_MO_bind 118 = .ok (.aload_n 0, 1) := by decide +kernel
theorem dd_MO_bind_119 : decode cd_MO_bind 119 = .ok (.getfield 23, 3) := by decide +kernel
theorem dd_MO_bind_122 : decode cd_MO_bind 122 = .ok (.aload_n 0, 1) := by decide +kernel
theorem dd_MO_bind_123 : decode cd_MO_bind 123 = .ok (.getfield 77, 3) := by decide +kernel
theorem dd_MO_bind_126 : decode cd_MO_bind 126 = .ok (.iload_n 1, 1) := by decide +kernel
theorem dd_MO_bind_127 : decode cd_MO_bind 127 = .ok (.iastore, 1) := by decide +kernel
theorem dd_MO_bind_128 : decode cd_MO_bind 128 = .ok (.aload_n 0, 1) := by decide +kernel
theorem dd_MO_bind_129 : decode cd_MO_bind 129 = .ok (.getfield 26, 3) := by decide +kernel
theorem dd_MO_bind_132 : decode cd_MO_bind 132 = .ok (.aload_n 0, 1) := by decide +kernel
theorem dd_MO_bind_133 : decode cd_MO_bind 133 = .ok (.getfield 77, 3) := by decide +kernel
theorem dd_MO_bind_136 : decode cd_MO_bind 136 = .ok (.iload 5, 2) := by decide +kernel
theorem dd_MO_bind_138 : decode cd_MO_bind 138 = .ok (.iastore, 1) := by decide +kernel
theorem dd_MO_bind_139 : decode cd_MO_bind 139 = .ok (.aload_n 0, 1) := by decide +kernel
theorem dd_MO_bind_140 : decode cd_MO_bind 140 = .ok (.getfield 29, 3) := by decide +kernel
theorem dd_MO_bind_143 : decode cd_MO_bind 143 = .ok (.aload_n 0, 1) := by decide +kernel
theorem dd_MO_bind_144 : decode cd_MO_bind 144 = .ok (.getfield 77, 3) := by decide +kernel
theorem dd_MO_bind_147 : decode cd_MO_bind 147 = .ok (.aload_n 0, 1) := by decide +kernel
theorem dd_MO_bind_148 : decode cd_MO_bind 148 = .ok (.getfield 64, 3) := by decide +kernel
theorem dd_MO_bind_151 : decode cd_MO_bind 151 = .ok (.iastore, 1) := by decide +kernel
theorem dd_MO_bind_152 : decode cd_MO_bind 152 = .ok (.iconst 0, 1) := by decide +kernel
theorem dd_MO_bind_153 : decode cd_MO_bind 153 = .ok (.istore 7, 2) := by decide +kernel
theorem dd_MO_bind_155 : decode cd_MO_bind 155 = .ok (.iload 7, 2) := by decide +kernel
theorem dd_MO_bind_157 : decode cd_MO_bind 157 = .ok (.aload_n 0, 1) := by decide +kernel
theorem dd_MO_bind_158 : decode cd_MO_bind 158 = .ok (.getfield 64, 3) := by decide +kernel
theorem dd_MO_bind_161 : decode cd_MO_bind 161 = .ok (.if_icmp .ge 31, 3) := by decide +kernel
theorem dd_MO_bind_164 : decode cd_MO_bind 164 = .ok (.aload_n 0, 1) := by decide +kernel
theorem dd_MO_bind_165 : decode cd_MO_bind 165 = .ok (.getfield 32, 3) := by decide +kernel
theorem dd_MO_bind_168 : decode cd_MO_bind 168 = .ok (.bipush 48, 2) := by decide +kernel
theorem dd_MO_bind_170 : decode cd_MO_bind 170 = .ok (.aload_n 0, 1) := by decide +kernel
theorem dd_MO_bind_171 : decode cd_MO_bind 171 = .ok (.getfield 77, 3) := by decide +kernel
theorem dd_MO_bind_174 : decode cd_MO_bind 174 = .ok (.imul, 1) := by decide +kernel
theorem dd_MO_bind_175 : decode cd_MO_bind 175 = .ok (.iload 7, 2) := by decide +kernel
theorem dd_MO_bind_177 : decode cd_MO_bind 177 = .ok (.iadd, 1) := by decide +kernel
theorem dd_MO_bind_178 : decode cd_MO_bind 178 = .ok (.aload_n 0, 1) := by decide +kernel
theorem dd_MO_bind_179 : decode cd_MO_bind 179 = .ok (.getfield 7, 3) := by decide +kernel
theorem dd_MO_bind_182 : decode cd_MO_bind 182 = .ok (.iload 7, 2) := by decide +kernel
theorem dd_MO_bind_184 : decode cd_MO_bind 184 = .ok (.iaload, 1) := by decide +kernel
theorem dd_MO_bind_185 : decode cd_MO_bind 185 = .ok (.iastore, 1) := by decide +kernel
theorem dd_MO_bind_186 : decode cd_MO_bind 186 = .ok (.iinc 7 1, 3) := by decide +kernel
theorem dd_MO_bind_189 : decode cd_MO_bind 189 = .ok (.goto (-34), 3) := by decide +kernel
theorem dd_MO_bind_192 : decode cd_MO_bind 192 = .ok (.aload_n 0, 1) := by decide +kernel
theorem dd_MO_bind_193 : decode cd_MO_bind 193 = .ok (.dup, 1) := by decide +kernel
theorem dd_MO_bind_194 : decode cd_MO_bind 194 = .ok (.getfield 77, 3) := by decide +kernel
theorem dd_MO_bind_197 : decode cd_MO_bind 197 = .ok (.iconst 1, 1) := by decide +kernel
theorem dd_MO_bind_198 : decode cd_MO_bind 198 = .ok (.iadd, 1) := by decide +kernel
theorem dd_MO_bind_199 : decode cd_MO_bind 199 = .ok (.putfield 77, 3) := by decide +kernel
theorem dd_MO_bind_202 : decode cd_MO_bind 202 = .ok (.aload_n 0, 1) := by decide +kernel
theorem dd_MO_bind_203 : decode cd_MO_bind 203 = .ok (.iconst 0, 1) := by decide +kernel
theorem dd_MO_bind_204 : decode cd_MO_bind 204 = .ok (.putfield 64, 3) := by decide +kernel
theorem dd_MO_bind_207 : decode cd_MO_bind 207 = .ok (.aload_n 0, 1) := by decide +kernel
theorem dd_MO_bind_208 : decode cd_MO_bind 208 = .ok (.getfield 60, 3) := by decide +kernel
theorem dd_MO_bind_211 : decode cd_MO_bind 211 = .ok (.ifCond .ne 12, 3) := by decide +kernel
theorem dd_MO_bind_214 : decode cd_MO_bind 214 = .ok (.iload 6, 2) := by decide +kernel
theorem dd_MO_bind_216 : decode cd_MO_bind 216 = .ok (.ifCond .ne 7, 3) := by decide +kernel
theorem dd_MO_bind_219 : decode cd_MO_bind 219 = .ok (.iconst 1, 1) := by decide +kernel
theorem dd_MO_bind_220 : decode cd_MO_bind 220 = .ok (.goto 4, 3) := by decide +kernel
theorem dd_MO_bind_223 : decode cd_MO_bind 223 = .ok (.iconst 0, 1) := by decide +kernel
theorem dd_MO_bind_224 : decode cd_MO_bind 224 = .ok (.ireturn, 1) := by decide +kernel
theorem dd_MO_isGoal_0 : decode cd_MO_isGoal 0 = .ok (.iload_n 2, 1) := by decide +kernel
theorem dd_MO_isGoal_1 : decode cd_MO_isGoal 1 = .ok (.ifCond .eq 11, 3) := by decide +kernel
theorem dd_MO_isGoal_4 : decode cd_MO_isGoal 4 = .ok (.aload_n 0, 1) := by decide +kernel
theorem dd_MO_isGoal_5 : decode cd_MO_isGoal 5 = .ok (.iload_n 1, 1) := by decide +kernel
theorem dd_MO_isGoal_6 : decode cd_MO_isGoal 6 = .ok (.invokevirtual 80, 3) := by decide +kernel
theorem dd_MO_isGoal_9 : decode cd_MO_isGoal 9 = .ok (.goto 8, 3) := by decide +kernel
theorem dd_MO_isGoal_12 : decode cd_MO_isGoal 12 = .ok (.aload_n 0, 1) := by decide +kernel
theorem dd_MO_isGoal_13 : decode cd_MO_isGoal 13 = .ok (.iload_n 1, 1) := by decide +kernel
theorem dd_MO_isGoal_14 : decode cd_MO_isGoal 14 = .ok (.invokevirtual 73, 3) := by decide +kernel
theorem dd_MO_isGoal_17 : decode cd_MO_isGoal 17 = .ok (.ireturn, 1) := by decide +kernel
theorem dd_MO_isText_0 : decode cd_MO_isText 0 = .ok (.iload_n 1, 1) := by decide +kernel
theorem dd_MO_isText_1 : decode cd_MO_isText 1 = .ok (.ifCond .eq 40, 3) := by decide +kernel
theorem dd_MO_isText_4 : decode cd_MO_isText 4 = .ok (.iload_n 1, 1) := by decide +kernel
theorem dd_MO_isText_5 : decode cd_MO_isText 5 = .ok (.iconst 1, 1) := by decide +kernel
theorem dd_MO_isText_6 : decode cd_MO_isText 6 = .ok (.if_icmp .ne 13, 3) := by decide +kernel
theorem dd_MO_isText_9 : decode cd_MO_isText 9 = .ok (.aload_n 0, 1) := by decide +kernel
theorem dd_MO_isText_10 : decode cd_MO_isText 10 = .ok (.getfield 64, 3) := by decide +kernel
theorem dd_MO_isText_13 : decode cd_MO_isText 13 = .ok (.ifCond .ne 32, 3) := by decide +kernel
theorem dd_MO_isText_16 : decode cd_MO_isText 16 = .ok (.goto 25, 3) := by decide +kernel
theorem dd_MO_isText_19 : decode cd_MO_isText 19 = .ok (.iload_n 1, 1) := by decide +kernel
theorem dd_MO_isText_20 : decode cd_MO_isText 20 = .ok (.iconst 2, 1) := by decide +kernel
theorem dd_MO_isText_21 : decode cd_MO_isText 21 = .ok (.if_icmp .ne 13, 3) := by decide +kernel
theorem dd_MO_isText_24 : decode cd_MO_isText 24 = .ok (.aload_n 0, 1) := by decide +kernel
theorem dd_MO_isText_25 : decode cd_MO_isText 25 = .ok (.invokevirtual 105, 3) := by decide +kernel
theorem dd_MO_isText_28 : decode cd_MO_isText 28 = .ok (.ifCond .eq 17, 3) := by decide +kernel
theorem dd_MO_isText_31 : decode cd_MO_isText 31 = .ok (.goto 10, 3) := by decide +kernel
theorem dd_MO_isText_34 : decode cd_MO_isText 34 = .ok (.aload_n 0, 1) := by decide +kernel
theorem dd_MO_isText_35 : decode cd_MO_isText 35 = .ok (.invokevirtual 109, 3) := by decide +kernel
theorem dd_MO_isText_38 : decode cd_MO_isText 38 = .ok (.ifCond .eq 7, 3) := by decide +kernel
theorem dd_MO_isText_41 : decode cd_MO_isText 41 = .ok (.iconst 1, 1) := by decide +kernel
theorem dd_MO_isText_42 : decode cd_MO_isText 42 = .ok (.goto 4, 3) := by decide +kernel
theorem dd_MO_isText_45 : decode cd_MO_isText 45 = .ok (.iconst 0, 1) := by decide +kernel
theorem dd_MO_isText_46 : decode cd_MO_isText 46 = .ok (.ireturn, 1) := by decide +kernel
theorem dd_MO_isPattern_0 : decode cd_MO_isPattern 0 = .ok (.iconst 0, 1) := by decide +kernel
theorem dd_MO_isPattern_1 : decode cd_MO_isPattern 1 = .ok (.istore_n 1, 1) := by decide +kernel
theorem dd_MO_isPattern_2 : decode cd_MO_isPattern 2 = .ok (.iload_n 1, 1) := by decide +kernel
theorem dd_MO_isPattern_3 : decode cd_MO_isPattern 3 = .ok (.aload_n 0, 1) := by decide +kernel
theorem dd_MO_isPattern_4 : decode cd_MO_isPattern 4 = .ok (.getfield 64, 3) := by decide +kernel
theorem dd_MO_isPattern_7 : decode cd_MO_isPattern 7 = .ok (.if_icmp .ge 76, 3) := by decide +kernel
theorem dd_MO_isPattern_10 : decode cd_MO_isPattern 10 = .ok (.aload_n 0, 1) := by decide +kernel
theorem dd_MO_isPattern_11 : decode cd_MO_isPattern 11 = .ok (.getfield 7, 3) := by decide +kernel
theorem dd_MO_isPattern_14 : decode cd_MO_isPattern 14 = .ok (.iload_n 1, 1) := by decide +kernel
theorem dd_MO_isPattern_15 : decode cd_MO_isPattern 15 = .ok (.iaload, 1) := by decide +kernel
theorem dd_MO_isPattern_16 : decode cd_MO_isPattern 16 = .ok (.bipush 42, 2) := by decide +kernel
theorem dd_MO_isPattern_18 : decode cd_MO_isPattern 18 = .ok (.if_icmp .eq 17, 3) := by decide +kernel
theorem dd_MO_isPattern_21 : decode cd_MO_isPattern 21 = .ok (.aload_n 0, 1) := by decide +kernel
theorem dd_MO_isPattern_22 : decode cd_MO_isPattern 22 = .ok (.getfield 7, 3) := by decide +kernel
theorem dd_MO_isPattern_25 : decode cd_MO_isPattern 25 = .ok (.iload_n 1, 1) := by decide +kernel
theorem dd_MO_isPattern_26 : decode cd_MO_isPattern 26 = .ok (.iaload, 1) := by decide +kernel
theorem dd_MO_isPattern_27 : decode cd_MO_isPattern 27 = .ok (.bipush 35, 2) := by decide +kernel
theorem dd_MO_isPattern_29 : decode cd_MO_isPattern 29 = .ok (.if_icmp .eq 6, 3) := by decide +kernel
theorem dd_MO_isPattern_32 : decode cd_MO_isPattern 32 = .ok (.goto 45, 3) := by decide +kernel
theorem dd_MO_isPattern_35 : decode cd_MO_isPattern 35 = .ok (.iload_n 1, 1) := by decide +kernel
theorem dd_MO_isPattern_36 : decode cd_MO_isPattern 36 = .ok (.ifCond .le 16, 3) := by decide +kernel
theorem dd_MO_isPattern_39 : decode cd_MO_isPattern 39 = .ok (.aload_n 0, 1) := by decide +kernel
theorem dd_MO_isPattern_40 : decode cd_MO_isPattern 40 = .ok (.getfield 7, 3) := by decide +kernel
theorem dd_MO_isPattern_43 : decode cd_MO_isPattern 43 = .ok (.iload_n 1, 1) := by decide +kernel
theorem dd_MO_isPattern_44 : decode cd_MO_isPattern 44 = .ok (.iconst 1, 1) := by decide +kernel
theorem dd_MO_isPattern_45 : decode cd_MO_isPattern 45 = .ok (.isub, 1) := by decide +kernel
theorem dd_MO_isPattern_46 : decode cd_MO_isPattern 46 = .ok (.iaload, 1) := by decide +kernel
theorem dd_MO_isPattern_47 : decode cd_MO_isPattern 47 = .ok (.bipush 46, 2) := by decide +kernel
theorem dd_MO_isPattern_49 : decode cd_MO_isPattern 49 = .ok (.if_icmp .ne 26, 3) := by decide +kernel
theorem dd_MO_isPattern_52 : decode cd_MO_isPattern 52 = .ok (.iload_n 1, 1) := by decide +kernel
theorem dd_MO_isPattern_53 : decode cd_MO_isPattern 53 = .ok (.iconst 1, 1) := by decide +kernel
theorem dd_MO_isPattern_54 : decode cd_MO_isPattern 54 = .ok (.iadd, 1) := by decide +kernel
theorem dd_MO_isPattern_55 : decode cd_MO_isPattern 55 = .ok (.aload_n 0, 1) := by decide +kernel
theorem dd_MO_isPattern_56 : decode cd_MO_isPattern 56 = .ok (.getfield 64, 3) := by decide +kernel
theorem dd_MO_isPattern_59 : decode cd_MO_isPattern 59 = .ok (.if_icmp .ge 18, 3) := by decide +kernel
theorem dd_MO_isPattern_62 : decode cd_MO_isPattern 62 = .ok (.aload_n 0, 1) := by decide +kernel
theorem dd_MO_isPattern_63 : decode cd_MO_isPattern 63 = .ok (.getfield 7, 3) := by decide +kernel
theorem dd_MO_isPattern_66 : decode cd_MO_isPattern 66 = .ok (.iload_n 1, 1) := by decide +kernel
theorem dd_MO_isPattern_67 : decode cd_MO_isPattern 67 = .ok (.iconst 1, 1) := by decide +kernel
theorem dd_MO_isPattern_68 : decode cd_MO_isPattern 68 = .ok (.iadd, 1) := by decide +kernel
theorem dd_MO_isPattern_69 : decode cd_MO_isPattern 69 = .ok (.iaload, 1) := by decide +kernel
theorem dd_MO_isPattern_70 : decode cd_MO_isPattern 70 = .ok (.bipush 46, 2) := by decide +kernel
theorem dd_MO_isPattern_72 : decode cd_MO_isPattern 72 = .ok (.if_icmp .eq 5, 3) := by decide +kernel
theorem dd_MO_isPattern_75 : decode cd_MO_isPattern 75 = .ok (.iconst 0, 1) := by decide +kernel
theorem dd_MO_isPattern_76 : decode cd_MO_isPattern 76 = .ok (.ireturn, 1) := by decide +kernel
theorem dd_MO_isPattern_77 : decode cd_MO_isPattern 77 = .ok (.iinc 1 1, 3) := by decide +kernel
theorem dd_MO_isPattern_80 : decode cd_MO_isPattern 80 = .ok (.goto (-78), 3) := by decide +kernel
theorem dd_MO_isPattern_83 : decode cd_MO_isPattern 83 = .ok (.iconst 1, 1) := by decide +kernel
theorem dd_MO_isPattern_84 : decode cd_MO_isPattern 84 = .ok (.ireturn, 1) := by decide +kernel
theorem dd_MO_isHeaders_0 : decode cd_MO_isHeaders 0 = .ok (.aload_n 0, 1) := by decide +kernel
theorem dd_MO_isHeaders_1 : decode cd_MO_isHeaders 1 = .ok (.getfield 64, 3) := by decide +kernel
theorem dd_MO_isHeaders_4 : decode cd_MO_isHeaders 4 = .ok (.iconst 2, 1) := by decide +kernel
theorem dd_MO_isHeaders_5 : decode cd_MO_isHeaders 5 = .ok (.if_icmp .le 73, 3) := by decide +kernel
theorem dd_MO_isHeaders_8 : decode cd_MO_isHeaders 8 = .ok (.aload_n 0, 1) := by decide +kernel
theorem dd_MO_isHeaders_9 : decode cd_MO_isHeaders 9 = .ok (.getfield 7, 3) := by decide +kernel
theorem dd_MO_isHeaders_12 : decode cd_MO_isHeaders 12 = .ok (.iconst 0, 1) := by decide +kernel
theorem dd_MO_isHeaders_13 : decode cd_MO_isHeaders 13 = .ok (.iaload, 1) := by decide +kernel
theorem dd_MO_isHeaders_14 : decode cd_MO_isHeaders 14 = .ok (.bipush 97, 2) := by decide +kernel
theorem dd_MO_isHeaders_16 : decode cd_MO_isHeaders 16 = .ok (.if_icmp .ne 25, 3) := by decide +kernel
theorem dd_MO_isHeaders_19 : decode cd_MO_isHeaders 19 = .ok (.aload_n 0, 1) := by decide +kernel
theorem dd_MO_isHeaders_20 : decode cd_MO_isHeaders 20 = .ok (.getfield 7, 3) := by decide +kernel
theorem dd_MO_isHeaders_23 : decode cd_MO_isHeaders 23 = .ok (.iconst 1, 1) := by decide +kernel
theorem dd_MO_isHeaders_24 : decode cd_MO_isHeaders 24 = .ok (.iaload, 1) := by decide +kernel
theorem dd_MO_isHeaders_25 : decode cd_MO_isHeaders 25 = .ok (.bipush 108, 2) := by decide +kernel
theorem dd_MO_isHeaders_27 : decode cd_MO_isHeaders 27 = .ok (.if_icmp .ne 14, 3) := by decide +kernel
theorem dd_MO_isHeaders_30 : decode cd_MO_isHeaders 30 = .ok (.aload_n 0, 1) := by decide +kernel
theorem dd_MO_isHeaders_31 : decode cd_MO_isHeaders 31 = .ok (.getfield 7, 3) := by decide +kernel
theorem dd_MO_isHeaders_34 : decode cd_MO_isHeaders 34 = .ok (.iconst 2, 1) := by decide +kernel
theorem dd_MO_isHeaders_35 : decode cd_MO_isHeaders 35 = .ok (.iaload, 1) := by decide +kernel
theorem dd_MO_isHeaders_36 : decode cd_MO_isHeaders 36 = .ok (.bipush 108, 2) := by decide +kernel
theorem dd_MO_isHeaders_38 : decode cd_MO_isHeaders 38 = .ok (.if_icmp .eq 36, 3) := by decide +kernel
theorem dd_MO_isHeaders_41 : decode cd_MO_isHeaders 41 = .ok (.aload_n 0, 1) := by decide +kernel
theorem dd_MO_isHeaders_42 : decode cd_MO_isHeaders 42 = .ok (.getfield 7, 3) := by decide +kernel
theorem dd_MO_isHeaders_45 : decode cd_MO_isHeaders 45 = .ok (.iconst 0, 1) := by decide +kernel
theorem dd_MO_isHeaders_46 : decode cd_MO_isHeaders 46 = .ok (.iaload, 1) := by decide +kernel
theorem dd_MO_isHeaders_47 : decode cd_MO_isHeaders 47 = .ok (.bipush 97, 2) := by decide +kernel
theorem dd_MO_isHeaders_49 : decode cd_MO_isHeaders 49 = .ok (.if_icmp .ne 29, 3) := by decide +kernel
theorem dd_MO_isHeaders_52 : decode cd_MO_isHeaders 52 = .ok (.aload_n 0, 1) := by decide +kernel
theorem dd_MO_isHeaders_53 : decode cd_MO_isHeaders 53 = .ok (.getfield 7, 3) := by decide +kernel
theorem dd_MO_isHeaders_56 : decode cd_MO_isHeaders 56 = .ok (.iconst 1, 1) := by decide +kernel
theorem dd_MO_isHeaders_57 : decode cd_MO_isHeaders 57 = .ok (.iaload, 1) := by decide +kernel
theorem dd_MO_isHeaders_58 : decode cd_MO_isHeaders 58 = .ok (.bipush 110, 2) := by decide +kernel
theorem dd_MO_isHeaders_60 : decode cd_MO_isHeaders 60 = .ok (.if_icmp .ne 18, 3) := by decide +kernel
theorem dd_MO_isHeaders_63 : decode cd_MO_isHeaders 63 = .ok (.aload_n 0, 1) := by decide +kernel
theorem dd_MO_isHeaders_64 : decode cd_MO_isHeaders 64 = .ok (.getfield 7, 3) := by decide +kernel
theorem dd_MO_isHeaders_67 : decode cd_MO_isHeaders 67 = .ok (.iconst 2, 1) := by decide +kernel
theorem dd_MO_isHeaders_68 : decode cd_MO_isHeaders 68 = .ok (.iaload, 1) := by decide +kernel
theorem dd_MO_isHeaders_69 : decode cd_MO_isHeaders 69 = .ok (.bipush 121, 2) := by decide +kernel
theorem dd_MO_isHeaders_71 : decode cd_MO_isHeaders 71 = .ok (.if_icmp .ne 7, 3) := by decide +kernel
theorem dd_MO_isHeaders_74 : decode cd_MO_isHeaders 74 = .ok (.iconst 1, 1) := by decide +kernel
theorem dd_MO_isHeaders_75 : decode cd_MO_isHeaders 75 = .ok (.goto 4, 3) := by decide +kernel
theorem dd_MO_isHeaders_78 : decode cd_MO_isHeaders 78 = .ok (.iconst 0, 1) := by decide +kernel
theorem dd_MO_isHeaders_79 : decode cd_MO_isHeaders 79 = .ok (.istore_n 1, 1) := by decide +kernel
theorem dd_MO_isHeaders_80 : decode cd_MO_isHeaders 80 = .ok (.aload_n 0, 1) := by decide +kernel
theorem dd_MO_isHeaders_81 : decode cd_MO_isHeaders 81 = .ok (.iconst 3, 1) := by decide +kernel
theorem dd_MO_isHeaders_82 : decode cd_MO_isHeaders 82 = .ok (.putfield 90, 3) := by decide +kernel
theorem dd_MO_isHeaders_85 : decode cd_MO_isHeaders 85 = .ok (.iconst 0, 1) := by decide +kernel
theorem dd_MO_isHeaders_86 : decode cd_MO_isHeaders 86 = .ok (.istore_n 2, 1) := by decide +kernel
theorem dd_MO_isHeaders_87 : decode cd_MO_isHeaders 87 = .ok (.iload_n 1, 1) := by decide +kernel
theorem dd_MO_isHeaders_88 : decode cd_MO_isHeaders 88 = .ok (.ifCond .eq 140, 3) := by decide +kernel
theorem dd_MO_isHeaders_91 : decode cd_MO_isHeaders 91 = .ok (.aload_n 0, 1) := by decide +kernel
theorem dd_MO_isHeaders_92 : decode cd_MO_isHeaders 92 = .ok (.getfield 90, 3) := by decide +kernel
theorem dd_MO_isHeaders_95 : decode cd_MO_isHeaders 95 = .ok (.aload_n 0, 1) := by decide +kernel
theorem dd_MO_isHeaders_96 : decode cd_MO_isHeaders 96 = .ok (.getfield 64, 3) := by decide +kernel
theorem dd_MO_isHeaders_99 : decode cd_MO_isHeaders 99 = .ok (.if_icmp .ge 129, 3) := by decide +kernel
theorem dd_MO_isHeaders_102 : decode cd_MO_isHeaders 102 = .ok (.aload_n 0, 1) := by decide +kernel
theorem dd_MO_isHeaders_103 : decode cd_MO_isHeaders 103 = .ok (.getfield 7, 3) := by decide +kernel
theorem dd_MO_isHeaders_106 : decode cd_MO_isHeaders 106 = .ok (.aload_n 0, 1) := by decide +kernel
theorem dd_MO_isHeaders_107 : decode cd_MO_isHeaders 107 = .ok (.getfield 90, 3) := by decide +kernel
theorem dd_MO_isHeaders_110 : decode cd_MO_isHeaders 110 = .ok (.iaload, 1) := by decide +kernel
theorem dd_MO_isHeaders_111 : decode cd_MO_isHeaders 111 = .ok (.bipush 44, 2) := by decide +kernel
theorem dd_MO_isHeaders_113 : decode cd_MO_isHeaders 113 = .ok (.if_icmp .ne 12, 3) := by decide +kernel
theorem dd_MO_isHeaders_116 : decode cd_MO_isHeaders 116 = .ok (.iload_n 2, 1) := by decide +kernel
theorem dd_MO_isHeaders_117 : decode cd_MO_isHeaders 117 = .ok (.iconst 4, 1) := by decide +kernel
theorem dd_MO_isHeaders_118 : decode cd_MO_isHeaders 118 = .ok (.if_icmp .ge 7, 3) := by decide +kernel
theorem dd_MO_isHeaders_121 : decode cd_MO_isHeaders 121 = .ok (.iconst 1, 1) := by decide +kernel
theorem dd_MO_isHeaders_122 : decode cd_MO_isHeaders 122 = .ok (.goto 4, 3) := by decide +kernel
theorem dd_MO_isHeaders_125 : decode cd_MO_isHeaders 125 = .ok (.iconst 0, 1) := by decide +kernel
theorem dd_MO_isHeaders_126 : decode cd_MO_isHeaders 126 = .ok (.istore_n 1, 1) := by decide +kernel
theorem dd_MO_isHeaders_127 : decode cd_MO_isHeaders 127 = .ok (.aload_n 0, 1) := by decide +kernel
theorem dd_MO_isHeaders_128 : decode cd_MO_isHeaders 128 = .ok (.dup, 1) := by decide +kernel
theorem dd_MO_isHeaders_129 : decode cd_MO_isHeaders 129 = .ok (.getfield 90, 3) := by decide +kernel
theorem dd_MO_isHeaders_132 : decode cd_MO_isHeaders 132 = .ok (.iconst 1, 1) := by decide +kernel
theorem dd_MO_isHeaders_133 : decode cd_MO_isHeaders 133 = .ok (.iadd, 1) := by decide +kernel
theorem dd_MO_isHeaders_134 : decode cd_MO_isHeaders 134 = .ok (.putfield 90, 3) := by decide +kernel
theorem dd_MO_isHeaders_137 : decode cd_MO_isHeaders 137 = .ok (.iinc 2 1, 3) := by decide +kernel
theorem dd_MO_isHeaders_140 : decode cd_MO_isHeaders 140 = .ok (.iload_n 1, 1) := by decide +kernel
theorem dd_MO_isHeaders_141 : decode cd_MO_isHeaders 141 = .ok (.ifCond .eq 22, 3) := by decide +kernel
theorem dd_MO_isHeaders_144 : decode cd_MO_isHeaders 144 = .ok (.aload_n 0, 1) := by decide +kernel
theorem dd_MO_isHeaders_145 : decode cd_MO_isHeaders 145 = .ok (.aload_n 0, 1) := by decide +kernel
theorem dd_MO_isHeaders_146 : decode cd_MO_isHeaders 146 = .ok (.getfield 64, 3) := by decide +kernel
theorem dd_MO_isHeaders_149 : decode cd_MO_isHeaders 149 = .ok (.invokevirtual 98, 3) := by decide +kernel
theorem dd_MO_isHeaders_152 : decode cd_MO_isHeaders 152 = .ok (.ldc2_w 93, 3) := by decide +kernel
theorem dd_MO_isHeaders_155 : decode cd_MO_isHeaders 155 = .ok (.lcmp, 1) := by decide +kernel
theorem dd_MO_isHeaders_156 : decode cd_MO_isHeaders 156 = .ok (.ifCond .eq 7, 3) := by decide +kernel
theorem dd_MO_isHeaders_159 : decode cd_MO_isHeaders 159 = .ok (.iconst 1, 1) := by decide +kernel
theorem dd_MO_isHeaders_160 : decode cd_MO_isHeaders 160 = .ok (.goto 4, 3) := by decide +kernel
theorem dd_MO_isHeaders_163 : decode cd_MO_isHeaders 163 = .ok (.iconst 0, 1) := by decide +kernel
theorem dd_MO_isHeaders_164 : decode cd_MO_isHeaders 164 = .ok (.istore_n 1, 1) := by decide +kernel
theorem dd_MO_isHeaders_165 : decode cd_MO_isHeaders 165 = .ok (.iload_n 1, 1) := by decide +kernel
theorem dd_MO_isHeaders_166 : decode cd_MO_isHeaders 166 = .ok (.ifCond .eq (-79), 3) := by decide +kernel
theorem dd_MO_isHeaders_169 : decode cd_MO_isHeaders 169 = .ok (.aload_n 0, 1) := by decide +kernel
theorem dd_MO_isHeaders_170 : decode cd_MO_isHeaders 170 = .ok (.getfield 90, 3) := by decide +kernel
theorem dd_MO_isHeaders_173 : decode cd_MO_isHeaders 173 = .ok (.aload_n 0, 1) := by decide +kernel
theorem dd_MO_isHeaders_174 : decode cd_MO_isHeaders 174 = .ok (.getfield 64, 3) := by decide +kernel
theorem dd_MO_isHeaders_177 : decode cd_MO_isHeaders 177 = .ok (.if_icmp .ge (-90), 3) := by decide +kernel
theorem dd_MO_isHeaders_180 : decode cd_MO_isHeaders 180 = .ok (.aload_n 0, 1) := by decide +kernel
theorem dd_MO_isHeaders_181 : decode cd_MO_isHeaders 181 = .ok (.getfield 7, 3) := by decide +kernel
theorem dd_MO_isHeaders_184 : decode cd_MO_isHeaders 184 = .ok (.aload_n 0, 1) := by decide +kernel
theorem dd_MO_isHeaders_185 : decode cd_MO_isHeaders 185 = .ok (.getfield 90, 3) := by decide +kernel
theorem dd_MO_isHeaders_188 : decode cd_MO_isHeaders 188 = .ok (.iaload, 1) := by decide +kernel
theorem dd_MO_isHeaders_189 : decode cd_MO_isHeaders 189 = .ok (.bipush 61, 2) := by decide +kernel
theorem dd_MO_isHeaders_191 : decode cd_MO_isHeaders 191 = .ok (.if_icmp .ne (-104), 3) := by decide +kernel
theorem dd_MO_isHeaders_194 : decode cd_MO_isHeaders 194 = .ok (.aload_n 0, 1) := by decide +kernel
theorem dd_MO_isHeaders_195 : decode cd_MO_isHeaders 195 = .ok (.dup, 1) := by decide +kernel
theorem dd_MO_isHeaders_196 : decode cd_MO_isHeaders 196 = .ok (.getfield 90, 3) := by decide +kernel
theorem dd_MO_isHeaders_199 : decode cd_MO_isHeaders 199 = .ok (.iconst 1, 1) := by decide +kernel
theorem dd_MO_isHeaders_200 : decode cd_MO_isHeaders 200 = .ok (.iadd, 1) := by decide +kernel
theorem dd_MO_isHeaders_201 : decode cd_MO_isHeaders 201 = .ok (.putfield 90, 3) := by decide +kernel
theorem dd_MO_isHeaders_204 : decode cd_MO_isHeaders 204 = .ok (.aload_n 0, 1) := by decide +kernel
theorem dd_MO_isHeaders_205 : decode cd_MO_isHeaders 205 = .ok (.aload_n 0, 1) := by decide +kernel
theorem dd_MO_isHeaders_206 : decode cd_MO_isHeaders 206 = .ok (.getfield 64, 3) := by decide +kernel
theorem dd_MO_isHeaders_209 : decode cd_MO_isHeaders 209 = .ok (.invokevirtual 102, 3) := by decide +kernel
theorem dd_MO_isHeaders_212 : decode cd_MO_isHeaders 212 = .ok (.ldc2_w 93, 3) := by decide +kernel
theorem dd_MO_isHeaders_215 : decode cd_MO_isHeaders 215 = .ok (.lcmp, 1) := by decide +kernel
theorem dd_MO_isHeaders_216 : decode cd_MO_isHeaders 216 = .ok (.ifCond .eq 7, 3) := by decide +kernel
theorem dd_MO_isHeaders_219 : decode cd_MO_isHeaders 219 = .ok (.iconst 1, 1) := by decide +kernel
theorem dd_MO_isHeaders_220 : decode cd_MO_isHeaders 220 = .ok (.goto 4, 3) := by decide +kernel
theorem dd_MO_isHeaders_223 : decode cd_MO_isHeaders 223 = .ok (.iconst 0, 1) := by decide +kernel
theorem dd_MO_isHeaders_224 : decode cd_MO_isHeaders 224 = .ok (.istore_n 1, 1) := by decide +kernel
theorem dd_MO_isHeaders_225 : decode cd_MO_isHeaders 225 = .ok (.goto (-138), 3) := by decide +kernel
theorem dd_MO_isHeaders_228 : decode cd_MO_isHeaders 228 = .ok (.iload_n 1, 1) := by decide +kernel
theorem dd_MO_isHeaders_229 : decode cd_MO_isHeaders 229 = .ok (.ireturn, 1) := by decide +kernel
theorem dd_MO_readName_0 : decode cd_MO_readName 0 = .ok (.lconst 0, 1) := by decide +kernel
theorem dd_MO_readName_1 : decode cd_MO_readName 1 = .ok (.lstore_n 2, 1) := by decide +kernel
theorem dd_MO_readName_2 : decode cd_MO_readName 2 = .ok (.aload_n 0, 1) := by decide +kernel
theorem dd_MO_readName_3 : decode cd_MO_readName 3 = .ok (.getfield 90, 3) := by decide +kernel
theorem dd_MO_readName_6 : decode cd_MO_readName 6 = .ok (.istore 4, 2) := by decide +kernel
theorem dd_MO_readName_8 : decode cd_MO_readName 8 = .ok (.aload_n 0, 1) := by decide +kernel
theorem dd_MO_readName_9 : decode cd_MO_readName 9 = .ok (.getfield 90, 3) := by decide +kernel
theorem dd_MO_readName_12 : decode cd_MO_readName 12 = .ok (.iload_n 1, 1) := by decide +kernel
theorem dd_MO_readName_13 : decode cd_MO_readName 13 = .ok (.if_icmp .ge 63, 3) := by decide +kernel
theorem dd_MO_readName_16 : decode cd_MO_readName 16 = .ok (.aload_n 0, 1) := by decide +kernel
theorem dd_MO_readName_17 : decode cd_MO_readName 17 = .ok (.getfield 7, 3) := by decide +kernel
theorem dd_MO_readName_20 : decode cd_MO_readName 20 = .ok (.aload_n 0, 1) := by decide +kernel
theorem dd_MO_readName_21 : decode cd_MO_readName 21 = .ok (.getfield 90, 3) := by decide +kernel
theorem dd_MO_readName_24 : decode cd_MO_readName 24 = .ok (.iaload, 1) := by decide +kernel
theorem dd_MO_readName_25 : decode cd_MO_readName 25 = .ok (.invokestatic 87, 3) := by decide +kernel
theorem dd_MO_readName_28 : decode cd_MO_readName 28 = .ok (.ifCond .eq 48, 3) := by decide +kernel
theorem dd_MO_readName_31 : decode cd_MO_readName 31 = .ok (.aload_n 0, 1) := by decide +kernel
theorem dd_MO_readName_32 : decode cd_MO_readName 32 = .ok (.getfield 90, 3) := by decide +kernel
theorem dd_MO_readName_35 : decode cd_MO_readName 35 = .ok (.iload 4, 2) := by decide +kernel
theorem dd_MO_readName_37 : decode cd_MO_readName 37 = .ok (.isub, 1) := by decide +kernel
theorem dd_MO_readName_38 : decode cd_MO_readName 38 = .ok (.bipush 7, 2) := by decide +kernel
theorem dd_MO_readName_40 : decode cd_MO_readName 40 = .ok (.if_icmp .ge 21, 3) := by decide +kernel
theorem dd_MO_readName_43 : decode cd_MO_readName 43 = .ok (.lload_n 2, 1) := by decide +kernel
theorem dd_MO_readName_44 : decode cd_MO_readName 44 = .ok (.bipush 8, 2) := by decide +kernel
theorem dd_MO_readName_46 : decode cd_MO_readName 46 = .ok (.lshl, 1) := by decide +kernel
theorem dd_MO_readName_47 : decode cd_MO_readName 47 = .ok (.aload_n 0, 1) := by decide +kernel
theorem dd_MO_readName_48 : decode cd_MO_readName 48 = .ok (.getfield 7, 3) := by decide +kernel
theorem dd_MO_readName_51 : decode cd_MO_readName 51 = .ok (.aload_n 0, 1) := by decide +kernel
theorem dd_MO_readName_52 : decode cd_MO_readName 52 = .ok (.getfield 90, 3) := by decide +kernel
theorem dd_MO_readName_55 : decode cd_MO_readName 55 = .ok (.iaload, 1) := by decide +kernel
theorem dd_MO_readName_56 : decode cd_MO_readName 56 = .ok (.i2l, 1) := by decide +kernel
theorem dd_MO_readName_57 : decode cd_MO_readName 57 = .ok (.lor, 1) := by decide +kernel
theorem dd_MO_readName_58 : decode cd_MO_readName 58 = .ok (.goto 4, 3) := by decide +kernel
theorem dd_MO_readName_61 : decode cd_MO_readName 61 = .ok (.lload_n 2, 1) := by decide +kernel
theorem dd_MO_readName_62 : decode cd_MO_readName 62 = .ok (.lstore_n 2, 1) := by decide +kernel
theorem dd_MO_readName_63 : decode cd_MO_readName 63 = .ok (.aload_n 0, 1) := by decide +kernel
theorem dd_MO_readName_64 : decode cd_MO_readName 64 = .ok (.dup, 1) := by decide +kernel
theorem dd_MO_readName_65 : decode cd_MO_readName 65 = .ok (.getfield 90, 3) := by decide +kernel
theorem dd_MO_readName_68 : decode cd_MO_readName 68 = .ok (.iconst 1, 1) := by decide +kernel
theorem dd_MO_readName_69 : decode cd_MO_readName 69 = .ok (.iadd, 1) := by decide +kernel
theorem dd_MO_readName_70 : decode cd_MO_readName 70 = .ok (.putfield 90, 3) := by decide +kernel
theorem dd_MO_readName_73 : decode cd_MO_readName 73 = .ok (.goto (-65), 3) := by decide +kernel
theorem dd_MO_readName_76 : decode cd_MO_readName 76 = .ok (.aload_n 0, 1) := by decide +kernel
theorem dd_MO_readName_77 : decode cd_MO_readName 77 = .ok (.getfield 90, 3) := by decide +kernel
theorem dd_MO_readName_80 : decode cd_MO_readName 80 = .ok (.iload 4, 2) := by decide +kernel
theorem dd_MO_readName_82 : decode cd_MO_readName 82 = .ok (.if_icmp .le 19, 3) := by decide +kernel
theorem dd_MO_readName_85 : decode cd_MO_readName 85 = .ok (.aload_n 0, 1) := by decide +kernel
theorem dd_MO_readName_86 : decode cd_MO_readName 86 = .ok (.getfield 90, 3) := by decide +kernel
theorem dd_MO_readName_89 : decode cd_MO_readName 89 = .ok (.iload 4, 2) := by decide +kernel
theorem dd_MO_readName_91 : decode cd_MO_readName 91 = .ok (.isub, 1) := by decide +kernel
theorem dd_MO_readName_92 : decode cd_MO_readName 92 = .ok (.bipush 7, 2) := by decide +kernel
theorem dd_MO_readName_94 : decode cd_MO_readName 94 = .ok (.if_icmp .ge 7, 3) := by decide +kernel
theorem dd_MO_readName_97 : decode cd_MO_readName 97 = .ok (.lload_n 2, 1) := by decide +kernel
theorem dd_MO_readName_98 : decode cd_MO_readName 98 = .ok (.goto 6, 3) := by decide +kernel
theorem dd_MO_readName_101 : decode cd_MO_readName 101 = .ok (.ldc2_w 93, 3) := by decide +kernel
theorem dd_MO_readName_104 : decode cd_MO_readName 104 = .ok (.lreturn, 1) := by decide +kernel
theorem dd_MO_isSmall_0 : decode cd_MO_isSmall 0 = .ok (.iload_n 0, 1) := by decide +kernel
theorem dd_MO_isSmall_1 : decode cd_MO_isSmall 1 = .ok (.bipush 97, 2) := by decide +kernel
theorem dd_MO_isSmall_3 : decode cd_MO_isSmall 3 = .ok (.if_icmp .lt 13, 3) := by decide +kernel
theorem dd_MO_isSmall_6 : decode cd_MO_isSmall 6 = .ok (.iload_n 0, 1) := by decide +kernel
theorem dd_MO_isSmall_7 : decode cd_MO_isSmall 7 = .ok (.bipush 122, 2) := by decide +kernel
theorem dd_MO_isSmall_9 : decode cd_MO_isSmall 9 = .ok (.if_icmp .gt 7, 3) := by decide +kernel
theorem dd_MO_isSmall_12 : decode cd_MO_isSmall 12 = .ok (.iconst 1, 1) := by decide +kernel
theorem dd_MO_isSmall_13 : decode cd_MO_isSmall 13 = .ok (.goto 4, 3) := by decide +kernel
theorem dd_MO_isSmall_16 : decode cd_MO_isSmall 16 = .ok (.iconst 0, 1) := by decide +kernel
theorem dd_MO_isSmall_17 : decode cd_MO_isSmall 17 = .ok (.ireturn, 1) := by decide +kernel
theorem dd_MO_readValue_0 : decode cd_MO_readValue 0 = .ok (.lconst 0, 1) := by decide +kernel
theorem dd_MO_readValue_1 : decode cd_MO_readValue 1 = .ok (.lstore_n 2, 1) := by decide +kernel
theorem dd_MO_readValue_2 : decode cd_MO_readValue 2 = .ok (.aload_n 0, 1) := by decide +kernel
theorem dd_MO_readValue_3 : decode cd_MO_readValue 3 = .ok (.getfield 90, 3) := by decide +kernel
theorem dd_MO_readValue_6 : decode cd_MO_readValue 6 = .ok (.istore 4, 2) := by decide +kernel
theorem dd_MO_readValue_8 : decode cd_MO_readValue 8 = .ok (.aload_n 0, 1) := by decide +kernel
theorem dd_MO_readValue_9 : decode cd_MO_readValue 9 = .ok (.getfield 90, 3) := by decide +kernel
theorem dd_MO_readValue_12 : decode cd_MO_readValue 12 = .ok (.iload_n 1, 1) := by decide +kernel
theorem dd_MO_readValue_13 : decode cd_MO_readValue 13 = .ok (.if_icmp .ge 63, 3) := by decide +kernel
theorem dd_MO_readValue_16 : decode cd_MO_readValue 16 = .ok (.aload_n 0, 1) := by decide +kernel
theorem dd_MO_readValue_17 : decode cd_MO_readValue 17 = .ok (.getfield 7, 3) := by decide +kernel
theorem dd_MO_readValue_20 : decode cd_MO_readValue 20 = .ok (.aload_n 0, 1) := by decide +kernel
theorem dd_MO_readValue_21 : decode cd_MO_readValue 21 = .ok (.getfield 90, 3) := by decide +kernel
theorem dd_MO_readValue_24 : decode cd_MO_readValue 24 = .ok (.iaload, 1) := by decide +kernel
theorem dd_MO_readValue_25 : decode cd_MO_readValue 25 = .ok (.invokestatic 95, 3) := by decide +kernel
theorem dd_MO_readValue_28 : decode cd_MO_readValue 28 = .ok (.ifCond .eq 48, 3) := by decide +kernel
theorem dd_MO_readValue_31 : decode cd_MO_readValue 31 = .ok (.aload_n 0, 1) := by decide +kernel
theorem dd_MO_readValue_32 : decode cd_MO_readValue 32 = .ok (.getfield 90, 3) := by decide +kernel
theorem dd_MO_readValue_35 : decode cd_MO_readValue 35 = .ok (.iload 4, 2) := by decide +kernel
theorem dd_MO_readValue_37 : decode cd_MO_readValue 37 = .ok (.isub, 1) := by decide +kernel
theorem dd_MO_readValue_38 : decode cd_MO_readValue 38 = .ok (.bipush 7, 2) := by decide +kernel
theorem dd_MO_readValue_40 : decode cd_MO_readValue 40 = .ok (.if_icmp .ge 21, 3) := by decide +kernel
theorem dd_MO_readValue_43 : decode cd_MO_readValue 43 = .ok (.lload_n 2, 1) := by decide +kernel
theorem dd_MO_readValue_44 : decode cd_MO_readValue 44 = .ok (.bipush 8, 2) := by decide +kernel
theorem dd_MO_readValue_46 : decode cd_MO_readValue 46 = .ok (.lshl, 1) := by decide +kernel
theorem dd_MO_readValue_47 : decode cd_MO_readValue 47 = .ok (.aload_n 0, 1) := by decide +kernel
theorem dd_MO_readValue_48 : decode cd_MO_readValue 48 = .ok (.getfield 7, 3) := by decide +kernel
theorem dd_MO_readValue_51 : decode cd_MO_readValue 51 = .ok (.aload_n 0, 1) := by decide +kernel
theorem dd_MO_readValue_52 : decode cd_MO_readValue 52 = .ok (.getfield 90, 3) := by decide +kernel
theorem dd_MO_readValue_55 : decode cd_MO_readValue 55 = .ok (.iaload, 1) := by decide +kernel
theorem dd_MO_readValue_56 : decode cd_MO_readValue 56 = .ok (.i2l, 1) := by decide +kernel
theorem dd_MO_readValue_57 : decode cd_MO_readValue 57 = .ok (.lor, 1) := by decide +kernel
theorem dd_MO_readValue_58 : decode cd_MO_readValue 58 = .ok (.goto 4, 3) := by decide +kernel
theorem dd_MO_readValue_61 : decode cd_MO_readValue 61 = .ok (.lload_n 2, 1) := by decide +kernel
theorem dd_MO_readValue_62 : decode cd_MO_readValue 62 = .ok (.lstore_n 2, 1) := by decide +kernel
theorem dd_MO_readValue_63 : decode cd_MO_readValue 63 = .ok (.aload_n 0, 1) := by decide +kernel
theorem dd_MO_readValue_64 : decode cd_MO_readValue 64 = .ok (.dup, 1) := by decide +kernel
theorem dd_MO_readValue_65 : decode cd_MO_readValue 65 = .ok (.getfield 90, 3) := by decide +kernel
theorem dd_MO_readValue_68 : decode cd_MO_readValue 68 = .ok (.iconst 1, 1) := by decide +kernel
theorem dd_MO_readValue_69 : decode cd_MO_readValue 69 = .ok (.iadd, 1) := by decide +kernel
theorem dd_MO_readValue_70 : decode cd_MO_readValue 70 = .ok (.putfield 90, 3) := by decide +kernel
theorem dd_MO_readValue_73 : decode cd_MO_readValue 73 = .ok (.goto (-65), 3) := by decide +kernel
theorem dd_MO_readValue_76 : decode cd_MO_readValue 76 = .ok (.aload_n 0, 1) := by decide +kernel
theorem dd_MO_readValue_77 : decode cd_MO_readValue 77 = .ok (.getfield 90, 3) := by decide +kernel
theorem dd_MO_readValue_80 : decode cd_MO_readValue 80 = .ok (.iload 4, 2) := by decide +kernel
theorem dd_MO_readValue_82 : decode cd_MO_readValue 82 = .ok (.isub, 1) := by decide +kernel
theorem dd_MO_readValue_83 : decode cd_MO_readValue 83 = .ok (.bipush 7, 2) := by decide +kernel
theorem dd_MO_readValue_85 : decode cd_MO_readValue 85 = .ok (.if_icmp .ge 7, 3) := by decide +kernel
theorem dd_MO_readValue_88 : decode cd_MO_readValue 88 = .ok (.lload_n 2, 1) := by decide +kernel
theorem dd_MO_readValue_89 : decode cd_MO_readValue 89 = .ok (.goto 6, 3) := by decide +kernel
theorem dd_MO_readValue_92 : decode cd_MO_readValue 92 = .ok (.ldc2_w 93, 3) := by decide +kernel
theorem dd_MO_readValue_95 : decode cd_MO_readValue 95 = .ok (.lreturn, 1) := by decide +kernel
theorem dd_MO_isPart_0 : decode cd_MO_isPart 0 = .ok (.iload_n 0, 1) := by decide +kernel
theorem dd_MO_isPart_1 : decode cd_MO_isPart 1 = .ok (.invokestatic 87, 3) := by decide +kernel
theorem dd_MO_isPart_4 : decode cd_MO_isPart 4 = .ok (.ifCond .ne 15, 3) := by decide +kernel
theorem dd_MO_isPart_7 : decode cd_MO_isPart 7 = .ok (.iload_n 0, 1) := by decide +kernel
theorem dd_MO_isPart_8 : decode cd_MO_isPart 8 = .ok (.bipush 48, 2) := by decide +kernel
theorem dd_MO_isPart_10 : decode cd_MO_isPart 10 = .ok (.if_icmp .lt 13, 3) := by decide +kernel
theorem dd_MO_isPart_13 : decode cd_MO_isPart 13 = .ok (.iload_n 0, 1) := by decide +kernel
theorem dd_MO_isPart_14 : decode cd_MO_isPart 14 = .ok (.bipush 57, 2) := by decide +kernel
theorem dd_MO_isPart_16 : decode cd_MO_isPart 16 = .ok (.if_icmp .gt 7, 3) := by decide +kernel
theorem dd_MO_isPart_19 : decode cd_MO_isPart 19 = .ok (.iconst 1, 1) := by decide +kernel
theorem dd_MO_isPart_20 : decode cd_MO_isPart 20 = .ok (.goto 4, 3) := by decide +kernel
theorem dd_MO_isPart_23 : decode cd_MO_isPart 23 = .ok (.iconst 0, 1) := by decide +kernel
theorem dd_MO_isPart_24 : decode cd_MO_isPart 24 = .ok (.ireturn, 1) := by decide +kernel
