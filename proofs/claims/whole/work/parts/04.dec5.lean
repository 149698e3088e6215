/-! printed (gen/names.py): what the codes decode to -/
theorem dd_MO_find_0 : decode cd_MO_find 0 = .ok (.iconst 0, 1) := by decide +kernel
theorem dd_MO_find_1 : decode cd_MO_find 1 = .ok (.istore_n 3, 1) := by decide +kernel
theorem dd_MO_find_2 : decode cd_MO_find 2 = .ok (.iload_n 3, 1) := by decide +kernel
theorem dd_MO_find_3 : decode cd_MO_find 3 = .ok (.aload_n 0, 1) := by decide +kernel
theorem dd_MO_find_4 : decode cd_MO_find 4 = .ok (.getfield 77, 3) := by decide +kernel
theorem dd_MO_find_7 : decode cd_MO_find 7 = .ok (.if_icmp .ge 108, 3) := by decide +kernel
theorem dd_MO_find_10 : decode cd_MO_find 10 = .ok (.aload_n 0, 1) := by decide +kernel
theorem dd_MO_find_11 : decode cd_MO_find 11 = .ok (.getfield 23, 3) := by decide +kernel
theorem dd_MO_find_14 : decode cd_MO_find 14 = .ok (.iload_n 3, 1) := by decide +kernel
theorem dd_MO_find_15 : decode cd_MO_find 15 = .ok (.iaload, 1) := by decide +kernel
theorem dd_MO_find_16 : decode cd_MO_find 16 = .ok (.iload_n 1, 1) := by decide +kernel
theorem dd_MO_find_17 : decode cd_MO_find 17 = .ok (.if_icmp .ne 30, 3) := by decide +kernel
theorem dd_MO_find_20 : decode cd_MO_find 20 = .ok (.aload_n 0, 1) := by decide +kernel
theorem dd_MO_find_21 : decode cd_MO_find 21 = .ok (.getfield 26, 3) := by decide +kernel
theorem dd_MO_find_24 : decode cd_MO_find 24 = .ok (.iload_n 3, 1) := by decide +kernel
theorem dd_MO_find_25 : decode cd_MO_find 25 = .ok (.iaload, 1) := by decide +kernel
theorem dd_MO_find_26 : decode cd_MO_find 26 = .ok (.iload_n 2, 1) := by decide +kernel
theorem dd_MO_find_27 : decode cd_MO_find 27 = .ok (.if_icmp .ne 20, 3) := by decide +kernel
theorem dd_MO_find_30 : decode cd_MO_find 30 = .ok (.aload_n 0, 1) := by decide +kernel
theorem dd_MO_find_31 : decode cd_MO_find 31 = .ok (.getfield 29, 3) := by decide +kernel
theorem dd_MO_find_34 : decode cd_MO_find 34 = .ok (.iload_n 3, 1) := by decide +kernel
theorem dd_MO_find_35 : decode cd_MO_find 35 = .ok (.iaload, 1) := by decide +kernel
theorem dd_MO_find_36 : decode cd_MO_find 36 = .ok (.aload_n 0, 1) := by decide +kernel
theorem dd_MO_find_37 : decode cd_MO_find 37 = .ok (.getfield 64, 3) := by decide +kernel
theorem dd_MO_find_40 : decode cd_MO_find 40 = .ok (.if_icmp .ne 7, 3) := by decide +kernel
theorem dd_MO_find_43 : decode cd_MO_find 43 = .ok (.iconst 1, 1) := by decide +kernel
theorem dd_MO_find_44 : decode cd_MO_find 44 = .ok (.goto 4, 3) := by decide +kernel
theorem dd_MO_find_47 : decode cd_MO_find 47 = .ok (.iconst 0, 1) := by decide +kernel
theorem dd_MO_find_48 : decode cd_MO_find 48 = .ok (.istore 4, 2) := by decide +kernel
theorem dd_MO_find_50 : decode cd_MO_find 50 = .ok (.iconst 0, 1) := by decide +kernel
theorem dd_MO_find_51 : decode cd_MO_find 51 = .ok (.istore 5, 2) := by decide +kernel
theorem dd_MO_find_53 : decode cd_MO_find 53 = .ok (.iload 4, 2) := by decide +kernel
theorem dd_MO_find_55 : decode cd_MO_find 55 = .ok (.ifCond .eq 47, 3) := by decide +kernel
theorem dd_MO_find_58 : decode cd_MO_find 58 = .ok (.iload 5, 2) := by decide +kernel
theorem dd_MO_find_60 : decode cd_MO_find 60 = .ok (.aload_n 0, 1) := by decide +kernel
theorem dd_MO_find_61 : decode cd_MO_find 61 = .ok (.getfield 64, 3) := by decide +kernel
theorem dd_MO_find_64 : decode cd_MO_find 64 = .ok (.if_icmp .ge 38, 3) := by decide +kernel
theorem dd_MO_find_67 : decode cd_MO_find 67 = .ok (.aload_n 0, 1) := by decide +kernel
theorem dd_MO_find_68 : decode cd_MO_find 68 = .ok (.getfield 32, 3) := by decide +kernel
theorem dd_MO_find_71 : decode cd_MO_find 71 = .ok (.bipush 48, 2) := by decide +kernel
theorem dd_MO_find_73 : decode cd_MO_find 73 = .ok (.iload_n 3, 1) := by decide +kernel
theorem dd_MO_find_74 : decode cd_MO_find 74 = .ok (.imul, 1) := by decide +kernel
theorem dd_MO_find_75 : decode cd_MO_find 75 = .ok (.iload 5, 2) := by decide +kernel
theorem dd_MO_find_77 : decode cd_MO_find 77 = .ok (.iadd, 1) := by decide +kernel
theorem dd_MO_find_78 : decode cd_MO_find 78 = .ok (.iaload, 1) := by decide +kernel
theorem dd_MO_find_79 : decode cd_MO_find 79 = .ok (.aload_n 0, 1) := by decide +kernel
theorem dd_MO_find_80 : decode cd_MO_find 80 = .ok (.getfield 7, 3) := by decide +kernel
theorem dd_MO_find_83 : decode cd_MO_find 83 = .ok (.iload 5, 2) := by decide +kernel
theorem dd_MO_find_85 : decode cd_MO_find 85 = .ok (.iaload, 1) := by decide +kernel
theorem dd_MO_find_86 : decode cd_MO_find 86 = .ok (.if_icmp .ne 7, 3) := by decide +kernel
theorem dd_MO_find_89 : decode cd_MO_find 89 = .ok (.iconst 1, 1) := by decide +kernel
theorem dd_MO_find_90 : decode cd_MO_find 90 = .ok (.goto 4, 3) := by decide +kernel
theorem dd_MO_find_93 : decode cd_MO_find 93 = .ok (.iconst 0, 1) := by decide +kernel
theorem dd_MO_find_94 : decode cd_MO_find 94 = .ok (.istore 4, 2) := by decide +kernel
theorem dd_MO_find_96 : decode cd_MO_find 96 = .ok (.iinc 5 1, 3) := by decide +kernel
theorem dd_MO_find_99 : decode cd_MO_find 99 = .ok (.goto (-46), 3) := by decide +kernel
theorem dd_MO_find_102 : decode cd_MO_find 102 = .ok (.iload 4, 2) := by decide +kernel
theorem dd_MO_find_104 : decode cd_MO_find 104 = .ok (.ifCond .eq 5, 3) := by decide +kernel
theorem dd_MO_find_107 : decode cd_MO_find 107 = .ok (.iload_n 3, 1) := by decide +kernel
theorem dd_MO_find_108 : decode cd_MO_find 108 = .ok (.ireturn, 1) := by decide +kernel
theorem dd_MO_find_109 : decode cd_MO_find 109 = .ok (.iinc 3 1, 3) := by decide +kernel
theorem dd_MO_find_112 : decode cd_MO_find 112 = .ok (.goto (-110), 3) := by decide +kernel
theorem dd_MO_find_115 : decode cd_MO_find 115 = .ok (.iconst (-1), 1) := by decide +kernel
theorem dd_MO_find_116 : decode cd_MO_find 116 = .ok (.ireturn, 1) := by decide +kernel
theorem dd_MO_unbind_0 : decode cd_MO_unbind 0 = .ok (.aload_n 0, 1) := by decide +kernel
theorem dd_MO_unbind_1 : decode cd_MO_unbind 1 = .ok (.iconst 0, 1) := by decide +kernel
theorem dd_MO_unbind_2 : decode cd_MO_unbind 2 = .ok (.putfield 60, 3) := by decide +kernel
theorem dd_MO_unbind_5 : decode cd_MO_unbind 5 = .ok (.aload_n 0, 1) := by decide +kernel
theorem dd_MO_unbind_6 : decode cd_MO_unbind 6 = .ok (.iload_n 1, 1) := by decide +kernel
theorem dd_MO_unbind_7 : decode cd_MO_unbind 7 = .ok (.invokevirtual 73, 3) := by decide +kernel
theorem dd_MO_unbind_10 : decode cd_MO_unbind 10 = .ok (.ifCond .eq 32, 3) := by decide +kernel
theorem dd_MO_unbind_13 : decode cd_MO_unbind 13 = .ok (.aload_n 0, 1) := by decide +kernel
theorem dd_MO_unbind_14 : decode cd_MO_unbind 14 = .ok (.iload_n 2, 1) := by decide +kernel
theorem dd_MO_unbind_15 : decode cd_MO_unbind 15 = .ok (.iload_n 3, 1) := by decide +kernel
theorem dd_MO_unbind_16 : decode cd_MO_unbind 16 = .ok (.invokevirtual 112, 3) := by decide +kernel
theorem dd_MO_unbind_19 : decode cd_MO_unbind 19 = .ok (.ifCond .eq 23, 3) := by decide +kernel
theorem dd_MO_unbind_22 : decode cd_MO_unbind 22 = .ok (.aload_n 0, 1) := by decide +kernel
theorem dd_MO_unbind_23 : decode cd_MO_unbind 23 = .ok (.iload_n 1, 1) := by decide +kernel
theorem dd_MO_unbind_24 : decode cd_MO_unbind 24 = .ok (.iload_n 3, 1) := by decide +kernel
theorem dd_MO_unbind_25 : decode cd_MO_unbind 25 = .ok (.ifCond .eq 10, 3) := by decide +kernel
theorem dd_MO_unbind_28 : decode cd_MO_unbind 28 = .ok (.bipush 16, 2) := by decide +kernel
theorem dd_MO_unbind_30 : decode cd_MO_unbind 30 = .ok (.iload_n 2, 1) := by decide +kernel
theorem dd_MO_unbind_31 : decode cd_MO_unbind 31 = .ok (.iadd, 1) := by decide +kernel
theorem dd_MO_unbind_32 : decode cd_MO_unbind 32 = .ok (.goto 4, 3) := by decide +kernel
theorem dd_MO_unbind_35 : decode cd_MO_unbind 35 = .ok (.iload_n 2, 1) := by decide +kernel
theorem dd_MO_unbind_36 : decode cd_MO_unbind 36 = .ok (.invokevirtual 119, 3) := by decide +kernel
theorem dd_MO_unbind_39 : decode cd_MO_unbind 39 = .ok (.goto 4, 3) := by decide +kernel
theorem dd_MO_unbind_42 : decode cd_MO_unbind 42 = .ok (.iconst (-1), 1) := by decide +kernel
theorem dd_MO_unbind_43 : decode cd_MO_unbind 43 = .ok (.istore 4, 2) := by decide +kernel
theorem dd_MO_unbind_45 : decode cd_MO_unbind 45 = .ok (.aload_n 0, 1) := by decide +kernel
theorem dd_MO_unbind_46 : decode cd_MO_unbind 46 = .ok (.iconst 0, 1) := by decide +kernel
theorem dd_MO_unbind_47 : decode cd_MO_unbind 47 = .ok (.putfield 64, 3) := by decide +kernel
theorem dd_MO_unbind_50 : decode cd_MO_unbind 50 = .ok (.iload 4, 2) := by decide +kernel
theorem dd_MO_unbind_52 : decode cd_MO_unbind 52 = .ok (.iconst (-1), 1) := by decide +kernel
theorem dd_MO_unbind_53 : decode cd_MO_unbind 53 = .ok (.if_icmp .ne 5, 3) := by decide +kernel
theorem dd_MO_unbind_56 : decode cd_MO_unbind 56 = .ok (.iconst 0, 1) := by decide +kernel
theorem dd_MO_unbind_57 : decode cd_MO_unbind 57 = .ok (.ireturn, 1) := by decide +kernel
theorem dd_MO_unbind_58 : decode cd_MO_unbind 58 = .ok (.aload_n 0, 1) := by decide +kernel
theorem dd_MO_unbind_59 : decode cd_MO_unbind 59 = .ok (.iload 4, 2) := by decide +kernel
theorem dd_MO_unbind_61 : decode cd_MO_unbind 61 = .ok (.invokevirtual 83, 3) := by decide +kernel
theorem dd_MO_unbind_64 : decode cd_MO_unbind 64 = .ok (.iconst 1, 1) := by decide +kernel
theorem dd_MO_unbind_65 : decode cd_MO_unbind 65 = .ok (.ireturn, 1) := by decide +kernel
theorem dd_MO_message_0 : decode cd_MO_message 0 = .ok (.aload_n 0, 1) := by decide +kernel
theorem dd_MO_message_1 : decode cd_MO_message 1 = .ok (.iconst 0, 1) := by decide +kernel
theorem dd_MO_message_2 : decode cd_MO_message 2 = .ok (.putfield 60, 3) := by decide +kernel
theorem dd_MO_message_5 : decode cd_MO_message 5 = .ok (.iconst 0, 1) := by decide +kernel
theorem dd_MO_message_6 : decode cd_MO_message 6 = .ok (.istore_n 1, 1) := by decide +kernel
theorem dd_MO_message_7 : decode cd_MO_message 7 = .ok (.iload_n 1, 1) := by decide +kernel
theorem dd_MO_message_8 : decode cd_MO_message 8 = .ok (.aload_n 0, 1) := by decide +kernel
theorem dd_MO_message_9 : decode cd_MO_message 9 = .ok (.getfield 64, 3) := by decide +kernel
theorem dd_MO_message_12 : decode cd_MO_message 12 = .ok (.if_icmp .ge 21, 3) := by decide +kernel
theorem dd_MO_message_15 : decode cd_MO_message 15 = .ok (.aload_n 0, 1) := by decide +kernel
theorem dd_MO_message_16 : decode cd_MO_message 16 = .ok (.getfield 35, 3) := by decide +kernel
theorem dd_MO_message_19 : decode cd_MO_message 19 = .ok (.iload_n 1, 1) := by decide +kernel
theorem dd_MO_message_20 : decode cd_MO_message 20 = .ok (.aload_n 0, 1) := by decide +kernel
theorem dd_MO_message_21 : decode cd_MO_message 21 = .ok (.getfield 7, 3) := by decide +kernel
theorem dd_MO_message_24 : decode cd_MO_message 24 = .ok (.iload_n 1, 1) := by decide +kernel
theorem dd_MO_message_25 : decode cd_MO_message 25 = .ok (.iaload, 1) := by decide +kernel
theorem dd_MO_message_26 : decode cd_MO_message 26 = .ok (.iastore, 1) := by decide +kernel
theorem dd_MO_message_27 : decode cd_MO_message 27 = .ok (.iinc 1 1, 3) := by decide +kernel
theorem dd_MO_message_30 : decode cd_MO_message 30 = .ok (.goto (-23), 3) := by decide +kernel
theorem dd_MO_message_33 : decode cd_MO_message 33 = .ok (.aload_n 0, 1) := by decide +kernel
theorem dd_MO_message_34 : decode cd_MO_message 34 = .ok (.aload_n 0, 1) := by decide +kernel
theorem dd_MO_message_35 : decode cd_MO_message 35 = .ok (.getfield 64, 3) := by decide +kernel
theorem dd_MO_message_38 : decode cd_MO_message 38 = .ok (.putfield 123, 3) := by decide +kernel
theorem dd_MO_message_41 : decode cd_MO_message 41 = .ok (.aload_n 0, 1) := by decide +kernel
theorem dd_MO_message_42 : decode cd_MO_message 42 = .ok (.iconst 0, 1) := by decide +kernel
theorem dd_MO_message_43 : decode cd_MO_message 43 = .ok (.putfield 64, 3) := by decide +kernel
theorem dd_MO_message_46 : decode cd_MO_message 46 = .ok (.aload_n 0, 1) := by decide +kernel
theorem dd_MO_message_47 : decode cd_MO_message 47 = .ok (.iconst 0, 1) := by decide +kernel
theorem dd_MO_message_48 : decode cd_MO_message 48 = .ok (.putfield 126, 3) := by decide +kernel
theorem dd_MO_message_51 : decode cd_MO_message 51 = .ok (.return_, 1) := by decide +kernel
theorem dd_MO_header_0 : decode cd_MO_header 0 = .ok (.aload_n 0, 1) := by decide +kernel
theorem dd_MO_header_1 : decode cd_MO_header 1 = .ok (.iconst 0, 1) := by decide +kernel
theorem dd_MO_header_2 : decode cd_MO_header 2 = .ok (.putfield 60, 3) := by decide +kernel
theorem dd_MO_header_5 : decode cd_MO_header 5 = .ok (.aload_n 0, 1) := by decide +kernel
theorem dd_MO_header_6 : decode cd_MO_header 6 = .ok (.iconst 0, 1) := by decide +kernel
theorem dd_MO_header_7 : decode cd_MO_header 7 = .ok (.putfield 90, 3) := by decide +kernel
theorem dd_MO_header_10 : decode cd_MO_header 10 = .ok (.aload_n 0, 1) := by decide +kernel
theorem dd_MO_header_11 : decode cd_MO_header 11 = .ok (.aload_n 0, 1) := by decide +kernel
theorem dd_MO_header_12 : decode cd_MO_header 12 = .ok (.getfield 64, 3) := by decide +kernel
theorem dd_MO_header_15 : decode cd_MO_header 15 = .ok (.invokevirtual 98, 3) := by decide +kernel
theorem dd_MO_header_18 : decode cd_MO_header 18 = .ok (.lstore_n 1, 1) := by decide +kernel
theorem dd_MO_header_19 : decode cd_MO_header 19 = .ok (.lload_n 1, 1) := by decide +kernel
theorem dd_MO_header_20 : decode cd_MO_header 20 = .ok (.ldc2_w 93, 3) := by decide +kernel
theorem dd_MO_header_23 : decode cd_MO_header 23 = .ok (.lcmp, 1) := by decide +kernel
theorem dd_MO_header_24 : decode cd_MO_header 24 = .ok (.ifCond .eq 32, 3) := by decide +kernel
theorem dd_MO_header_27 : decode cd_MO_header 27 = .ok (.aload_n 0, 1) := by decide +kernel
theorem dd_MO_header_28 : decode cd_MO_header 28 = .ok (.getfield 90, 3) := by decide +kernel
theorem dd_MO_header_31 : decode cd_MO_header 31 = .ok (.aload_n 0, 1) := by decide +kernel
theorem dd_MO_header_32 : decode cd_MO_header 32 = .ok (.getfield 64, 3) := by decide +kernel
theorem dd_MO_header_35 : decode cd_MO_header 35 = .ok (.if_icmp .ge 21, 3) := by decide +kernel
theorem dd_MO_header_38 : decode cd_MO_header 38 = .ok (.aload_n 0, 1) := by decide +kernel
theorem dd_MO_header_39 : decode cd_MO_header 39 = .ok (.getfield 7, 3) := by decide +kernel
theorem dd_MO_header_42 : decode cd_MO_header 42 = .ok (.aload_n 0, 1) := by decide +kernel
theorem dd_MO_header_43 : decode cd_MO_header 43 = .ok (.getfield 90, 3) := by decide +kernel
theorem dd_MO_header_46 : decode cd_MO_header 46 = .ok (.iaload, 1) := by decide +kernel
theorem dd_MO_header_47 : decode cd_MO_header 47 = .ok (.bipush 61, 2) := by decide +kernel
theorem dd_MO_header_49 : decode cd_MO_header 49 = .ok (.if_icmp .ne 7, 3) := by decide +kernel
theorem dd_MO_header_52 : decode cd_MO_header 52 = .ok (.iconst 1, 1) := by decide +kernel
theorem dd_MO_header_53 : decode cd_MO_header 53 = .ok (.goto 4, 3) := by decide +kernel
theorem dd_MO_header_56 : decode cd_MO_header 56 = .ok (.iconst 0, 1) := by decide +kernel
theorem dd_MO_header_57 : decode cd_MO_header 57 = .ok (.istore_n 3, 1) := by decide +kernel
theorem dd_MO_header_58 : decode cd_MO_header 58 = .ok (.aload_n 0, 1) := by decide +kernel
theorem dd_MO_header_59 : decode cd_MO_header 59 = .ok (.dup, 1) := by decide +kernel
theorem dd_MO_header_60 : decode cd_MO_header 60 = .ok (.getfield 90, 3) := by decide +kernel
theorem dd_MO_header_63 : decode cd_MO_header 63 = .ok (.iconst 1, 1) := by decide +kernel
theorem dd_MO_header_64 : decode cd_MO_header 64 = .ok (.iadd, 1) := by decide +kernel
theorem dd_MO_header_65 : decode cd_MO_header 65 = .ok (.putfield 90, 3) := by decide +kernel
theorem dd_MO_header_68 : decode cd_MO_header 68 = .ok (.iload_n 3, 1) := by decide +kernel
theorem dd_MO_header_69 : decode cd_MO_header 69 = .ok (.ifCond .eq 14, 3) := by decide +kernel
theorem dd_MO_header_72 : decode cd_MO_header 72 = .ok (.aload_n 0, 1) := by decide +kernel
theorem dd_MO_header_73 : decode cd_MO_header 73 = .ok (.aload_n 0, 1) := by decide +kernel
theorem dd_MO_header_74 : decode cd_MO_header 74 = .ok (.getfield 64, 3) := by decide +kernel
theorem dd_MO_header_77 : decode cd_MO_header 77 = .ok (.invokevirtual 102, 3) := by decide +kernel
theorem dd_MO_header_80 : decode cd_MO_header 80 = .ok (.goto 6, 3) := by decide +kernel
theorem dd_MO_header_83 : decode cd_MO_header 83 = .ok (.ldc2_w 93, 3) := by decide +kernel
theorem dd_MO_header_86 : decode cd_MO_header 86 = .ok (.lstore 4, 2) := by decide +kernel
theorem dd_MO_header_88 : decode cd_MO_header 88 = .ok (.iload_n 3, 1) := by decide +kernel
theorem dd_MO_header_89 : decode cd_MO_header 89 = .ok (.ifCond .eq 27, 3) := by decide +kernel
theorem dd_MO_header_92 : decode cd_MO_header 92 = .ok (.lload 4, 2) := by decide +kernel
theorem dd_MO_header_94 : decode cd_MO_header 94 = .ok (.ldc2_w 93, 3) := by decide +kernel
theorem dd_MO_header_97 : decode cd_MO_header 97 = .ok (.lcmp, 1) := by decide +kernel
theorem dd_MO_header_98 : decode cd_MO_header 98 = .ok (.ifCond .eq 18, 3) := by decide +kernel
theorem dd_MO_header_101 : decode cd_MO_header 101 = .ok (.aload_n 0, 1) := by decide +kernel
theorem dd_MO_header_102 : decode cd_MO_header 102 = .ok (.getfield 90, 3) := by decide +kernel
theorem dd_MO_header_105 : decode cd_MO_header 105 = .ok (.aload_n 0, 1) := by decide +kernel
theorem dd_MO_header_106 : decode cd_MO_header 106 = .ok (.getfield 64, 3) := by decide +kernel
theorem dd_MO_header_109 : decode cd_MO_header 109 = .ok (.if_icmp .ne 7, 3) := by decide +kernel
theorem dd_MO_header_112 : decode cd_MO_header 112 = .ok (.iconst 1, 1) := by decide +kernel
theorem dd_MO_header_113 : decode cd_MO_header 113 = .ok (.goto 4, 3) := by decide +kernel
theorem dd_MO_header_116 : decode cd_MO_header 116 = .ok (.iconst 0, 1) := by decide +kernel
theorem dd_MO_header_117 : decode cd_MO_header 117 = .ok (.istore_n 3, 1) := by decide +kernel
theorem dd_MO_header_118 : decode cd_MO_header 118 = .ok (.aload_n 0, 1) := by decide +kernel
theorem dd_MO_header_119 : decode cd_MO_header 119 = .ok (.iconst 0, 1) := by decide +kernel
theorem dd_MO_header_120 : decode cd_MO_header 120 = .ok (.putfield 64, 3) := by decide +kernel
theorem dd_MO_header_123 : decode cd_MO_header 123 = .ok (.iload_n 3, 1) := by decide +kernel
theorem dd_MO_header_124 : decode cd_MO_header 124 = .ok (.ifCond .eq 11, 3) := by decide +kernel
theorem dd_MO_header_127 : decode cd_MO_header 127 = .ok (.aload_n 0, 1) := by decide +kernel
theorem dd_MO_header_128 : decode cd_MO_header 128 = .ok (.lload_n 1, 1) := by decide +kernel
theorem dd_MO_header_129 : decode cd_MO_header 129 = .ok (.invokevirtual 129, 3) := by decide +kernel
theorem dd_MO_header_132 : decode cd_MO_header 132 = .ok (.goto 4, 3) := by decide +kernel
theorem dd_MO_header_135 : decode cd_MO_header 135 = .ok (.iconst (-1), 1) := by decide +kernel
theorem dd_MO_header_136 : decode cd_MO_header 136 = .ok (.istore 6, 2) := by decide +kernel
theorem dd_MO_header_138 : decode cd_MO_header 138 = .ok (.iload_n 3, 1) := by decide +kernel
theorem dd_MO_header_139 : decode cd_MO_header 139 = .ok (.ifCond .eq 18, 3) := by decide +kernel
theorem dd_MO_header_142 : decode cd_MO_header 142 = .ok (.iload 6, 2) := by decide +kernel
theorem dd_MO_header_144 : decode cd_MO_header 144 = .ok (.iconst (-1), 1) := by decide +kernel
theorem dd_MO_header_145 : decode cd_MO_header 145 = .ok (.if_icmp .ne 14, 3) := by decide +kernel
theorem dd_MO_header_148 : decode cd_MO_header 148 = .ok (.aload_n 0, 1) := by decide +kernel
theorem dd_MO_header_149 : decode cd_MO_header 149 = .ok (.getfield 126, 3) := by decide +kernel
theorem dd_MO_header_152 : decode cd_MO_header 152 = .ok (.bipush 6, 2) := by decide +kernel
theorem dd_MO_header_154 : decode cd_MO_header 154 = .ok (.if_icmp .ne 5, 3) := by decide +kernel
theorem dd_MO_header_157 : decode cd_MO_header 157 = .ok (.iconst 0, 1) := by decide +kernel
theorem dd_MO_header_158 : decode cd_MO_header 158 = .ok (.ireturn, 1) := by decide +kernel
theorem dd_MO_header_159 : decode cd_MO_header 159 = .ok (.iload 6, 2) := by decide +kernel
theorem dd_MO_header_161 : decode cd_MO_header 161 = .ok (.iconst (-1), 1) := by decide +kernel
theorem dd_MO_header_162 : decode cd_MO_header 162 = .ok (.if_icmp .ne 19, 3) := by decide +kernel
theorem dd_MO_header_165 : decode cd_MO_header 165 = .ok (.aload_n 0, 1) := by decide +kernel
theorem dd_MO_header_166 : decode cd_MO_header 166 = .ok (.getfield 126, 3) := by decide +kernel
theorem dd_MO_header_169 : decode cd_MO_header 169 = .ok (.istore 6, 2) := by decide +kernel
theorem dd_MO_header_171 : decode cd_MO_header 171 = .ok (.aload_n 0, 1) := by decide +kernel
theorem dd_MO_header_172 : decode cd_MO_header 172 = .ok (.dup, 1) := by decide +kernel
theorem dd_MO_header_173 : decode cd_MO_header 173 = .ok (.getfield 126, 3) := by decide +kernel
theorem dd_MO_header_176 : decode cd_MO_header 176 = .ok (.iconst 1, 1) := by decide +kernel
theorem dd_MO_header_177 : decode cd_MO_header 177 = .ok (.iadd, 1) := by decide +kernel
theorem dd_MO_header_178 : decode cd_MO_header 178 = .ok (.putfield 126, 3) := by decide +kernel
theorem dd_MO_header_181 : decode cd_MO_header 181 = .ok (.aload_n 0, 1) := by decide +kernel
theorem dd_MO_header_182 : decode cd_MO_header 182 = .ok (.getfield 38, 3) := by decide +kernel
theorem dd_MO_header_185 : decode cd_MO_header 185 = .ok (.iload 6, 2) := by decide +kernel
theorem dd_MO_header_187 : decode cd_MO_header 187 = .ok (.lload_n 1, 1) := by decide +kernel
theorem dd_MO_header_188 : decode cd_MO_header 188 = .ok (.lastore, 1) := by decide +kernel
theorem dd_MO_header_189 : decode cd_MO_header 189 = .ok (.aload_n 0, 1) := by decide +kernel
theorem dd_MO_header_190 : decode cd_MO_header 190 = .ok (.getfield 42, 3) := by decide +kernel
theorem dd_MO_header_193 : decode cd_MO_header 193 = .ok (.iload 6, 2) := by decide +kernel
theorem dd_MO_header_195 : decode cd_MO_header 195 = .ok (.lload 4, 2) := by decide +kernel
theorem dd_MO_header_197 : decode cd_MO_header 197 = .ok (.lastore, 1) := by decide +kernel
theorem dd_MO_header_198 : decode cd_MO_header 198 = .ok (.iconst 1, 1) := by decide +kernel
theorem dd_MO_header_199 : decode cd_MO_header 199 = .ok (.ireturn, 1) := by decide +kernel
theorem dd_MO_headerOf_0 : decode cd_MO_headerOf 0 = .ok (.iconst 0, 1) := by decide +kernel
theorem dd_MO_headerOf_1 : decode cd_MO_headerOf 1 = .ok (.istore_n 3, 1) := by decide +kernel
theorem dd_MO_headerOf_2 : decode cd_MO_headerOf 2 = .ok (.iload_n 3, 1) := by decide +kernel
theorem dd_MO_headerOf_3 : decode cd_MO_headerOf 3 = .ok (.aload_n 0, 1) := by decide +kernel
theorem dd_MO_headerOf_4 : decode cd_MO_headerOf 4 = .ok (.getfield 126, 3) := by decide +kernel
theorem dd_MO_headerOf_7 : decode cd_MO_headerOf 7 = .ok (.if_icmp .ge 22, 3) := by decide +kernel
theorem dd_MO_headerOf_10 : decode cd_MO_headerOf 10 = .ok (.aload_n 0, 1) := by decide +kernel
theorem dd_MO_headerOf_11 : decode cd_MO_headerOf 11 = .ok (.getfield 38, 3) := by decide +kernel
theorem dd_MO_headerOf_14 : decode cd_MO_headerOf 14 = .ok (.iload_n 3, 1) := by decide +kernel
theorem dd_MO_headerOf_15 : decode cd_MO_headerOf 15 = .ok (.laload, 1) := by decide +kernel
theorem dd_MO_headerOf_16 : decode cd_MO_headerOf 16 = .ok (.lload_n 1, 1) := by decide +kernel
theorem dd_MO_headerOf_17 : decode cd_MO_headerOf 17 = .ok (.lcmp, 1) := by decide +kernel
theorem dd_MO_headerOf_18 : decode cd_MO_headerOf 18 = .ok (.ifCond .ne 5, 3) := by decide +kernel
theorem dd_MO_headerOf_21 : decode cd_MO_headerOf 21 = .ok (.iload_n 3, 1) := by decide +kernel
theorem dd_MO_headerOf_22 : decode cd_MO_headerOf 22 = .ok (.ireturn, 1) := by decide +kernel
theorem dd_MO_headerOf_23 : decode cd_MO_headerOf 23 = .ok (.iinc 3 1, 3) := by decide +kernel
theorem dd_MO_headerOf_26 : decode cd_MO_headerOf 26 = .ok (.goto (-24), 3) := by decide +kernel
theorem dd_MO_headerOf_29 : decode cd_MO_headerOf 29 = .ok (.iconst (-1), 1) := by decide +kernel
theorem dd_MO_headerOf_30 : decode cd_MO_headerOf 30 = .ok (.ireturn, 1) := by decide +kernel
theorem dd_MO_route_0 : decode cd_MO_route 0 = .ok (.aload_n 0, 1) := by decide +kernel
theorem dd_MO_route_1 : decode cd_MO_route 1 = .ok (.iload_n 1, 1) := by decide +kernel
theorem dd_MO_route_2 : decode cd_MO_route 2 = .ok (.invokevirtual 73, 3) := by decide +kernel
theorem dd_MO_route_5 : decode cd_MO_route 5 = .ok (.ifCond .ne 9, 3) := by decide +kernel
theorem dd_MO_route_8 : decode cd_MO_route 8 = .ok (.aload_n 0, 1) := by decide +kernel
theorem dd_MO_route_9 : decode cd_MO_route 9 = .ok (.iconst 1, 1) := by decide +kernel
theorem dd_MO_route_10 : decode cd_MO_route 10 = .ok (.invokevirtual 69, 3) := by decide +kernel
theorem dd_MO_route_13 : decode cd_MO_route 13 = .ok (.ireturn, 1) := by decide +kernel
theorem dd_MO_route_14 : decode cd_MO_route 14 = .ok (.aload_n 0, 1) := by decide +kernel
theorem dd_MO_route_15 : decode cd_MO_route 15 = .ok (.iconst 0, 1) := by decide +kernel
theorem dd_MO_route_16 : decode cd_MO_route 16 = .ok (.putfield 60, 3) := by decide +kernel
theorem dd_MO_route_19 : decode cd_MO_route 19 = .ok (.iconst 0, 1) := by decide +kernel
theorem dd_MO_route_20 : decode cd_MO_route 20 = .ok (.istore_n 2, 1) := by decide +kernel
theorem dd_MO_route_21 : decode cd_MO_route 21 = .ok (.iload_n 2, 1) := by decide +kernel
theorem dd_MO_route_22 : decode cd_MO_route 22 = .ok (.bipush 16, 2) := by decide +kernel
theorem dd_MO_route_24 : decode cd_MO_route 24 = .ok (.if_icmp .ge 32, 3) := by decide +kernel
theorem dd_MO_route_27 : decode cd_MO_route 27 = .ok (.aload_n 0, 1) := by decide +kernel
theorem dd_MO_route_28 : decode cd_MO_route 28 = .ok (.getfield 45, 3) := by decide +kernel
theorem dd_MO_route_31 : decode cd_MO_route 31 = .ok (.iload_n 2, 1) := by decide +kernel
theorem dd_MO_route_32 : decode cd_MO_route 32 = .ok (.iconst 0, 1) := by decide +kernel
theorem dd_MO_route_33 : decode cd_MO_route 33 = .ok (.bastore, 1) := by decide +kernel
theorem dd_MO_route_34 : decode cd_MO_route 34 = .ok (.aload_n 0, 1) := by decide +kernel
theorem dd_MO_route_35 : decode cd_MO_route 35 = .ok (.getfield 48, 3) := by decide +kernel
theorem dd_MO_route_38 : decode cd_MO_route 38 = .ok (.iload_n 2, 1) := by decide +kernel
theorem dd_MO_route_39 : decode cd_MO_route 39 = .ok (.iload_n 2, 1) := by decide +kernel
theorem dd_MO_route_40 : decode cd_MO_route 40 = .ok (.iload_n 1, 1) := by decide +kernel
theorem dd_MO_route_41 : decode cd_MO_route 41 = .ok (.if_icmp .ne 7, 3) := by decide +kernel
theorem dd_MO_route_44 : decode cd_MO_route 44 = .ok (.iconst 1, 1) := by decide +kernel
theorem dd_MO_route_45 : decode cd_MO_route 45 = .ok (.goto 4, 3) := by decide +kernel
theorem dd_MO_route_48 : decode cd_MO_route 48 = .ok (.iconst 0, 1) := by decide +kernel
theorem dd_MO_route_49 : decode cd_MO_route 49 = .ok (.bastore, 1) := by decide +kernel
theorem dd_MO_route_50 : decode cd_MO_route 50 = .ok (.iinc 2 1, 3) := by decide +kernel
theorem dd_MO_route_53 : decode cd_MO_route 53 = .ok (.goto (-32), 3) := by decide +kernel
theorem dd_MO_route_56 : decode cd_MO_route 56 = .ok (.iconst 1, 1) := by decide +kernel
theorem dd_MO_route_57 : decode cd_MO_route 57 = .ok (.istore_n 2, 1) := by decide +kernel
theorem dd_MO_route_58 : decode cd_MO_route 58 = .ok (.iload_n 2, 1) := by decide +kernel
theorem dd_MO_route_59 : decode cd_MO_route 59 = .ok (.ifCond .eq 49, 3) := by decide +kernel
theorem dd_MO_route_62 : decode cd_MO_route 62 = .ok (.iconst 0, 1) := by decide +kernel
theorem dd_MO_route_63 : decode cd_MO_route 63 = .ok (.istore_n 2, 1) := by decide +kernel
theorem dd_MO_route_64 : decode cd_MO_route 64 = .ok (.iconst 0, 1) := by decide +kernel
theorem dd_MO_route_65 : decode cd_MO_route 65 = .ok (.istore_n 3, 1) := by decide +kernel
theorem dd_MO_route_66 : decode cd_MO_route 66 = .ok (.iload_n 3, 1) := by decide +kernel
theorem dd_MO_route_67 : decode cd_MO_route 67 = .ok (.bipush 16, 2) := by decide +kernel
theorem dd_MO_route_69 : decode cd_MO_route 69 = .ok (.if_icmp .ge 36, 3) := by decide +kernel
theorem dd_MO_route_72 : decode cd_MO_route 72 = .ok (.aload_n 0, 1) := by decide +kernel
theorem dd_MO_route_73 : decode cd_MO_route 73 = .ok (.getfield 48, 3) := by decide +kernel
theorem dd_MO_route_76 : decode cd_MO_route 76 = .ok (.iload_n 3, 1) := by decide +kernel
theorem dd_MO_route_77 : decode cd_MO_route 77 = .ok (.baload, 1) := by decide +kernel
theorem dd_MO_route_78 : decode cd_MO_route 78 = .ok (.ifCond .eq 21, 3) := by decide +kernel
theorem dd_MO_route_81 : decode cd_MO_route 81 = .ok (.aload_n 0, 1) := by decide +kernel
theorem dd_MO_route_82 : decode cd_MO_route 82 = .ok (.iload_n 3, 1) := by decide +kernel
theorem dd_MO_route_83 : decode cd_MO_route 83 = .ok (.invokevirtual 146, 3) := by decide +kernel
theorem dd_MO_route_86 : decode cd_MO_route 86 = .ok (.ifCond .ne 7, 3) := by decide +kernel
theorem dd_MO_route_89 : decode cd_MO_route 89 = .ok (.iload_n 2, 1) := by decide +kernel
theorem dd_MO_route_90 : decode cd_MO_route 90 = .ok (.ifCond .eq 7, 3) := by decide +kernel
theorem dd_MO_route_93 : decode cd_MO_route 93 = .ok (.iconst 1, 1) := by decide +kernel
theorem dd_MO_route_94 : decode cd_MO_route 94 = .ok (.goto 4, 3) := by decide +kernel
theorem dd_MO_route_97 : decode cd_MO_route 97 = .ok (.iconst 0, 1) := by decide +kernel
theorem dd_MO_route_98 : decode cd_MO_route 98 = .ok (.istore_n 2, 1) := by decide +kernel
theorem dd_MO_route_99 : decode cd_MO_route 99 = .ok (.iinc 3 1, 3) := by decide +kernel
theorem dd_MO_route_102 : decode cd_MO_route 102 = .ok (.goto (-36), 3) := by decide +kernel
theorem dd_MO_route_105 : decode cd_MO_route 105 = .ok (.goto (-47), 3) := by decide +kernel
theorem dd_MO_route_108 : decode cd_MO_route 108 = .ok (.iconst 0, 1) := by decide +kernel
theorem dd_MO_route_109 : decode cd_MO_route 109 = .ok (.istore_n 3, 1) := by decide +kernel
theorem dd_MO_route_110 : decode cd_MO_route 110 = .ok (.iconst 0, 1) := by decide +kernel
theorem dd_MO_route_111 : decode cd_MO_route 111 = .ok (.istore 4, 2) := by decide +kernel
theorem dd_MO_route_113 : decode cd_MO_route 113 = .ok (.iload 4, 2) := by decide +kernel
theorem dd_MO_route_115 : decode cd_MO_route 115 = .ok (.bipush 16, 2) := by decide +kernel
theorem dd_MO_route_117 : decode cd_MO_route 117 = .ok (.if_icmp .ge 27, 3) := by decide +kernel
theorem dd_MO_route_120 : decode cd_MO_route 120 = .ok (.iload_n 3, 1) := by decide +kernel
theorem dd_MO_route_121 : decode cd_MO_route 121 = .ok (.aload_n 0, 1) := by decide +kernel
theorem dd_MO_route_122 : decode cd_MO_route 122 = .ok (.getfield 45, 3) := by decide +kernel
theorem dd_MO_route_125 : decode cd_MO_route 125 = .ok (.iload 4, 2) := by decide +kernel
theorem dd_MO_route_127 : decode cd_MO_route 127 = .ok (.baload, 1) := by decide +kernel
theorem dd_MO_route_128 : decode cd_MO_route 128 = .ok (.ifCond .eq 7, 3) := by decide +kernel
theorem dd_MO_route_131 : decode cd_MO_route 131 = .ok (.iconst 1, 1) := by decide +kernel
theorem dd_MO_route_132 : decode cd_MO_route 132 = .ok (.goto 4, 3) := by decide +kernel
theorem dd_MO_route_135 : decode cd_MO_route 135 = .ok (.iconst 0, 1) := by decide +kernel
theorem dd_MO_route_136 : decode cd_MO_route 136 = .ok (.iadd, 1) := by decide +kernel
theorem dd_MO_route_137 : decode cd_MO_route 137 = .ok (.istore_n 3, 1) := by decide +kernel
theorem dd_MO_route_138 : decode cd_MO_route 138 = .ok (.iinc 4 1, 3) := by decide +kernel
theorem dd_MO_route_141 : decode cd_MO_route 141 = .ok (.goto (-28), 3) := by decide +kernel
theorem dd_MO_route_144 : decode cd_MO_route 144 = .ok (.iload_n 3, 1) := by decide +kernel
theorem dd_MO_route_145 : decode cd_MO_route 145 = .ok (.ireturn, 1) := by decide +kernel
theorem dd_MO_goOn_0 : decode cd_MO_goOn 0 = .ok (.iconst 0, 1) := by decide +kernel
theorem dd_MO_goOn_1 : decode cd_MO_goOn 1 = .ok (.istore_n 2, 1) := by decide +kernel
theorem dd_MO_goOn_2 : decode cd_MO_goOn 2 = .ok (.iconst 0, 1) := by decide +kernel
theorem dd_MO_goOn_3 : decode cd_MO_goOn 3 = .ok (.istore_n 3, 1) := by decide +kernel
theorem dd_MO_goOn_4 : decode cd_MO_goOn 4 = .ok (.iconst 0, 1) := by decide +kernel
theorem dd_MO_goOn_5 : decode cd_MO_goOn 5 = .ok (.istore 4, 2) := by decide +kernel
theorem dd_MO_goOn_7 : decode cd_MO_goOn 7 = .ok (.iload 4, 2) := by decide +kernel
theorem dd_MO_goOn_9 : decode cd_MO_goOn 9 = .ok (.aload_n 0, 1) := by decide +kernel
theorem dd_MO_goOn_10 : decode cd_MO_goOn 10 = .ok (.getfield 77, 3) := by decide +kernel
theorem dd_MO_goOn_13 : decode cd_MO_goOn 13 = .ok (.if_icmp .ge 103, 3) := by decide +kernel
theorem dd_MO_goOn_16 : decode cd_MO_goOn 16 = .ok (.aload_n 0, 1) := by decide +kernel
theorem dd_MO_goOn_17 : decode cd_MO_goOn 17 = .ok (.getfield 23, 3) := by decide +kernel
theorem dd_MO_goOn_20 : decode cd_MO_goOn 20 = .ok (.iload 4, 2) := by decide +kernel
theorem dd_MO_goOn_22 : decode cd_MO_goOn 22 = .ok (.iaload, 1) := by decide +kernel
theorem dd_MO_goOn_23 : decode cd_MO_goOn 23 = .ok (.iload_n 1, 1) := by decide +kernel
theorem dd_MO_goOn_24 : decode cd_MO_goOn 24 = .ok (.if_icmp .ne 86, 3) := by decide +kernel
theorem dd_MO_goOn_27 : decode cd_MO_goOn 27 = .ok (.aload_n 0, 1) := by decide +kernel
theorem dd_MO_goOn_28 : decode cd_MO_goOn 28 = .ok (.iload 4, 2) := by decide +kernel
theorem dd_MO_goOn_30 : decode cd_MO_goOn 30 = .ok (.invokevirtual 149, 3) := by decide +kernel
theorem dd_MO_goOn_33 : decode cd_MO_goOn 33 = .ok (.ifCond .ne 6, 3) := by decide +kernel
theorem dd_MO_goOn_36 : decode cd_MO_goOn 36 = .ok (.goto 74, 3) := by decide +kernel
theorem dd_MO_goOn_39 : decode cd_MO_goOn 39 = .ok (.iconst 1, 1) := by decide +kernel
theorem dd_MO_goOn_40 : decode cd_MO_goOn 40 = .ok (.istore_n 3, 1) := by decide +kernel
theorem dd_MO_goOn_41 : decode cd_MO_goOn 41 = .ok (.aload_n 0, 1) := by decide +kernel
theorem dd_MO_goOn_42 : decode cd_MO_goOn 42 = .ok (.getfield 26, 3) := by decide +kernel
theorem dd_MO_goOn_45 : decode cd_MO_goOn 45 = .ok (.iload 4, 2) := by decide +kernel
theorem dd_MO_goOn_47 : decode cd_MO_goOn 47 = .ok (.iaload, 1) := by decide +kernel
theorem dd_MO_goOn_48 : decode cd_MO_goOn 48 = .ok (.bipush 16, 2) := by decide +kernel
theorem dd_MO_goOn_50 : decode cd_MO_goOn 50 = .ok (.if_icmp .lt 22, 3) := by decide +kernel
theorem dd_MO_goOn_53 : decode cd_MO_goOn 53 = .ok (.aload_n 0, 1) := by decide +kernel
theorem dd_MO_goOn_54 : decode cd_MO_goOn 54 = .ok (.getfield 45, 3) := by decide +kernel
theorem dd_MO_goOn_57 : decode cd_MO_goOn 57 = .ok (.aload_n 0, 1) := by decide +kernel
theorem dd_MO_goOn_58 : decode cd_MO_goOn 58 = .ok (.getfield 26, 3) := by decide +kernel
theorem dd_MO_goOn_61 : decode cd_MO_goOn 61 = .ok (.iload 4, 2) := by decide +kernel
theorem dd_MO_goOn_63 : decode cd_MO_goOn 63 = .ok (.iaload, 1) := by decide +kernel
theorem dd_MO_goOn_64 : decode cd_MO_goOn 64 = .ok (.bipush 16, 2) := by decide +kernel
theorem dd_MO_goOn_66 : decode cd_MO_goOn 66 = .ok (.isub, 1) := by decide +kernel
theorem dd_MO_goOn_67 : decode cd_MO_goOn 67 = .ok (.iconst 1, 1) := by decide +kernel
theorem dd_MO_goOn_68 : decode cd_MO_goOn 68 = .ok (.bastore, 1) := by decide +kernel
theorem dd_MO_goOn_69 : decode cd_MO_goOn 69 = .ok (.goto 41, 3) := by decide +kernel
theorem dd_MO_goOn_72 : decode cd_MO_goOn 72 = .ok (.iload_n 2, 1) := by decide +kernel
theorem dd_MO_goOn_73 : decode cd_MO_goOn 73 = .ok (.ifCond .ne 18, 3) := by decide +kernel
theorem dd_MO_goOn_76 : decode cd_MO_goOn 76 = .ok (.aload_n 0, 1) := by decide +kernel
theorem dd_MO_goOn_77 : decode cd_MO_goOn 77 = .ok (.getfield 48, 3) := by decide +kernel
theorem dd_MO_goOn_80 : decode cd_MO_goOn 80 = .ok (.aload_n 0, 1) := by decide +kernel
theorem dd_MO_goOn_81 : decode cd_MO_goOn 81 = .ok (.getfield 26, 3) := by decide +kernel
theorem dd_MO_goOn_84 : decode cd_MO_goOn 84 = .ok (.iload 4, 2) := by decide +kernel
theorem dd_MO_goOn_86 : decode cd_MO_goOn 86 = .ok (.iaload, 1) := by decide +kernel
theorem dd_MO_goOn_87 : decode cd_MO_goOn 87 = .ok (.baload, 1) := by decide +kernel
theorem dd_MO_goOn_88 : decode cd_MO_goOn 88 = .ok (.ifCond .ne 7, 3) := by decide +kernel
theorem dd_MO_goOn_91 : decode cd_MO_goOn 91 = .ok (.iconst 1, 1) := by decide +kernel
theorem dd_MO_goOn_92 : decode cd_MO_goOn 92 = .ok (.goto 4, 3) := by decide +kernel
theorem dd_MO_goOn_95 : decode cd_MO_goOn 95 = .ok (.iconst 0, 1) := by decide +kernel
theorem dd_MO_goOn_96 : decode cd_MO_goOn 96 = .ok (.istore_n 2, 1) := by decide +kernel
theorem dd_MO_goOn_97 : decode cd_MO_goOn 97 = .ok (.aload_n 0, 1) := by decide +kernel
theorem dd_MO_goOn_98 : decode cd_MO_goOn 98 = .ok (.getfield 48, 3) := by decide +kernel
theorem dd_MO_goOn_101 : decode cd_MO_goOn 101 = .ok (.aload_n 0, 1) := by decide +kernel
theorem dd_MO_goOn_102 : decode cd_MO_goOn 102 = .ok (.getfield 26, 3) := by decide +kernel
theorem dd_MO_goOn_105 : decode cd_MO_goOn 105 = .ok (.iload 4, 2) := by decide +kernel
theorem dd_MO_goOn_107 : decode cd_MO_goOn 107 = .ok (.iaload, 1) := by decide +kernel
theorem dd_MO_goOn_108 : decode cd_MO_goOn 108 = .ok (.iconst 1, 1) := by decide +kernel
theorem dd_MO_goOn_109 : decode cd_MO_goOn 109 = .ok (.bastore, 1) := by decide +kernel
theorem dd_MO_goOn_110 : decode cd_MO_goOn 110 = .ok (.iinc 4 1, 3) := by decide +kernel
theorem dd_MO_goOn_113 : decode cd_MO_goOn 113 = .ok (.goto (-106), 3) := by decide +kernel
theorem dd_MO_goOn_116 : decode cd_MO_goOn 116 = .ok (.iload_n 3, 1) := by decide +kernel
theorem dd_MO_goOn_117 : decode cd_MO_goOn 117 = .ok (.ifCond .ne 16, 3) := by decide +kernel
theorem dd_MO_goOn_120 : decode cd_MO_goOn 120 = .ok (.aload_n 0, 1) := by decide +kernel
theorem dd_MO_goOn_121 : decode cd_MO_goOn 121 = .ok (.aload_n 0, 1) := by decide +kernel
theorem dd_MO_goOn_122 : decode cd_MO_goOn 122 = .ok (.getfield 16, 3) := by decide +kernel
theorem dd_MO_goOn_125 : decode cd_MO_goOn 125 = .ok (.iload_n 1, 1) := by decide +kernel
theorem dd_MO_goOn_126 : decode cd_MO_goOn 126 = .ok (.iaload, 1) := by decide +kernel
theorem dd_MO_goOn_127 : decode cd_MO_goOn 127 = .ok (.invokevirtual 73, 3) := by decide +kernel
theorem dd_MO_goOn_130 : decode cd_MO_goOn 130 = .ok (.ifCond .ne 5, 3) := by decide +kernel
theorem dd_MO_goOn_133 : decode cd_MO_goOn 133 = .ok (.iload_n 2, 1) := by decide +kernel
theorem dd_MO_goOn_134 : decode cd_MO_goOn 134 = .ok (.ireturn, 1) := by decide +kernel
theorem dd_MO_goOn_135 : decode cd_MO_goOn 135 = .ok (.aload_n 0, 1) := by decide +kernel
theorem dd_MO_goOn_136 : decode cd_MO_goOn 136 = .ok (.getfield 48, 3) := by decide +kernel
theorem dd_MO_goOn_139 : decode cd_MO_goOn 139 = .ok (.aload_n 0, 1) := by decide +kernel
theorem dd_MO_goOn_140 : decode cd_MO_goOn 140 = .ok (.getfield 16, 3) := by decide +kernel
theorem dd_MO_goOn_143 : decode cd_MO_goOn 143 = .ok (.iload_n 1, 1) := by decide +kernel
theorem dd_MO_goOn_144 : decode cd_MO_goOn 144 = .ok (.iaload, 1) := by decide +kernel
theorem dd_MO_goOn_145 : decode cd_MO_goOn 145 = .ok (.baload, 1) := by decide +kernel
theorem dd_MO_goOn_146 : decode cd_MO_goOn 146 = .ok (.ifCond .ne 7, 3) := by decide +kernel
theorem dd_MO_goOn_149 : decode cd_MO_goOn 149 = .ok (.iconst 1, 1) := by decide +kernel
theorem dd_MO_goOn_150 : decode cd_MO_goOn 150 = .ok (.goto 4, 3) := by decide +kernel
theorem dd_MO_goOn_153 : decode cd_MO_goOn 153 = .ok (.iconst 0, 1) := by decide +kernel
theorem dd_MO_goOn_154 : decode cd_MO_goOn 154 = .ok (.istore_n 2, 1) := by decide +kernel
theorem dd_MO_goOn_155 : decode cd_MO_goOn 155 = .ok (.aload_n 0, 1) := by decide +kernel
theorem dd_MO_goOn_156 : decode cd_MO_goOn 156 = .ok (.getfield 48, 3) := by decide +kernel
theorem dd_MO_goOn_159 : decode cd_MO_goOn 159 = .ok (.aload_n 0, 1) := by decide +kernel
theorem dd_MO_goOn_160 : decode cd_MO_goOn 160 = .ok (.getfield 16, 3) := by decide +kernel
theorem dd_MO_goOn_163 : decode cd_MO_goOn 163 = .ok (.iload_n 1, 1) := by decide +kernel
theorem dd_MO_goOn_164 : decode cd_MO_goOn 164 = .ok (.iaload, 1) := by decide +kernel
theorem dd_MO_goOn_165 : decode cd_MO_goOn 165 = .ok (.iconst 1, 1) := by decide +kernel
theorem dd_MO_goOn_166 : decode cd_MO_goOn 166 = .ok (.bastore, 1) := by decide +kernel
theorem dd_MO_goOn_167 : decode cd_MO_goOn 167 = .ok (.iload_n 2, 1) := by decide +kernel
theorem dd_MO_goOn_168 : decode cd_MO_goOn 168 = .ok (.ireturn, 1) := by decide +kernel
theorem dd_MO_leads_0 : decode cd_MO_leads 0 = .ok (.aload_n 0, 1) := by decide +kernel
theorem dd_MO_leads_1 : decode cd_MO_leads 1 = .ok (.getfield 13, 3) := by decide +kernel
theorem dd_MO_leads_4 : decode cd_MO_leads 4 = .ok (.aload_n 0, 1) := by decide +kernel
theorem dd_MO_leads_5 : decode cd_MO_leads 5 = .ok (.getfield 23, 3) := by decide +kernel
theorem dd_MO_leads_8 : decode cd_MO_leads 8 = .ok (.iload_n 1, 1) := by decide +kernel
theorem dd_MO_leads_9 : decode cd_MO_leads 9 = .ok (.iaload, 1) := by decide +kernel
theorem dd_MO_leads_10 : decode cd_MO_leads 10 = .ok (.iaload, 1) := by decide +kernel
theorem dd_MO_leads_11 : decode cd_MO_leads 11 = .ok (.tableswitch 39 0 2 #[25, 31, 33], 25) := by decide +kernel
theorem dd_MO_leads_36 : decode cd_MO_leads 36 = .ok (.aload_n 0, 1) := by decide +kernel
theorem dd_MO_leads_37 : decode cd_MO_leads 37 = .ok (.iload_n 1, 1) := by decide +kernel
theorem dd_MO_leads_38 : decode cd_MO_leads 38 = .ok (.invokevirtual 137, 3) := by decide +kernel
theorem dd_MO_leads_41 : decode cd_MO_leads 41 = .ok (.ireturn, 1) := by decide +kernel
theorem dd_MO_leads_42 : decode cd_MO_leads 42 = .ok (.iconst 1, 1) := by decide +kernel
theorem dd_MO_leads_43 : decode cd_MO_leads 43 = .ok (.ireturn, 1) := by decide +kernel
theorem dd_MO_leads_44 : decode cd_MO_leads 44 = .ok (.aload_n 0, 1) := by decide +kernel
theorem dd_MO_leads_45 : decode cd_MO_leads 45 = .ok (.iload_n 1, 1) := by decide +kernel
theorem dd_MO_leads_46 : decode cd_MO_leads 46 = .ok (.invokevirtual 140, 3) := by decide +kernel
theorem dd_MO_leads_49 : decode cd_MO_leads 49 = .ok (.ireturn, 1) := by decide +kernel
theorem dd_MO_leads_50 : decode cd_MO_leads 50 = .ok (.aload_n 0, 1) := by decide +kernel
theorem dd_MO_leads_51 : decode cd_MO_leads 51 = .ok (.iload_n 1, 1) := by decide +kernel
theorem dd_MO_leads_52 : decode cd_MO_leads 52 = .ok (.invokevirtual 143, 3) := by decide +kernel
theorem dd_MO_leads_55 : decode cd_MO_leads 55 = .ok (.ireturn, 1) := by decide +kernel
theorem dd_MO_isDirect_0 : decode cd_MO_isDirect 0 = .ok (.aload_n 0, 1) := by decide +kernel
theorem dd_MO_isDirect_1 : decode cd_MO_isDirect 1 = .ok (.getfield 29, 3) := by decide +kernel
theorem dd_MO_isDirect_4 : decode cd_MO_isDirect 4 = .ok (.iload_n 1, 1) := by decide +kernel
theorem dd_MO_isDirect_5 : decode cd_MO_isDirect 5 = .ok (.iaload, 1) := by decide +kernel
theorem dd_MO_isDirect_6 : decode cd_MO_isDirect 6 = .ok (.aload_n 0, 1) := by decide +kernel
theorem dd_MO_isDirect_7 : decode cd_MO_isDirect 7 = .ok (.getfield 123, 3) := by decide +kernel
theorem dd_MO_isDirect_10 : decode cd_MO_isDirect 10 = .ok (.if_icmp .ne 7, 3) := by decide +kernel
theorem dd_MO_isDirect_13 : decode cd_MO_isDirect 13 = .ok (.iconst 1, 1) := by decide +kernel
theorem dd_MO_isDirect_14 : decode cd_MO_isDirect 14 = .ok (.goto 4, 3) := by decide +kernel
theorem dd_MO_isDirect_17 : decode cd_MO_isDirect 17 = .ok (.iconst 0, 1) := by decide +kernel
theorem dd_MO_isDirect_18 : decode cd_MO_isDirect 18 = .ok (.istore_n 2, 1) := by decide +kernel
theorem dd_MO_isDirect_19 : decode cd_MO_isDirect 19 = .ok (.iconst 0, 1) := by decide +kernel
theorem dd_MO_isDirect_20 : decode cd_MO_isDirect 20 = .ok (.istore_n 3, 1) := by decide +kernel
theorem dd_MO_isDirect_21 : decode cd_MO_isDirect 21 = .ok (.iload_n 2, 1) := by decide +kernel
theorem dd_MO_isDirect_22 : decode cd_MO_isDirect 22 = .ok (.ifCond .eq 43, 3) := by decide +kernel
theorem dd_MO_isDirect_25 : decode cd_MO_isDirect 25 = .ok (.iload_n 3, 1) := by decide +kernel
theorem dd_MO_isDirect_26 : decode cd_MO_isDirect 26 = .ok (.aload_n 0, 1) := by decide +kernel
theorem dd_MO_isDirect_27 : decode cd_MO_isDirect 27 = .ok (.getfield 123, 3) := by decide +kernel
theorem dd_MO_isDirect_30 : decode cd_MO_isDirect 30 = .ok (.if_icmp .ge 35, 3) := by decide +kernel
theorem dd_MO_isDirect_33 : decode cd_MO_isDirect 33 = .ok (.aload_n 0, 1) := by decide +kernel
theorem dd_MO_isDirect_34 : decode cd_MO_isDirect 34 = .ok (.getfield 32, 3) := by decide +kernel
theorem dd_MO_isDirect_37 : decode cd_MO_isDirect 37 = .ok (.bipush 48, 2) := by decide +kernel
theorem dd_MO_isDirect_39 : decode cd_MO_isDirect 39 = .ok (.iload_n 1, 1) := by decide +kernel
theorem dd_MO_isDirect_40 : decode cd_MO_isDirect 40 = .ok (.imul, 1) := by decide +kernel
theorem dd_MO_isDirect_41 : decode cd_MO_isDirect 41 = .ok (.iload_n 3, 1) := by decide +kernel
theorem dd_MO_isDirect_42 : decode cd_MO_isDirect 42 = .ok (.iadd, 1) := by decide +kernel
theorem dd_MO_isDirect_43 : decode cd_MO_isDirect 43 = .ok (.iaload, 1) := by decide +kernel
theorem dd_MO_isDirect_44 : decode cd_MO_isDirect 44 = .ok (.aload_n 0, 1) := by decide +kernel
theorem dd_MO_isDirect_45 : decode cd_MO_isDirect 45 = .ok (.getfield 35, 3) := by decide +kernel
theorem dd_MO_isDirect_48 : decode cd_MO_isDirect 48 = .ok (.iload_n 3, 1) := by decide +kernel
theorem dd_MO_isDirect_49 : decode cd_MO_isDirect 49 = .ok (.iaload, 1) := by decide +kernel
theorem dd_MO_isDirect_50 : decode cd_MO_isDirect 50 = .ok (.if_icmp .ne 7, 3) := by decide +kernel
theorem dd_MO_isDirect_53 : decode cd_MO_isDirect 53 = .ok (.iconst 1, 1) := by decide +kernel
theorem dd_MO_isDirect_54 : decode cd_MO_isDirect 54 = .ok (.goto 4, 3) := by decide +kernel
theorem dd_MO_isDirect_57 : decode cd_MO_isDirect 57 = .ok (.iconst 0, 1) := by decide +kernel
theorem dd_MO_isDirect_58 : decode cd_MO_isDirect 58 = .ok (.istore_n 2, 1) := by decide +kernel
theorem dd_MO_isDirect_59 : decode cd_MO_isDirect 59 = .ok (.iinc 3 1, 3) := by decide +kernel
theorem dd_MO_isDirect_62 : decode cd_MO_isDirect 62 = .ok (.goto (-41), 3) := by decide +kernel
theorem dd_MO_isDirect_65 : decode cd_MO_isDirect 65 = .ok (.iload_n 2, 1) := by decide +kernel
theorem dd_MO_isDirect_66 : decode cd_MO_isDirect 66 = .ok (.ireturn, 1) := by decide +kernel
theorem dd_MO_isTopic_0 : decode cd_MO_isTopic 0 = .ok (.iconst 1, 1) := by decide +kernel
theorem dd_MO_isTopic_1 : decode cd_MO_isTopic 1 = .ok (.istore_n 2, 1) := by decide +kernel
theorem dd_MO_isTopic_2 : decode cd_MO_isTopic 2 = .ok (.aload_n 0, 1) := by decide +kernel
theorem dd_MO_isTopic_3 : decode cd_MO_isTopic 3 = .ok (.getfield 54, 3) := by decide +kernel
theorem dd_MO_isTopic_6 : decode cd_MO_isTopic 6 = .ok (.iconst 0, 1) := by decide +kernel
theorem dd_MO_isTopic_7 : decode cd_MO_isTopic 7 = .ok (.iconst 0, 1) := by decide +kernel
theorem dd_MO_isTopic_8 : decode cd_MO_isTopic 8 = .ok (.iastore, 1) := by decide +kernel
theorem dd_MO_isTopic_9 : decode cd_MO_isTopic 9 = .ok (.iconst 0, 1) := by decide +kernel
theorem dd_MO_isTopic_10 : decode cd_MO_isTopic 10 = .ok (.istore_n 3, 1) := by decide +kernel
theorem dd_MO_isTopic_11 : decode cd_MO_isTopic 11 = .ok (.iload_n 3, 1) := by decide +kernel
theorem dd_MO_isTopic_12 : decode cd_MO_isTopic 12 = .ok (.aload_n 0, 1) := by decide +kernel
theorem dd_MO_isTopic_13 : decode cd_MO_isTopic 13 = .ok (.getfield 29, 3) := by decide +kernel
theorem dd_MO_isTopic_16 : decode cd_MO_isTopic 16 = .ok (.iload_n 1, 1) := by decide +kernel
theorem dd_MO_isTopic_17 : decode cd_MO_isTopic 17 = .ok (.iaload, 1) := by decide +kernel
theorem dd_MO_isTopic_18 : decode cd_MO_isTopic 18 = .ok (.if_icmp .ge 40, 3) := by decide +kernel
theorem dd_MO_isTopic_21 : decode cd_MO_isTopic 21 = .ok (.aload_n 0, 1) := by decide +kernel
theorem dd_MO_isTopic_22 : decode cd_MO_isTopic 22 = .ok (.getfield 32, 3) := by decide +kernel
theorem dd_MO_isTopic_25 : decode cd_MO_isTopic 25 = .ok (.bipush 48, 2) := by decide +kernel
theorem dd_MO_isTopic_27 : decode cd_MO_isTopic 27 = .ok (.iload_n 1, 1) := by decide +kernel
theorem dd_MO_isTopic_28 : decode cd_MO_isTopic 28 = .ok (.imul, 1) := by decide +kernel
theorem dd_MO_isTopic_29 : decode cd_MO_isTopic 29 = .ok (.iload_n 3, 1) := by decide +kernel
theorem dd_MO_isTopic_30 : decode cd_MO_isTopic 30 = .ok (.iadd, 1) := by decide +kernel
theorem dd_MO_isTopic_31 : decode cd_MO_isTopic 31 = .ok (.iaload, 1) := by decide +kernel
theorem dd_MO_isTopic_32 : decode cd_MO_isTopic 32 = .ok (.bipush 46, 2) := by decide +kernel
theorem dd_MO_isTopic_34 : decode cd_MO_isTopic 34 = .ok (.if_icmp .eq 6, 3) := by decide +kernel
theorem dd_MO_isTopic_37 : decode cd_MO_isTopic 37 = .ok (.goto 15, 3) := by decide +kernel
theorem dd_MO_isTopic_40 : decode cd_MO_isTopic 40 = .ok (.aload_n 0, 1) := by decide +kernel
theorem dd_MO_isTopic_41 : decode cd_MO_isTopic 41 = .ok (.getfield 54, 3) := by decide +kernel
theorem dd_MO_isTopic_44 : decode cd_MO_isTopic 44 = .ok (.iload_n 2, 1) := by decide +kernel
theorem dd_MO_isTopic_45 : decode cd_MO_isTopic 45 = .ok (.iload_n 3, 1) := by decide +kernel
theorem dd_MO_isTopic_46 : decode cd_MO_isTopic 46 = .ok (.iconst 1, 1) := by decide +kernel
theorem dd_MO_isTopic_47 : decode cd_MO_isTopic 47 = .ok (.iadd, 1) := by decide +kernel
theorem dd_MO_isTopic_48 : decode cd_MO_isTopic 48 = .ok (.iastore, 1) := by decide +kernel
theorem dd_MO_isTopic_49 : decode cd_MO_isTopic 49 = .ok (.iinc 2 1, 3) := by decide +kernel
theorem dd_MO_isTopic_52 : decode cd_MO_isTopic 52 = .ok (.iinc 3 1, 3) := by decide +kernel
theorem dd_MO_isTopic_55 : decode cd_MO_isTopic 55 = .ok (.goto (-44), 3) := by decide +kernel
theorem dd_MO_isTopic_58 : decode cd_MO_isTopic 58 = .ok (.aload_n 0, 1) := by decide +kernel
theorem dd_MO_isTopic_59 : decode cd_MO_isTopic 59 = .ok (.getfield 54, 3) := by decide +kernel
theorem dd_MO_isTopic_62 : decode cd_MO_isTopic 62 = .ok (.iload_n 2, 1) := by decide +kernel
theorem dd_MO_isTopic_63 : decode cd_MO_isTopic 63 = .ok (.aload_n 0, 1) := by decide +kernel
theorem dd_MO_isTopic_64 : decode cd_MO_isTopic 64 = .ok (.getfield 29, 3) := by decide +kernel
theorem dd_MO_isTopic_67 : decode cd_MO_isTopic 67 = .ok (.iload_n 1, 1) := by decide +kernel
theorem dd_MO_isTopic_68 : decode cd_MO_isTopic 68 = .ok (.iaload, 1) := by decide +kernel
theorem dd_MO_isTopic_69 : decode cd_MO_isTopic 69 = .ok (.iconst 1, 1) := by decide +kernel
theorem dd_MO_isTopic_70 : decode cd_MO_isTopic 70 = .ok (.iadd, 1) := by decide +kernel
theorem dd_MO_isTopic_71 : decode cd_MO_isTopic 71 = .ok (.iastore, 1) := by decide +kernel
theorem dd_MO_isTopic_72 : decode cd_MO_isTopic 72 = .ok (.iconst 1, 1) := by decide +kernel
theorem dd_MO_isTopic_73 : decode cd_MO_isTopic 73 = .ok (.istore_n 3, 1) := by decide +kernel
theorem dd_MO_isTopic_74 : decode cd_MO_isTopic 74 = .ok (.aload_n 0, 1) := by decide +kernel
theorem dd_MO_isTopic_75 : decode cd_MO_isTopic 75 = .ok (.getfield 57, 3) := by decide +kernel
theorem dd_MO_isTopic_78 : decode cd_MO_isTopic 78 = .ok (.iconst 0, 1) := by decide +kernel
theorem dd_MO_isTopic_79 : decode cd_MO_isTopic 79 = .ok (.iconst 0, 1) := by decide +kernel
theorem dd_MO_isTopic_80 : decode cd_MO_isTopic 80 = .ok (.iastore, 1) := by decide +kernel
theorem dd_MO_isTopic_81 : decode cd_MO_isTopic 81 = .ok (.iconst 0, 1) := by decide +kernel
theorem dd_MO_isTopic_82 : decode cd_MO_isTopic 82 = .ok (.istore 4, 2) := by decide +kernel
theorem dd_MO_isTopic_84 : decode cd_MO_isTopic 84 = .ok (.iload 4, 2) := by decide +kernel
theorem dd_MO_isTopic_86 : decode cd_MO_isTopic 86 = .ok (.aload_n 0, 1) := by decide +kernel
theorem dd_MO_isTopic_87 : decode cd_MO_isTopic 87 = .ok (.getfield 123, 3) := by decide +kernel
theorem dd_MO_isTopic_90 : decode cd_MO_isTopic 90 = .ok (.if_icmp .ge 37, 3) := by decide +kernel
theorem dd_MO_isTopic_93 : decode cd_MO_isTopic 93 = .ok (.aload_n 0, 1) := by decide +kernel
theorem dd_MO_isTopic_94 : decode cd_MO_isTopic 94 = .ok (.getfield 35, 3) := by decide +kernel
theorem dd_MO_isTopic_97 : decode cd_MO_isTopic 97 = .ok (.iload 4, 2) := by decide +kernel
theorem dd_MO_isTopic_99 : decode cd_MO_isTopic 99 = .ok (.iaload, 1) := by decide +kernel
theorem dd_MO_isTopic_100 : decode cd_MO_isTopic 100 = .ok (.bipush 46, 2) := by decide +kernel
theorem dd_MO_isTopic_102 : decode cd_MO_isTopic 102 = .ok (.if_icmp .eq 6, 3) := by decide +kernel
theorem dd_MO_isTopic_105 : decode cd_MO_isTopic 105 = .ok (.goto 16, 3) := by decide +kernel
theorem dd_MO_isTopic_108 : decode cd_MO_isTopic 108 = .ok (.aload_n 0, 1) := by decide +kernel
theorem dd_MO_isTopic_109 : decode cd_MO_isTopic 109 = .ok (.getfield 57, 3) := by decide +kernel
theorem dd_MO_isTopic_112 : decode cd_MO_isTopic 112 = .ok (.iload_n 3, 1) := by decide +kernel
theorem dd_MO_isTopic_113 : decode cd_MO_isTopic 113 = .ok (.iload 4, 2) := by decide +kernel
theorem dd_MO_isTopic_115 : decode cd_MO_isTopic 115 = .ok (.iconst 1, 1) := by decide +kernel
theorem dd_MO_isTopic_116 : decode cd_MO_isTopic 116 = .ok (.iadd, 1) := by decide +kernel
theorem dd_MO_isTopic_117 : decode cd_MO_isTopic 117 = .ok (.iastore, 1) := by decide +kernel
theorem dd_MO_isTopic_118 : decode cd_MO_isTopic 118 = .ok (.iinc 3 1, 3) := by decide +kernel
theorem dd_MO_isTopic_121 : decode cd_MO_isTopic 121 = .ok (.iinc 4 1, 3) := by decide +kernel
theorem dd_MO_isTopic_124 : decode cd_MO_isTopic 124 = .ok (.goto (-40), 3) := by decide +kernel
theorem dd_MO_isTopic_127 : decode cd_MO_isTopic 127 = .ok (.aload_n 0, 1) := by decide +kernel
theorem dd_MO_isTopic_128 : decode cd_MO_isTopic 128 = .ok (.getfield 57, 3) := by decide +kernel
theorem dd_MO_isTopic_131 : decode cd_MO_isTopic 131 = .ok (.iload_n 3, 1) := by decide +kernel
theorem dd_MO_isTopic_132 : decode cd_MO_isTopic 132 = .ok (.aload_n 0, 1) := by decide +kernel
theorem dd_MO_isTopic_133 : decode cd_MO_isTopic 133 = .ok (.getfield 123, 3) := by decide +kernel
theorem dd_MO_isTopic_136 : decode cd_MO_isTopic 136 = .ok (.iconst 1, 1) := by decide +kernel
theorem dd_MO_isTopic_137 : decode cd_MO_isTopic 137 = .ok (.iadd, 1) := by decide +kernel
theorem dd_MO_isTopic_138 : decode cd_MO_isTopic 138 = .ok (.iastore, 1) := by decide +kernel
theorem dd_MO_isTopic_139 : decode cd_MO_isTopic 139 = .ok (.iload_n 2, 1) := by decide +kernel
theorem dd_MO_isTopic_140 : decode cd_MO_isTopic 140 = .ok (.istore 4, 2) := by decide +kernel
theorem dd_MO_isTopic_142 : decode cd_MO_isTopic 142 = .ok (.iload 4, 2) := by decide +kernel
theorem dd_MO_isTopic_144 : decode cd_MO_isTopic 144 = .ok (.ifCond .lt 230, 3) := by decide +kernel
theorem dd_MO_isTopic_147 : decode cd_MO_isTopic 147 = .ok (.iload_n 3, 1) := by decide +kernel
theorem dd_MO_isTopic_148 : decode cd_MO_isTopic 148 = .ok (.istore 5, 2) := by decide +kernel
theorem dd_MO_isTopic_150 : decode cd_MO_isTopic 150 = .ok (.iload 5, 2) := by decide +kernel
theorem dd_MO_isTopic_152 : decode cd_MO_isTopic 152 = .ok (.ifCond .lt 216, 3) := by decide +kernel
theorem dd_MO_isTopic_155 : decode cd_MO_isTopic 155 = .ok (.iload 4, 2) := by decide +kernel
theorem dd_MO_isTopic_157 : decode cd_MO_isTopic 157 = .ok (.iload_n 2, 1) := by decide +kernel
theorem dd_MO_isTopic_158 : decode cd_MO_isTopic 158 = .ok (.if_icmp .ne 13, 3) := by decide +kernel
theorem dd_MO_isTopic_161 : decode cd_MO_isTopic 161 = .ok (.iload 5, 2) := by decide +kernel
theorem dd_MO_isTopic_163 : decode cd_MO_isTopic 163 = .ok (.iload_n 3, 1) := by decide +kernel
theorem dd_MO_isTopic_164 : decode cd_MO_isTopic 164 = .ok (.if_icmp .ne 7, 3) := by decide +kernel
theorem dd_MO_isTopic_167 : decode cd_MO_isTopic 167 = .ok (.iconst 1, 1) := by decide +kernel
theorem dd_MO_isTopic_168 : decode cd_MO_isTopic 168 = .ok (.goto 4, 3) := by decide +kernel
theorem dd_MO_isTopic_171 : decode cd_MO_isTopic 171 = .ok (.iconst 0, 1) := by decide +kernel
theorem dd_MO_isTopic_172 : decode cd_MO_isTopic 172 = .ok (.istore 6, 2) := by decide +kernel
theorem dd_MO_isTopic_174 : decode cd_MO_isTopic 174 = .ok (.iload 4, 2) := by decide +kernel
theorem dd_MO_isTopic_176 : decode cd_MO_isTopic 176 = .ok (.iload_n 2, 1) := by decide +kernel
theorem dd_MO_isTopic_177 : decode cd_MO_isTopic 177 = .ok (.if_icmp .ge 170, 3) := by decide +kernel
theorem dd_MO_isTopic_180 : decode cd_MO_isTopic 180 = .ok (.aload_n 0, 1) := by decide +kernel
theorem dd_MO_isTopic_181 : decode cd_MO_isTopic 181 = .ok (.getfield 54, 3) := by decide +kernel
theorem dd_MO_isTopic_184 : decode cd_MO_isTopic 184 = .ok (.iload 4, 2) := by decide +kernel
theorem dd_MO_isTopic_186 : decode cd_MO_isTopic 186 = .ok (.iconst 1, 1) := by decide +kernel
theorem dd_MO_isTopic_187 : decode cd_MO_isTopic 187 = .ok (.iadd, 1) := by decide +kernel
theorem dd_MO_isTopic_188 : decode cd_MO_isTopic 188 = .ok (.iaload, 1) := by decide +kernel
theorem dd_MO_isTopic_189 : decode cd_MO_isTopic 189 = .ok (.aload_n 0, 1) := by decide +kernel
theorem dd_MO_isTopic_190 : decode cd_MO_isTopic 190 = .ok (.getfield 54, 3) := by decide +kernel
theorem dd_MO_isTopic_193 : decode cd_MO_isTopic 193 = .ok (.iload 4, 2) := by decide +kernel
theorem dd_MO_isTopic_195 : decode cd_MO_isTopic 195 = .ok (.iaload, 1) := by decide +kernel
theorem dd_MO_isTopic_196 : decode cd_MO_isTopic 196 = .ok (.isub, 1) := by decide +kernel
theorem dd_MO_isTopic_197 : decode cd_MO_isTopic 197 = .ok (.iconst 2, 1) := by decide +kernel
theorem dd_MO_isTopic_198 : decode cd_MO_isTopic 198 = .ok (.if_icmp .ne 23, 3) := by decide +kernel
theorem dd_MO_isTopic_201 : decode cd_MO_isTopic 201 = .ok (.aload_n 0, 1) := by decide +kernel
theorem dd_MO_isTopic_202 : decode cd_MO_isTopic 202 = .ok (.getfield 32, 3) := by decide +kernel
theorem dd_MO_isTopic_205 : decode cd_MO_isTopic 205 = .ok (.bipush 48, 2) := by decide +kernel
theorem dd_MO_isTopic_207 : decode cd_MO_isTopic 207 = .ok (.iload_n 1, 1) := by decide +kernel
theorem dd_MO_isTopic_208 : decode cd_MO_isTopic 208 = .ok (.imul, 1) := by decide +kernel
theorem dd_MO_isTopic_209 : decode cd_MO_isTopic 209 = .ok (.aload_n 0, 1) := by decide +kernel
theorem dd_MO_isTopic_210 : decode cd_MO_isTopic 210 = .ok (.getfield 54, 3) := by decide +kernel
theorem dd_MO_isTopic_213 : decode cd_MO_isTopic 213 = .ok (.iload 4, 2) := by decide +kernel
theorem dd_MO_isTopic_215 : decode cd_MO_isTopic 215 = .ok (.iaload, 1) := by decide +kernel
theorem dd_MO_isTopic_216 : decode cd_MO_isTopic 216 = .ok (.iadd, 1) := by decide +kernel
theorem dd_MO_isTopic_217 : decode cd_MO_isTopic 217 = .ok (.iaload, 1) := by decide +kernel
theorem dd_MO_isTopic_218 : decode cd_MO_isTopic 218 = .ok (.goto 4, 3) := by decide +kernel
theorem dd_MO_isTopic_221 : decode cd_MO_isTopic 221 = .ok (.iconst 0, 1) := by decide +kernel
theorem dd_MO_isTopic_222 : decode cd_MO_isTopic 222 = .ok (.istore 7, 2) := by decide +kernel
theorem dd_MO_isTopic_224 : decode cd_MO_isTopic 224 = .ok (.iload 5, 2) := by decide +kernel
theorem dd_MO_isTopic_226 : decode cd_MO_isTopic 226 = .ok (.iload_n 3, 1) := by decide +kernel
theorem dd_MO_isTopic_227 : decode cd_MO_isTopic 227 = .ok (.if_icmp .ge 27, 3) := by decide +kernel
theorem dd_MO_isTopic_230 : decode cd_MO_isTopic 230 = .ok (.aload_n 0, 1) := by decide +kernel
theorem dd_MO_isTopic_231 : decode cd_MO_isTopic 231 = .ok (.getfield 51, 3) := by decide +kernel
theorem dd_MO_isTopic_234 : decode cd_MO_isTopic 234 = .ok (.bipush 51, 2) := by decide +kernel
theorem dd_MO_isTopic_236 : decode cd_MO_isTopic 236 = .ok (.iload 4, 2) := by decide +kernel
theorem dd_MO_isTopic_238 : decode cd_MO_isTopic 238 = .ok (.iconst 1, 1) := by decide +kernel
theorem dd_MO_isTopic_239 : decode cd_MO_isTopic 239 = .ok (.iadd, 1) := by decide +kernel
theorem dd_MO_isTopic_240 : decode cd_MO_isTopic 240 = .ok (.imul, 1) := by decide +kernel
theorem dd_MO_isTopic_241 : decode cd_MO_isTopic 241 = .ok (.iload 5, 2) := by decide +kernel
theorem dd_MO_isTopic_243 : decode cd_MO_isTopic 243 = .ok (.iadd, 1) := by decide +kernel
theorem dd_MO_isTopic_244 : decode cd_MO_isTopic 244 = .ok (.iconst 1, 1) := by decide +kernel
theorem dd_MO_isTopic_245 : decode cd_MO_isTopic 245 = .ok (.iadd, 1) := by decide +kernel
theorem dd_MO_isTopic_246 : decode cd_MO_isTopic 246 = .ok (.baload, 1) := by decide +kernel
theorem dd_MO_isTopic_247 : decode cd_MO_isTopic 247 = .ok (.ifCond .eq 7, 3) := by decide +kernel
theorem dd_MO_isTopic_250 : decode cd_MO_isTopic 250 = .ok (.iconst 1, 1) := by decide +kernel
theorem dd_MO_isTopic_251 : decode cd_MO_isTopic 251 = .ok (.goto 4, 3) := by decide +kernel
theorem dd_MO_isTopic_254 : decode cd_MO_isTopic 254 = .ok (.iconst 0, 1) := by decide +kernel
theorem dd_MO_isTopic_255 : decode cd_MO_isTopic 255 = .ok (.istore 8, 2) := by decide +kernel
theorem dd_MO_isTopic_257 : decode cd_MO_isTopic 257 = .ok (.iload 7, 2) := by decide +kernel
theorem dd_MO_isTopic_259 : decode cd_MO_isTopic 259 = .ok (.bipush 35, 2) := by decide +kernel
theorem dd_MO_isTopic_261 : decode cd_MO_isTopic 261 = .ok (.if_icmp .ne 55, 3) := by decide +kernel
theorem dd_MO_isTopic_264 : decode cd_MO_isTopic 264 = .ok (.aload_n 0, 1) := by decide +kernel
theorem dd_MO_isTopic_265 : decode cd_MO_isTopic 265 = .ok (.getfield 51, 3) := by decide +kernel
theorem dd_MO_isTopic_268 : decode cd_MO_isTopic 268 = .ok (.bipush 51, 2) := by decide +kernel
theorem dd_MO_isTopic_270 : decode cd_MO_isTopic 270 = .ok (.iload 4, 2) := by decide +kernel
theorem dd_MO_isTopic_272 : decode cd_MO_isTopic 272 = .ok (.iconst 1, 1) := by decide +kernel
theorem dd_MO_isTopic_273 : decode cd_MO_isTopic 273 = .ok (.iadd, 1) := by decide +kernel
theorem dd_MO_isTopic_274 : decode cd_MO_isTopic 274 = .ok (.imul, 1) := by decide +kernel
theorem dd_MO_isTopic_275 : decode cd_MO_isTopic 275 = .ok (.iload 5, 2) := by decide +kernel
theorem dd_MO_isTopic_277 : decode cd_MO_isTopic 277 = .ok (.iadd, 1) := by decide +kernel
theorem dd_MO_isTopic_278 : decode cd_MO_isTopic 278 = .ok (.baload, 1) := by decide +kernel
theorem dd_MO_isTopic_279 : decode cd_MO_isTopic 279 = .ok (.ifCond .ne 27, 3) := by decide +kernel
theorem dd_MO_isTopic_282 : decode cd_MO_isTopic 282 = .ok (.iload 5, 2) := by decide +kernel
theorem dd_MO_isTopic_284 : decode cd_MO_isTopic 284 = .ok (.iload_n 3, 1) := by decide +kernel
theorem dd_MO_isTopic_285 : decode cd_MO_isTopic 285 = .ok (.if_icmp .ge 25, 3) := by decide +kernel
theorem dd_MO_isTopic_288 : decode cd_MO_isTopic 288 = .ok (.aload_n 0, 1) := by decide +kernel
theorem dd_MO_isTopic_289 : decode cd_MO_isTopic 289 = .ok (.getfield 51, 3) := by decide +kernel
theorem dd_MO_isTopic_292 : decode cd_MO_isTopic 292 = .ok (.bipush 51, 2) := by decide +kernel
theorem dd_MO_isTopic_294 : decode cd_MO_isTopic 294 = .ok (.iload 4, 2) := by decide +kernel
theorem dd_MO_isTopic_296 : decode cd_MO_isTopic 296 = .ok (.imul, 1) := by decide +kernel
theorem dd_MO_isTopic_297 : decode cd_MO_isTopic 297 = .ok (.iload 5, 2) := by decide +kernel
theorem dd_MO_isTopic_299 : decode cd_MO_isTopic 299 = .ok (.iadd, 1) := by decide +kernel
theorem dd_MO_isTopic_300 : decode cd_MO_isTopic 300 = .ok (.iconst 1, 1) := by decide +kernel
theorem dd_MO_isTopic_301 : decode cd_MO_isTopic 301 = .ok (.iadd, 1) := by decide +kernel
theorem dd_MO_isTopic_302 : decode cd_MO_isTopic 302 = .ok (.baload, 1) := by decide +kernel
theorem dd_MO_isTopic_303 : decode cd_MO_isTopic 303 = .ok (.ifCond .eq 7, 3) := by decide +kernel
theorem dd_MO_isTopic_306 : decode cd_MO_isTopic 306 = .ok (.iconst 1, 1) := by decide +kernel
theorem dd_MO_isTopic_307 : decode cd_MO_isTopic 307 = .ok (.goto 4, 3) := by decide +kernel
theorem dd_MO_isTopic_310 : decode cd_MO_isTopic 310 = .ok (.iconst 0, 1) := by decide +kernel
theorem dd_MO_isTopic_311 : decode cd_MO_isTopic 311 = .ok (.istore 6, 2) := by decide +kernel
theorem dd_MO_isTopic_313 : decode cd_MO_isTopic 313 = .ok (.goto 34, 3) := by decide +kernel
theorem dd_MO_isTopic_316 : decode cd_MO_isTopic 316 = .ok (.iload 8, 2) := by decide +kernel
theorem dd_MO_isTopic_318 : decode cd_MO_isTopic 318 = .ok (.ifCond .eq 26, 3) := by decide +kernel
theorem dd_MO_isTopic_321 : decode cd_MO_isTopic 321 = .ok (.iload 7, 2) := by decide +kernel
theorem dd_MO_isTopic_323 : decode cd_MO_isTopic 323 = .ok (.bipush 42, 2) := by decide +kernel
theorem dd_MO_isTopic_325 : decode cd_MO_isTopic 325 = .ok (.if_icmp .eq 15, 3) := by decide +kernel
theorem dd_MO_isTopic_328 : decode cd_MO_isTopic 328 = .ok (.aload_n 0, 1) := by decide +kernel
theorem dd_MO_isTopic_329 : decode cd_MO_isTopic 329 = .ok (.iload_n 1, 1) := by decide +kernel
theorem dd_MO_isTopic_330 : decode cd_MO_isTopic 330 = .ok (.iload 4, 2) := by decide +kernel
theorem dd_MO_isTopic_332 : decode cd_MO_isTopic 332 = .ok (.iload 5, 2) := by decide +kernel
theorem dd_MO_isTopic_334 : decode cd_MO_isTopic 334 = .ok (.invokevirtual 133, 3) := by decide +kernel
theorem dd_MO_isTopic_337 : decode cd_MO_isTopic 337 = .ok (.ifCond .eq 7, 3) := by decide +kernel
theorem dd_MO_isTopic_340 : decode cd_MO_isTopic 340 = .ok (.iconst 1, 1) := by decide +kernel
theorem dd_MO_isTopic_341 : decode cd_MO_isTopic 341 = .ok (.goto 4, 3) := by decide +kernel
theorem dd_MO_isTopic_344 : decode cd_MO_isTopic 344 = .ok (.iconst 0, 1) := by decide +kernel
theorem dd_MO_isTopic_345 : decode cd_MO_isTopic 345 = .ok (.istore 6, 2) := by decide +kernel
theorem dd_MO_isTopic_347 : decode cd_MO_isTopic 347 = .ok (.aload_n 0, 1) := by decide +kernel
theorem dd_MO_isTopic_348 : decode cd_MO_isTopic 348 = .ok (.getfield 51, 3) := by decide +kernel
theorem dd_MO_isTopic_351 : decode cd_MO_isTopic 351 = .ok (.bipush 51, 2) := by decide +kernel
theorem dd_MO_isTopic_353 : decode cd_MO_isTopic 353 = .ok (.iload 4, 2) := by decide +kernel
theorem dd_MO_isTopic_355 : decode cd_MO_isTopic 355 = .ok (.imul, 1) := by decide +kernel
theorem dd_MO_isTopic_356 : decode cd_MO_isTopic 356 = .ok (.iload 5, 2) := by decide +kernel
theorem dd_MO_isTopic_358 : decode cd_MO_isTopic 358 = .ok (.iadd, 1) := by decide +kernel
theorem dd_MO_isTopic_359 : decode cd_MO_isTopic 359 = .ok (.iload 6, 2) := by decide +kernel
theorem dd_MO_isTopic_361 : decode cd_MO_isTopic 361 = .ok (.bastore, 1) := by decide +kernel
theorem dd_MO_isTopic_362 : decode cd_MO_isTopic 362 = .ok (.iinc 5 (-1), 3) := by decide +kernel
theorem dd_MO_isTopic_365 : decode cd_MO_isTopic 365 = .ok (.goto (-215), 3) := by decide +kernel
theorem dd_MO_isTopic_368 : decode cd_MO_isTopic 368 = .ok (.iinc 4 (-1), 3) := by decide +kernel
theorem dd_MO_isTopic_371 : decode cd_MO_isTopic 371 = .ok (.goto (-229), 3) := by decide +kernel
theorem dd_MO_isTopic_374 : decode cd_MO_isTopic 374 = .ok (.aload_n 0, 1) := by decide +kernel
theorem dd_MO_isTopic_375 : decode cd_MO_isTopic 375 = .ok (.getfield 51, 3) := by decide +kernel
theorem dd_MO_isTopic_378 : decode cd_MO_isTopic 378 = .ok (.iconst 0, 1) := by decide +kernel
theorem dd_MO_isTopic_379 : decode cd_MO_isTopic 379 = .ok (.baload, 1) := by decide +kernel
theorem dd_MO_isTopic_380 : decode cd_MO_isTopic 380 = .ok (.ireturn, 1) := by decide +kernel
