/-! printed (gen/names.py): what the codes decode to -/
theorem dd_MO_isWord_0 : decode cd_MO_isWord 0 = .ok (.aload_n 0, 1) := by decide +kernel
theorem dd_MO_isWord_1 : decode cd_MO_isWord 1 = .ok (.getfield 54, 3) := by decide +kernel
theorem dd_MO_isWord_4 : decode cd_MO_isWord 4 = .ok (.iload_n 2, 1) := by decide +kernel
theorem dd_MO_isWord_5 : decode cd_MO_isWord 5 = .ok (.iconst 1, 1) := by decide +kernel
theorem dd_MO_isWord_6 : decode cd_MO_isWord 6 = .ok (.iadd, 1) := by decide +kernel
theorem dd_MO_isWord_7 : decode cd_MO_isWord 7 = .ok (.iaload, 1) := by decide +kernel
theorem dd_MO_isWord_8 : decode cd_MO_isWord 8 = .ok (.aload_n 0, 1) := by decide +kernel
theorem dd_MO_isWord_9 : decode cd_MO_isWord 9 = .ok (.getfield 54, 3) := by decide +kernel
theorem dd_MO_isWord_12 : decode cd_MO_isWord 12 = .ok (.iload_n 2, 1) := by decide +kernel
theorem dd_MO_isWord_13 : decode cd_MO_isWord 13 = .ok (.iaload, 1) := by decide +kernel
theorem dd_MO_isWord_14 : decode cd_MO_isWord 14 = .ok (.isub, 1) := by decide +kernel
theorem dd_MO_isWord_15 : decode cd_MO_isWord 15 = .ok (.iconst 1, 1) := by decide +kernel
theorem dd_MO_isWord_16 : decode cd_MO_isWord 16 = .ok (.isub, 1) := by decide +kernel
theorem dd_MO_isWord_17 : decode cd_MO_isWord 17 = .ok (.istore 4, 2) := by decide +kernel
theorem dd_MO_isWord_19 : decode cd_MO_isWord 19 = .ok (.aload_n 0, 1) := by decide +kernel
theorem dd_MO_isWord_20 : decode cd_MO_isWord 20 = .ok (.getfield 57, 3) := by decide +kernel
theorem dd_MO_isWord_23 : decode cd_MO_isWord 23 = .ok (.iload_n 3, 1) := by decide +kernel
theorem dd_MO_isWord_24 : decode cd_MO_isWord 24 = .ok (.iconst 1, 1) := by decide +kernel
theorem dd_MO_isWord_25 : decode cd_MO_isWord 25 = .ok (.iadd, 1) := by decide +kernel
theorem dd_MO_isWord_26 : decode cd_MO_isWord 26 = .ok (.iaload, 1) := by decide +kernel
theorem dd_MO_isWord_27 : decode cd_MO_isWord 27 = .ok (.aload_n 0, 1) := by decide +kernel
theorem dd_MO_isWord_28 : decode cd_MO_isWord 28 = .ok (.getfield 57, 3) := by decide +kernel
theorem dd_MO_isWord_31 : decode cd_MO_isWord 31 = .ok (.iload_n 3, 1) := by decide +kernel
theorem dd_MO_isWord_32 : decode cd_MO_isWord 32 = .ok (.iaload, 1) := by decide +kernel
theorem dd_MO_isWord_33 : decode cd_MO_isWord 33 = .ok (.isub, 1) := by decide +kernel
theorem dd_MO_isWord_34 : decode cd_MO_isWord 34 = .ok (.iconst 1, 1) := by decide +kernel
theorem dd_MO_isWord_35 : decode cd_MO_isWord 35 = .ok (.isub, 1) := by decide +kernel
theorem dd_MO_isWord_36 : decode cd_MO_isWord 36 = .ok (.iload 4, 2) := by decide +kernel
theorem dd_MO_isWord_38 : decode cd_MO_isWord 38 = .ok (.if_icmp .ne 7, 3) := by decide +kernel
theorem dd_MO_isWord_41 : decode cd_MO_isWord 41 = .ok (.iconst 1, 1) := by decide +kernel
theorem dd_MO_isWord_42 : decode cd_MO_isWord 42 = .ok (.goto 4, 3) := by decide +kernel
theorem dd_MO_isWord_45 : decode cd_MO_isWord 45 = .ok (.iconst 0, 1) := by decide +kernel
theorem dd_MO_isWord_46 : decode cd_MO_isWord 46 = .ok (.istore 5, 2) := by decide +kernel
theorem dd_MO_isWord_48 : decode cd_MO_isWord 48 = .ok (.iconst 0, 1) := by decide +kernel
theorem dd_MO_isWord_49 : decode cd_MO_isWord 49 = .ok (.istore 6, 2) := by decide +kernel
theorem dd_MO_isWord_51 : decode cd_MO_isWord 51 = .ok (.iload 5, 2) := by decide +kernel
theorem dd_MO_isWord_53 : decode cd_MO_isWord 53 = .ok (.ifCond .eq 59, 3) := by decide +kernel
theorem dd_MO_isWord_56 : decode cd_MO_isWord 56 = .ok (.iload 6, 2) := by decide +kernel
theorem dd_MO_isWord_58 : decode cd_MO_isWord 58 = .ok (.iload 4, 2) := by decide +kernel
theorem dd_MO_isWord_60 : decode cd_MO_isWord 60 = .ok (.if_icmp .ge 52, 3) := by decide +kernel
theorem dd_MO_isWord_63 : decode cd_MO_isWord 63 = .ok (.aload_n 0, 1) := by decide +kernel
theorem dd_MO_isWord_64 : decode cd_MO_isWord 64 = .ok (.getfield 32, 3) := by decide +kernel
theorem dd_MO_isWord_67 : decode cd_MO_isWord 67 = .ok (.bipush 48, 2) := by decide +kernel
theorem dd_MO_isWord_69 : decode cd_MO_isWord 69 = .ok (.iload_n 1, 1) := by decide +kernel
theorem dd_MO_isWord_70 : decode cd_MO_isWord 70 = .ok (.imul, 1) := by decide +kernel
theorem dd_MO_isWord_71 : decode cd_MO_isWord 71 = .ok (.aload_n 0, 1) := by decide +kernel
theorem dd_MO_isWord_72 : decode cd_MO_isWord 72 = .ok (.getfield 54, 3) := by decide +kernel
theorem dd_MO_isWord_75 : decode cd_MO_isWord 75 = .ok (.iload_n 2, 1) := by decide +kernel
theorem dd_MO_isWord_76 : decode cd_MO_isWord 76 = .ok (.iaload, 1) := by decide +kernel
theorem dd_MO_isWord_77 : decode cd_MO_isWord 77 = .ok (.iadd, 1) := by decide +kernel
theorem dd_MO_isWord_78 : decode cd_MO_isWord 78 = .ok (.iload 6, 2) := by decide +kernel
theorem dd_MO_isWord_80 : decode cd_MO_isWord 80 = .ok (.iadd, 1) := by decide +kernel
theorem dd_MO_isWord_81 : decode cd_MO_isWord 81 = .ok (.iaload, 1) := by decide +kernel
theorem dd_MO_isWord_82 : decode cd_MO_isWord 82 = .ok (.aload_n 0, 1) := by decide +kernel
theorem dd_MO_isWord_83 : decode cd_MO_isWord 83 = .ok (.getfield 35, 3) := by decide +kernel
theorem dd_MO_isWord_86 : decode cd_MO_isWord 86 = .ok (.aload_n 0, 1) := by decide +kernel
theorem dd_MO_isWord_87 : decode cd_MO_isWord 87 = .ok (.getfield 57, 3) := by decide +kernel
theorem dd_MO_isWord_90 : decode cd_MO_isWord 90 = .ok (.iload_n 3, 1) := by decide +kernel
theorem dd_MO_isWord_91 : decode cd_MO_isWord 91 = .ok (.iaload, 1) := by decide +kernel
theorem dd_MO_isWord_92 : decode cd_MO_isWord 92 = .ok (.iload 6, 2) := by decide +kernel
theorem dd_MO_isWord_94 : decode cd_MO_isWord 94 = .ok (.iadd, 1) := by decide +kernel
theorem dd_MO_isWord_95 : decode cd_MO_isWord 95 = .ok (.iaload, 1) := by decide +kernel
theorem dd_MO_isWord_96 : decode cd_MO_isWord 96 = .ok (.if_icmp .ne 7, 3) := by decide +kernel
theorem dd_MO_isWord_99 : decode cd_MO_isWord 99 = .ok (.iconst 1, 1) := by decide +kernel
theorem dd_MO_isWord_100 : decode cd_MO_isWord 100 = .ok (.goto 4, 3) := by decide +kernel
theorem dd_MO_isWord_103 : decode cd_MO_isWord 103 = .ok (.iconst 0, 1) := by decide +kernel
theorem dd_MO_isWord_104 : decode cd_MO_isWord 104 = .ok (.istore 5, 2) := by decide +kernel
theorem dd_MO_isWord_106 : decode cd_MO_isWord 106 = .ok (.iinc 6 1, 3) := by decide +kernel
theorem dd_MO_isWord_109 : decode cd_MO_isWord 109 = .ok (.goto (-58), 3) := by decide +kernel
theorem dd_MO_isWord_112 : decode cd_MO_isWord 112 = .ok (.iload 5, 2) := by decide +kernel
theorem dd_MO_isWord_114 : decode cd_MO_isWord 114 = .ok (.ireturn, 1) := by decide +kernel
theorem dd_MO_isMet_0 : decode cd_MO_isMet 0 = .ok (.aload_n 0, 1) := by decide +kernel
theorem dd_MO_isMet_1 : decode cd_MO_isMet 1 = .ok (.getfield 32, 3) := by decide +kernel
theorem dd_MO_isMet_4 : decode cd_MO_isMet 4 = .ok (.bipush 48, 2) := by decide +kernel
theorem dd_MO_isMet_6 : decode cd_MO_isMet 6 = .ok (.iload_n 1, 1) := by decide +kernel
theorem dd_MO_isMet_7 : decode cd_MO_isMet 7 = .ok (.imul, 1) := by decide +kernel
theorem dd_MO_isMet_8 : decode cd_MO_isMet 8 = .ok (.iconst 1, 1) := by decide +kernel
theorem dd_MO_isMet_9 : decode cd_MO_isMet 9 = .ok (.iadd, 1) := by decide +kernel
theorem dd_MO_isMet_10 : decode cd_MO_isMet 10 = .ok (.iaload, 1) := by decide +kernel
theorem dd_MO_isMet_11 : decode cd_MO_isMet 11 = .ok (.bipush 108, 2) := by decide +kernel
theorem dd_MO_isMet_13 : decode cd_MO_isMet 13 = .ok (.if_icmp .ne 7, 3) := by decide +kernel
theorem dd_MO_isMet_16 : decode cd_MO_isMet 16 = .ok (.iconst 1, 1) := by decide +kernel
theorem dd_MO_isMet_17 : decode cd_MO_isMet 17 = .ok (.goto 4, 3) := by decide +kernel
theorem dd_MO_isMet_20 : decode cd_MO_isMet 20 = .ok (.iconst 0, 1) := by decide +kernel
theorem dd_MO_isMet_21 : decode cd_MO_isMet 21 = .ok (.istore_n 2, 1) := by decide +kernel
theorem dd_MO_isMet_22 : decode cd_MO_isMet 22 = .ok (.iconst 3, 1) := by decide +kernel
theorem dd_MO_isMet_23 : decode cd_MO_isMet 23 = .ok (.istore_n 3, 1) := by decide +kernel
theorem dd_MO_isMet_24 : decode cd_MO_isMet 24 = .ok (.iconst 0, 1) := by decide +kernel
theorem dd_MO_isMet_25 : decode cd_MO_isMet 25 = .ok (.istore 4, 2) := by decide +kernel
theorem dd_MO_isMet_27 : decode cd_MO_isMet 27 = .ok (.iconst 1, 1) := by decide +kernel
theorem dd_MO_isMet_28 : decode cd_MO_isMet 28 = .ok (.istore 5, 2) := by decide +kernel
theorem dd_MO_isMet_30 : decode cd_MO_isMet 30 = .ok (.iload_n 3, 1) := by decide +kernel
theorem dd_MO_isMet_31 : decode cd_MO_isMet 31 = .ok (.aload_n 0, 1) := by decide +kernel
theorem dd_MO_isMet_32 : decode cd_MO_isMet 32 = .ok (.getfield 29, 3) := by decide +kernel
theorem dd_MO_isMet_35 : decode cd_MO_isMet 35 = .ok (.iload_n 1, 1) := by decide +kernel
theorem dd_MO_isMet_36 : decode cd_MO_isMet 36 = .ok (.iaload, 1) := by decide +kernel
theorem dd_MO_isMet_37 : decode cd_MO_isMet 37 = .ok (.if_icmp .ge 230, 3) := by decide +kernel
theorem dd_MO_isMet_40 : decode cd_MO_isMet 40 = .ok (.iinc 3 1, 3) := by decide +kernel
theorem dd_MO_isMet_43 : decode cd_MO_isMet 43 = .ok (.lconst 0, 1) := by decide +kernel
theorem dd_MO_isMet_44 : decode cd_MO_isMet 44 = .ok (.lstore 6, 2) := by decide +kernel
theorem dd_MO_isMet_46 : decode cd_MO_isMet 46 = .ok (.iload_n 3, 1) := by decide +kernel
theorem dd_MO_isMet_47 : decode cd_MO_isMet 47 = .ok (.aload_n 0, 1) := by decide +kernel
theorem dd_MO_isMet_48 : decode cd_MO_isMet 48 = .ok (.getfield 29, 3) := by decide +kernel
theorem dd_MO_isMet_51 : decode cd_MO_isMet 51 = .ok (.iload_n 1, 1) := by decide +kernel
theorem dd_MO_isMet_52 : decode cd_MO_isMet 52 = .ok (.iaload, 1) := by decide +kernel
theorem dd_MO_isMet_53 : decode cd_MO_isMet 53 = .ok (.if_icmp .ge 46, 3) := by decide +kernel
theorem dd_MO_isMet_56 : decode cd_MO_isMet 56 = .ok (.aload_n 0, 1) := by decide +kernel
theorem dd_MO_isMet_57 : decode cd_MO_isMet 57 = .ok (.getfield 32, 3) := by decide +kernel
theorem dd_MO_isMet_60 : decode cd_MO_isMet 60 = .ok (.bipush 48, 2) := by decide +kernel
theorem dd_MO_isMet_62 : decode cd_MO_isMet 62 = .ok (.iload_n 1, 1) := by decide +kernel
theorem dd_MO_isMet_63 : decode cd_MO_isMet 63 = .ok (.imul, 1) := by decide +kernel
theorem dd_MO_isMet_64 : decode cd_MO_isMet 64 = .ok (.iload_n 3, 1) := by decide +kernel
theorem dd_MO_isMet_65 : decode cd_MO_isMet 65 = .ok (.iadd, 1) := by decide +kernel
theorem dd_MO_isMet_66 : decode cd_MO_isMet 66 = .ok (.iaload, 1) := by decide +kernel
theorem dd_MO_isMet_67 : decode cd_MO_isMet 67 = .ok (.invokestatic 87, 3) := by decide +kernel
theorem dd_MO_isMet_70 : decode cd_MO_isMet 70 = .ok (.ifCond .eq 29, 3) := by decide +kernel
theorem dd_MO_isMet_73 : decode cd_MO_isMet 73 = .ok (.lload 6, 2) := by decide +kernel
theorem dd_MO_isMet_75 : decode cd_MO_isMet 75 = .ok (.bipush 8, 2) := by decide +kernel
theorem dd_MO_isMet_77 : decode cd_MO_isMet 77 = .ok (.lshl, 1) := by decide +kernel
theorem dd_MO_isMet_78 : decode cd_MO_isMet 78 = .ok (.aload_n 0, 1) := by decide +kernel
theorem dd_MO_isMet_79 : decode cd_MO_isMet 79 = .ok (.getfield 32, 3) := by decide +kernel
theorem dd_MO_isMet_82 : decode cd_MO_isMet 82 = .ok (.bipush 48, 2) := by decide +kernel
theorem dd_MO_isMet_84 : decode cd_MO_isMet 84 = .ok (.iload_n 1, 1) := by decide +kernel
theorem dd_MO_isMet_85 : decode cd_MO_isMet 85 = .ok (.imul, 1) := by decide +kernel
theorem dd_MO_isMet_86 : decode cd_MO_isMet 86 = .ok (.iload_n 3, 1) := by decide +kernel
theorem dd_MO_isMet_87 : decode cd_MO_isMet 87 = .ok (.iadd, 1) := by decide +kernel
theorem dd_MO_isMet_88 : decode cd_MO_isMet 88 = .ok (.iaload, 1) := by decide +kernel
theorem dd_MO_isMet_89 : decode cd_MO_isMet 89 = .ok (.i2l, 1) := by decide +kernel
theorem dd_MO_isMet_90 : decode cd_MO_isMet 90 = .ok (.lor, 1) := by decide +kernel
theorem dd_MO_isMet_91 : decode cd_MO_isMet 91 = .ok (.lstore 6, 2) := by decide +kernel
theorem dd_MO_isMet_93 : decode cd_MO_isMet 93 = .ok (.iinc 3 1, 3) := by decide +kernel
theorem dd_MO_isMet_96 : decode cd_MO_isMet 96 = .ok (.goto (-50), 3) := by decide +kernel
theorem dd_MO_isMet_99 : decode cd_MO_isMet 99 = .ok (.aload_n 0, 1) := by decide +kernel
theorem dd_MO_isMet_100 : decode cd_MO_isMet 100 = .ok (.lload 6, 2) := by decide +kernel
theorem dd_MO_isMet_102 : decode cd_MO_isMet 102 = .ok (.invokevirtual 129, 3) := by decide +kernel
theorem dd_MO_isMet_105 : decode cd_MO_isMet 105 = .ok (.istore 8, 2) := by decide +kernel
theorem dd_MO_isMet_107 : decode cd_MO_isMet 107 = .ok (.iload 8, 2) := by decide +kernel
theorem dd_MO_isMet_109 : decode cd_MO_isMet 109 = .ok (.iconst (-1), 1) := by decide +kernel
theorem dd_MO_isMet_110 : decode cd_MO_isMet 110 = .ok (.if_icmp .eq 7, 3) := by decide +kernel
theorem dd_MO_isMet_113 : decode cd_MO_isMet 113 = .ok (.iconst 1, 1) := by decide +kernel
theorem dd_MO_isMet_114 : decode cd_MO_isMet 114 = .ok (.goto 4, 3) := by decide +kernel
theorem dd_MO_isMet_117 : decode cd_MO_isMet 117 = .ok (.iconst 0, 1) := by decide +kernel
theorem dd_MO_isMet_118 : decode cd_MO_isMet 118 = .ok (.istore 9, 2) := by decide +kernel
theorem dd_MO_isMet_120 : decode cd_MO_isMet 120 = .ok (.iload_n 3, 1) := by decide +kernel
theorem dd_MO_isMet_121 : decode cd_MO_isMet 121 = .ok (.aload_n 0, 1) := by decide +kernel
theorem dd_MO_isMet_122 : decode cd_MO_isMet 122 = .ok (.getfield 29, 3) := by decide +kernel
theorem dd_MO_isMet_125 : decode cd_MO_isMet 125 = .ok (.iload_n 1, 1) := by decide +kernel
theorem dd_MO_isMet_126 : decode cd_MO_isMet 126 = .ok (.iaload, 1) := by decide +kernel
theorem dd_MO_isMet_127 : decode cd_MO_isMet 127 = .ok (.if_icmp .ge 103, 3) := by decide +kernel
theorem dd_MO_isMet_130 : decode cd_MO_isMet 130 = .ok (.aload_n 0, 1) := by decide +kernel
theorem dd_MO_isMet_131 : decode cd_MO_isMet 131 = .ok (.getfield 32, 3) := by decide +kernel
theorem dd_MO_isMet_134 : decode cd_MO_isMet 134 = .ok (.bipush 48, 2) := by decide +kernel
theorem dd_MO_isMet_136 : decode cd_MO_isMet 136 = .ok (.iload_n 1, 1) := by decide +kernel
theorem dd_MO_isMet_137 : decode cd_MO_isMet 137 = .ok (.imul, 1) := by decide +kernel
theorem dd_MO_isMet_138 : decode cd_MO_isMet 138 = .ok (.iload_n 3, 1) := by decide +kernel
theorem dd_MO_isMet_139 : decode cd_MO_isMet 139 = .ok (.iadd, 1) := by decide +kernel
theorem dd_MO_isMet_140 : decode cd_MO_isMet 140 = .ok (.iaload, 1) := by decide +kernel
theorem dd_MO_isMet_141 : decode cd_MO_isMet 141 = .ok (.bipush 61, 2) := by decide +kernel
theorem dd_MO_isMet_143 : decode cd_MO_isMet 143 = .ok (.if_icmp .ne 87, 3) := by decide +kernel
theorem dd_MO_isMet_146 : decode cd_MO_isMet 146 = .ok (.lconst 0, 1) := by decide +kernel
theorem dd_MO_isMet_147 : decode cd_MO_isMet 147 = .ok (.lstore 10, 2) := by decide +kernel
theorem dd_MO_isMet_149 : decode cd_MO_isMet 149 = .ok (.iinc 3 1, 3) := by decide +kernel
theorem dd_MO_isMet_152 : decode cd_MO_isMet 152 = .ok (.iload_n 3, 1) := by decide +kernel
theorem dd_MO_isMet_153 : decode cd_MO_isMet 153 = .ok (.aload_n 0, 1) := by decide +kernel
theorem dd_MO_isMet_154 : decode cd_MO_isMet 154 = .ok (.getfield 29, 3) := by decide +kernel
theorem dd_MO_isMet_157 : decode cd_MO_isMet 157 = .ok (.iload_n 1, 1) := by decide +kernel
theorem dd_MO_isMet_158 : decode cd_MO_isMet 158 = .ok (.iaload, 1) := by decide +kernel
theorem dd_MO_isMet_159 : decode cd_MO_isMet 159 = .ok (.if_icmp .ge 46, 3) := by decide +kernel
theorem dd_MO_isMet_162 : decode cd_MO_isMet 162 = .ok (.aload_n 0, 1) := by decide +kernel
theorem dd_MO_isMet_163 : decode cd_MO_isMet 163 = .ok (.getfield 32, 3) := by decide +kernel
theorem dd_MO_isMet_166 : decode cd_MO_isMet 166 = .ok (.bipush 48, 2) := by decide +kernel
theorem dd_MO_isMet_168 : decode cd_MO_isMet 168 = .ok (.iload_n 1, 1) := by decide +kernel
theorem dd_MO_isMet_169 : decode cd_MO_isMet 169 = .ok (.imul, 1) := by decide +kernel
theorem dd_MO_isMet_170 : decode cd_MO_isMet 170 = .ok (.iload_n 3, 1) := by decide +kernel
theorem dd_MO_isMet_171 : decode cd_MO_isMet 171 = .ok (.iadd, 1) := by decide +kernel
theorem dd_MO_isMet_172 : decode cd_MO_isMet 172 = .ok (.iaload, 1) := by decide +kernel
theorem dd_MO_isMet_173 : decode cd_MO_isMet 173 = .ok (.invokestatic 95, 3) := by decide +kernel
theorem dd_MO_isMet_176 : decode cd_MO_isMet 176 = .ok (.ifCond .eq 29, 3) := by decide +kernel
theorem dd_MO_isMet_179 : decode cd_MO_isMet 179 = .ok (.lload 10, 2) := by decide +kernel
theorem dd_MO_isMet_181 : decode cd_MO_isMet 181 = .ok (.bipush 8, 2) := by decide +kernel
theorem dd_MO_isMet_183 : decode cd_MO_isMet 183 = .ok (.lshl, 1) := by decide +kernel
theorem dd_MO_isMet_184 : decode cd_MO_isMet 184 = .ok (.aload_n 0, 1) := by decide +kernel
theorem dd_MO_isMet_185 : decode cd_MO_isMet 185 = .ok (.getfield 32, 3) := by decide +kernel
theorem dd_MO_isMet_188 : decode cd_MO_isMet 188 = .ok (.bipush 48, 2) := by decide +kernel
theorem dd_MO_isMet_190 : decode cd_MO_isMet 190 = .ok (.iload_n 1, 1) := by decide +kernel
theorem dd_MO_isMet_191 : decode cd_MO_isMet 191 = .ok (.imul, 1) := by decide +kernel
theorem dd_MO_isMet_192 : decode cd_MO_isMet 192 = .ok (.iload_n 3, 1) := by decide +kernel
theorem dd_MO_isMet_193 : decode cd_MO_isMet 193 = .ok (.iadd, 1) := by decide +kernel
theorem dd_MO_isMet_194 : decode cd_MO_isMet 194 = .ok (.iaload, 1) := by decide +kernel
theorem dd_MO_isMet_195 : decode cd_MO_isMet 195 = .ok (.i2l, 1) := by decide +kernel
theorem dd_MO_isMet_196 : decode cd_MO_isMet 196 = .ok (.lor, 1) := by decide +kernel
theorem dd_MO_isMet_197 : decode cd_MO_isMet 197 = .ok (.lstore 10, 2) := by decide +kernel
theorem dd_MO_isMet_199 : decode cd_MO_isMet 199 = .ok (.iinc 3 1, 3) := by decide +kernel
theorem dd_MO_isMet_202 : decode cd_MO_isMet 202 = .ok (.goto (-50), 3) := by decide +kernel
theorem dd_MO_isMet_205 : decode cd_MO_isMet 205 = .ok (.iload 9, 2) := by decide +kernel
theorem dd_MO_isMet_207 : decode cd_MO_isMet 207 = .ok (.ifCond .eq 20, 3) := by decide +kernel
theorem dd_MO_isMet_210 : decode cd_MO_isMet 210 = .ok (.aload_n 0, 1) := by decide +kernel
theorem dd_MO_isMet_211 : decode cd_MO_isMet 211 = .ok (.getfield 42, 3) := by decide +kernel
theorem dd_MO_isMet_214 : decode cd_MO_isMet 214 = .ok (.iload 8, 2) := by decide +kernel
theorem dd_MO_isMet_216 : decode cd_MO_isMet 216 = .ok (.laload, 1) := by decide +kernel
theorem dd_MO_isMet_217 : decode cd_MO_isMet 217 = .ok (.lload 10, 2) := by decide +kernel
theorem dd_MO_isMet_219 : decode cd_MO_isMet 219 = .ok (.lcmp, 1) := by decide +kernel
theorem dd_MO_isMet_220 : decode cd_MO_isMet 220 = .ok (.ifCond .ne 7, 3) := by decide +kernel
theorem dd_MO_isMet_223 : decode cd_MO_isMet 223 = .ok (.iconst 1, 1) := by decide +kernel
theorem dd_MO_isMet_224 : decode cd_MO_isMet 224 = .ok (.goto 4, 3) := by decide +kernel
theorem dd_MO_isMet_227 : decode cd_MO_isMet 227 = .ok (.iconst 0, 1) := by decide +kernel
theorem dd_MO_isMet_228 : decode cd_MO_isMet 228 = .ok (.istore 9, 2) := by decide +kernel
theorem dd_MO_isMet_230 : decode cd_MO_isMet 230 = .ok (.iload 4, 2) := by decide +kernel
theorem dd_MO_isMet_232 : decode cd_MO_isMet 232 = .ok (.ifCond .ne 8, 3) := by decide +kernel
theorem dd_MO_isMet_235 : decode cd_MO_isMet 235 = .ok (.iload 9, 2) := by decide +kernel
theorem dd_MO_isMet_237 : decode cd_MO_isMet 237 = .ok (.ifCond .eq 7, 3) := by decide +kernel
theorem dd_MO_isMet_240 : decode cd_MO_isMet 240 = .ok (.iconst 1, 1) := by decide +kernel
theorem dd_MO_isMet_241 : decode cd_MO_isMet 241 = .ok (.goto 4, 3) := by decide +kernel
theorem dd_MO_isMet_244 : decode cd_MO_isMet 244 = .ok (.iconst 0, 1) := by decide +kernel
theorem dd_MO_isMet_245 : decode cd_MO_isMet 245 = .ok (.istore 4, 2) := by decide +kernel
theorem dd_MO_isMet_247 : decode cd_MO_isMet 247 = .ok (.iload 5, 2) := by decide +kernel
theorem dd_MO_isMet_249 : decode cd_MO_isMet 249 = .ok (.ifCond .eq 12, 3) := by decide +kernel
theorem dd_MO_isMet_252 : decode cd_MO_isMet 252 = .ok (.iload 9, 2) := by decide +kernel
theorem dd_MO_isMet_254 : decode cd_MO_isMet 254 = .ok (.ifCond .eq 7, 3) := by decide +kernel
theorem dd_MO_isMet_257 : decode cd_MO_isMet 257 = .ok (.iconst 1, 1) := by decide +kernel
theorem dd_MO_isMet_258 : decode cd_MO_isMet 258 = .ok (.goto 4, 3) := by decide +kernel
theorem dd_MO_isMet_261 : decode cd_MO_isMet 261 = .ok (.iconst 0, 1) := by decide +kernel
theorem dd_MO_isMet_262 : decode cd_MO_isMet 262 = .ok (.istore 5, 2) := by decide +kernel
theorem dd_MO_isMet_264 : decode cd_MO_isMet 264 = .ok (.goto (-234), 3) := by decide +kernel
theorem dd_MO_isMet_267 : decode cd_MO_isMet 267 = .ok (.iload_n 2, 1) := by decide +kernel
theorem dd_MO_isMet_268 : decode cd_MO_isMet 268 = .ok (.ifCond .eq 8, 3) := by decide +kernel
theorem dd_MO_isMet_271 : decode cd_MO_isMet 271 = .ok (.iload 5, 2) := by decide +kernel
theorem dd_MO_isMet_273 : decode cd_MO_isMet 273 = .ok (.goto 5, 3) := by decide +kernel
theorem dd_MO_isMet_276 : decode cd_MO_isMet 276 = .ok (.iload 4, 2) := by decide +kernel
theorem dd_MO_isMet_278 : decode cd_MO_isMet 278 = .ok (.ireturn, 1) := by decide +kernel
theorem dd_MO_found_0 : decode cd_MO_found 0 = .ok (.iload_n 1, 1) := by decide +kernel
theorem dd_MO_found_1 : decode cd_MO_found 1 = .ok (.istore_n 2, 1) := by decide +kernel
theorem dd_MO_found_2 : decode cd_MO_found 2 = .ok (.iconst 0, 1) := by decide +kernel
theorem dd_MO_found_3 : decode cd_MO_found 3 = .ok (.istore_n 3, 1) := by decide +kernel
theorem dd_MO_found_4 : decode cd_MO_found 4 = .ok (.iload_n 3, 1) := by decide +kernel
theorem dd_MO_found_5 : decode cd_MO_found 5 = .ok (.bipush 16, 2) := by decide +kernel
theorem dd_MO_found_7 : decode cd_MO_found 7 = .ok (.if_icmp .ge 39, 3) := by decide +kernel
theorem dd_MO_found_10 : decode cd_MO_found 10 = .ok (.iload_n 1, 1) := by decide +kernel
theorem dd_MO_found_11 : decode cd_MO_found 11 = .ok (.ifCond .lt 35, 3) := by decide +kernel
theorem dd_MO_found_14 : decode cd_MO_found 14 = .ok (.aload_n 0, 1) := by decide +kernel
theorem dd_MO_found_15 : decode cd_MO_found 15 = .ok (.getfield 45, 3) := by decide +kernel
theorem dd_MO_found_18 : decode cd_MO_found 18 = .ok (.iload_n 3, 1) := by decide +kernel
theorem dd_MO_found_19 : decode cd_MO_found 19 = .ok (.baload, 1) := by decide +kernel
theorem dd_MO_found_20 : decode cd_MO_found 20 = .ok (.ifCond .ne 6, 3) := by decide +kernel
theorem dd_MO_found_23 : decode cd_MO_found 23 = .ok (.goto 17, 3) := by decide +kernel
theorem dd_MO_found_26 : decode cd_MO_found 26 = .ok (.iload_n 2, 1) := by decide +kernel
theorem dd_MO_found_27 : decode cd_MO_found 27 = .ok (.ifCond .ne 10, 3) := by decide +kernel
theorem dd_MO_found_30 : decode cd_MO_found 30 = .ok (.aload_n 0, 1) := by decide +kernel
theorem dd_MO_found_31 : decode cd_MO_found 31 = .ok (.iconst 0, 1) := by decide +kernel
theorem dd_MO_found_32 : decode cd_MO_found 32 = .ok (.putfield 60, 3) := by decide +kernel
theorem dd_MO_found_35 : decode cd_MO_found 35 = .ok (.iload_n 3, 1) := by decide +kernel
theorem dd_MO_found_36 : decode cd_MO_found 36 = .ok (.ireturn, 1) := by decide +kernel
theorem dd_MO_found_37 : decode cd_MO_found 37 = .ok (.iinc 2 (-1), 3) := by decide +kernel
theorem dd_MO_found_40 : decode cd_MO_found 40 = .ok (.iinc 3 1, 3) := by decide +kernel
theorem dd_MO_found_43 : decode cd_MO_found 43 = .ok (.goto (-39), 3) := by decide +kernel
theorem dd_MO_found_46 : decode cd_MO_found 46 = .ok (.aload_n 0, 1) := by decide +kernel
theorem dd_MO_found_47 : decode cd_MO_found 47 = .ok (.iconst 1, 1) := by decide +kernel
theorem dd_MO_found_48 : decode cd_MO_found 48 = .ok (.invokevirtual 69, 3) := by decide +kernel
theorem dd_MO_found_51 : decode cd_MO_found 51 = .ok (.ireturn, 1) := by decide +kernel
theorem dd_MO_passed_0 : decode cd_MO_passed 0 = .ok (.aload_n 0, 1) := by decide +kernel
theorem dd_MO_passed_1 : decode cd_MO_passed 1 = .ok (.iconst 0, 1) := by decide +kernel
theorem dd_MO_passed_2 : decode cd_MO_passed 2 = .ok (.putfield 60, 3) := by decide +kernel
theorem dd_MO_passed_5 : decode cd_MO_passed 5 = .ok (.iload_n 1, 1) := by decide +kernel
theorem dd_MO_passed_6 : decode cd_MO_passed 6 = .ok (.ifCond .lt 22, 3) := by decide +kernel
theorem dd_MO_passed_9 : decode cd_MO_passed 9 = .ok (.iload_n 1, 1) := by decide +kernel
theorem dd_MO_passed_10 : decode cd_MO_passed 10 = .ok (.bipush 16, 2) := by decide +kernel
theorem dd_MO_passed_12 : decode cd_MO_passed 12 = .ok (.if_icmp .ge 16, 3) := by decide +kernel
theorem dd_MO_passed_15 : decode cd_MO_passed 15 = .ok (.aload_n 0, 1) := by decide +kernel
theorem dd_MO_passed_16 : decode cd_MO_passed 16 = .ok (.getfield 48, 3) := by decide +kernel
theorem dd_MO_passed_19 : decode cd_MO_passed 19 = .ok (.iload_n 1, 1) := by decide +kernel
theorem dd_MO_passed_20 : decode cd_MO_passed 20 = .ok (.baload, 1) := by decide +kernel
theorem dd_MO_passed_21 : decode cd_MO_passed 21 = .ok (.ifCond .eq 7, 3) := by decide +kernel
theorem dd_MO_passed_24 : decode cd_MO_passed 24 = .ok (.iconst 1, 1) := by decide +kernel
theorem dd_MO_passed_25 : decode cd_MO_passed 25 = .ok (.goto 4, 3) := by decide +kernel
theorem dd_MO_passed_28 : decode cd_MO_passed 28 = .ok (.iconst 0, 1) := by decide +kernel
theorem dd_MO_passed_29 : decode cd_MO_passed 29 = .ok (.ireturn, 1) := by decide +kernel
theorem dd_MO_of_0 : decode cd_MO_of 0 = .ok (.aload_n 0, 1) := by decide +kernel
theorem dd_MO_of_1 : decode cd_MO_of 1 = .ok (.iconst 0, 1) := by decide +kernel
theorem dd_MO_of_2 : decode cd_MO_of 2 = .ok (.putfield 60, 3) := by decide +kernel
theorem dd_MO_of_5 : decode cd_MO_of 5 = .ok (.iload_n 2, 1) := by decide +kernel
theorem dd_MO_of_6 : decode cd_MO_of 6 = .ok (.iconst 2, 1) := by decide +kernel
theorem dd_MO_of_7 : decode cd_MO_of 7 = .ok (.if_icmp .ne 14, 3) := by decide +kernel
theorem dd_MO_of_10 : decode cd_MO_of 10 = .ok (.aload_n 0, 1) := by decide +kernel
theorem dd_MO_of_11 : decode cd_MO_of 11 = .ok (.iload_n 1, 1) := by decide +kernel
theorem dd_MO_of_12 : decode cd_MO_of 12 = .ok (.invokevirtual 80, 3) := by decide +kernel
theorem dd_MO_of_15 : decode cd_MO_of 15 = .ok (.ifCond .ne 16, 3) := by decide +kernel
theorem dd_MO_of_18 : decode cd_MO_of 18 = .ok (.goto 11, 3) := by decide +kernel
theorem dd_MO_of_21 : decode cd_MO_of 21 = .ok (.aload_n 0, 1) := by decide +kernel
theorem dd_MO_of_22 : decode cd_MO_of 22 = .ok (.iload_n 1, 1) := by decide +kernel
theorem dd_MO_of_23 : decode cd_MO_of 23 = .ok (.invokevirtual 73, 3) := by decide +kernel
theorem dd_MO_of_26 : decode cd_MO_of 26 = .ok (.ifCond .ne 5, 3) := by decide +kernel
theorem dd_MO_of_29 : decode cd_MO_of 29 = .ok (.iconst (-1), 1) := by decide +kernel
theorem dd_MO_of_30 : decode cd_MO_of 30 = .ok (.ireturn, 1) := by decide +kernel
theorem dd_MO_of_31 : decode cd_MO_of 31 = .ok (.iconst 0, 1) := by decide +kernel
theorem dd_MO_of_32 : decode cd_MO_of 32 = .ok (.istore_n 3, 1) := by decide +kernel
theorem dd_MO_of_33 : decode cd_MO_of 33 = .ok (.iconst 0, 1) := by decide +kernel
theorem dd_MO_of_34 : decode cd_MO_of 34 = .ok (.istore 4, 2) := by decide +kernel
theorem dd_MO_of_36 : decode cd_MO_of 36 = .ok (.iload 4, 2) := by decide +kernel
theorem dd_MO_of_38 : decode cd_MO_of 38 = .ok (.aload_n 0, 1) := by decide +kernel
theorem dd_MO_of_39 : decode cd_MO_of 39 = .ok (.getfield 77, 3) := by decide +kernel
theorem dd_MO_of_42 : decode cd_MO_of 42 = .ok (.if_icmp .ge 67, 3) := by decide +kernel
theorem dd_MO_of_45 : decode cd_MO_of 45 = .ok (.iload_n 3, 1) := by decide +kernel
theorem dd_MO_of_46 : decode cd_MO_of 46 = .ok (.iload_n 2, 1) := by decide +kernel
theorem dd_MO_of_47 : decode cd_MO_of 47 = .ok (.ifCond .ne 14, 3) := by decide +kernel
theorem dd_MO_of_50 : decode cd_MO_of 50 = .ok (.aload_n 0, 1) := by decide +kernel
theorem dd_MO_of_51 : decode cd_MO_of 51 = .ok (.getfield 23, 3) := by decide +kernel
theorem dd_MO_of_54 : decode cd_MO_of 54 = .ok (.iload 4, 2) := by decide +kernel
theorem dd_MO_of_56 : decode cd_MO_of 56 = .ok (.iaload, 1) := by decide +kernel
theorem dd_MO_of_57 : decode cd_MO_of 57 = .ok (.iload_n 1, 1) := by decide +kernel
theorem dd_MO_of_58 : decode cd_MO_of 58 = .ok (.if_icmp .eq 38, 3) := by decide +kernel
theorem dd_MO_of_61 : decode cd_MO_of 61 = .ok (.iload_n 2, 1) := by decide +kernel
theorem dd_MO_of_62 : decode cd_MO_of 62 = .ok (.iconst 1, 1) := by decide +kernel
theorem dd_MO_of_63 : decode cd_MO_of 63 = .ok (.if_icmp .ne 14, 3) := by decide +kernel
theorem dd_MO_of_66 : decode cd_MO_of 66 = .ok (.aload_n 0, 1) := by decide +kernel
theorem dd_MO_of_67 : decode cd_MO_of 67 = .ok (.getfield 26, 3) := by decide +kernel
theorem dd_MO_of_70 : decode cd_MO_of 70 = .ok (.iload 4, 2) := by decide +kernel
theorem dd_MO_of_72 : decode cd_MO_of 72 = .ok (.iaload, 1) := by decide +kernel
theorem dd_MO_of_73 : decode cd_MO_of 73 = .ok (.iload_n 1, 1) := by decide +kernel
theorem dd_MO_of_74 : decode cd_MO_of 74 = .ok (.if_icmp .eq 22, 3) := by decide +kernel
theorem dd_MO_of_77 : decode cd_MO_of 77 = .ok (.iload_n 2, 1) := by decide +kernel
theorem dd_MO_of_78 : decode cd_MO_of 78 = .ok (.iconst 2, 1) := by decide +kernel
theorem dd_MO_of_79 : decode cd_MO_of 79 = .ok (.if_icmp .ne 21, 3) := by decide +kernel
theorem dd_MO_of_82 : decode cd_MO_of 82 = .ok (.aload_n 0, 1) := by decide +kernel
theorem dd_MO_of_83 : decode cd_MO_of 83 = .ok (.getfield 26, 3) := by decide +kernel
theorem dd_MO_of_86 : decode cd_MO_of 86 = .ok (.iload 4, 2) := by decide +kernel
theorem dd_MO_of_88 : decode cd_MO_of 88 = .ok (.iaload, 1) := by decide +kernel
theorem dd_MO_of_89 : decode cd_MO_of 89 = .ok (.bipush 16, 2) := by decide +kernel
theorem dd_MO_of_91 : decode cd_MO_of 91 = .ok (.iload_n 1, 1) := by decide +kernel
theorem dd_MO_of_92 : decode cd_MO_of 92 = .ok (.iadd, 1) := by decide +kernel
theorem dd_MO_of_93 : decode cd_MO_of 93 = .ok (.if_icmp .ne 7, 3) := by decide +kernel
theorem dd_MO_of_96 : decode cd_MO_of 96 = .ok (.iconst 1, 1) := by decide +kernel
theorem dd_MO_of_97 : decode cd_MO_of 97 = .ok (.goto 4, 3) := by decide +kernel
theorem dd_MO_of_100 : decode cd_MO_of 100 = .ok (.iconst 0, 1) := by decide +kernel
theorem dd_MO_of_101 : decode cd_MO_of 101 = .ok (.iadd, 1) := by decide +kernel
theorem dd_MO_of_102 : decode cd_MO_of 102 = .ok (.istore_n 3, 1) := by decide +kernel
theorem dd_MO_of_103 : decode cd_MO_of 103 = .ok (.iinc 4 1, 3) := by decide +kernel
theorem dd_MO_of_106 : decode cd_MO_of 106 = .ok (.goto (-70), 3) := by decide +kernel
theorem dd_MO_of_109 : decode cd_MO_of 109 = .ok (.iload_n 2, 1) := by decide +kernel
theorem dd_MO_of_110 : decode cd_MO_of 110 = .ok (.ifCond .lt 12, 3) := by decide +kernel
theorem dd_MO_of_113 : decode cd_MO_of 113 = .ok (.iload_n 2, 1) := by decide +kernel
theorem dd_MO_of_114 : decode cd_MO_of 114 = .ok (.iconst 3, 1) := by decide +kernel
theorem dd_MO_of_115 : decode cd_MO_of 115 = .ok (.if_icmp .ge 7, 3) := by decide +kernel
theorem dd_MO_of_118 : decode cd_MO_of 118 = .ok (.iload_n 3, 1) := by decide +kernel
theorem dd_MO_of_119 : decode cd_MO_of 119 = .ok (.goto 32, 3) := by decide +kernel
theorem dd_MO_of_122 : decode cd_MO_of 122 = .ok (.iload_n 2, 1) := by decide +kernel
theorem dd_MO_of_123 : decode cd_MO_of 123 = .ok (.iconst 3, 1) := by decide +kernel
theorem dd_MO_of_124 : decode cd_MO_of 124 = .ok (.if_icmp .ne 12, 3) := by decide +kernel
theorem dd_MO_of_127 : decode cd_MO_of 127 = .ok (.aload_n 0, 1) := by decide +kernel
theorem dd_MO_of_128 : decode cd_MO_of 128 = .ok (.getfield 13, 3) := by decide +kernel
theorem dd_MO_of_131 : decode cd_MO_of 131 = .ok (.iload_n 1, 1) := by decide +kernel
theorem dd_MO_of_132 : decode cd_MO_of 132 = .ok (.iaload, 1) := by decide +kernel
theorem dd_MO_of_133 : decode cd_MO_of 133 = .ok (.goto 18, 3) := by decide +kernel
theorem dd_MO_of_136 : decode cd_MO_of 136 = .ok (.iload_n 2, 1) := by decide +kernel
theorem dd_MO_of_137 : decode cd_MO_of 137 = .ok (.iconst 4, 1) := by decide +kernel
theorem dd_MO_of_138 : decode cd_MO_of 138 = .ok (.if_icmp .ne 12, 3) := by decide +kernel
theorem dd_MO_of_141 : decode cd_MO_of 141 = .ok (.aload_n 0, 1) := by decide +kernel
theorem dd_MO_of_142 : decode cd_MO_of 142 = .ok (.getfield 16, 3) := by decide +kernel
theorem dd_MO_of_145 : decode cd_MO_of 145 = .ok (.iload_n 1, 1) := by decide +kernel
theorem dd_MO_of_146 : decode cd_MO_of 146 = .ok (.iaload, 1) := by decide +kernel
theorem dd_MO_of_147 : decode cd_MO_of 147 = .ok (.goto 4, 3) := by decide +kernel
theorem dd_MO_of_150 : decode cd_MO_of 150 = .ok (.iconst (-1), 1) := by decide +kernel
theorem dd_MO_of_151 : decode cd_MO_of 151 = .ok (.ireturn, 1) := by decide +kernel
theorem dd_MO_total_0 : decode cd_MO_total 0 = .ok (.aload_n 0, 1) := by decide +kernel
theorem dd_MO_total_1 : decode cd_MO_total 1 = .ok (.iconst 0, 1) := by decide +kernel
theorem dd_MO_total_2 : decode cd_MO_total 2 = .ok (.putfield 60, 3) := by decide +kernel
theorem dd_MO_total_5 : decode cd_MO_total 5 = .ok (.iconst 0, 1) := by decide +kernel
theorem dd_MO_total_6 : decode cd_MO_total 6 = .ok (.istore_n 2, 1) := by decide +kernel
theorem dd_MO_total_7 : decode cd_MO_total 7 = .ok (.iconst 0, 1) := by decide +kernel
theorem dd_MO_total_8 : decode cd_MO_total 8 = .ok (.istore_n 3, 1) := by decide +kernel
theorem dd_MO_total_9 : decode cd_MO_total 9 = .ok (.iconst 0, 1) := by decide +kernel
theorem dd_MO_total_10 : decode cd_MO_total 10 = .ok (.istore 4, 2) := by decide +kernel
theorem dd_MO_total_12 : decode cd_MO_total 12 = .ok (.iload 4, 2) := by decide +kernel
theorem dd_MO_total_14 : decode cd_MO_total 14 = .ok (.bipush 16, 2) := by decide +kernel
theorem dd_MO_total_16 : decode cd_MO_total 16 = .ok (.if_icmp .ge 46, 3) := by decide +kernel
theorem dd_MO_total_19 : decode cd_MO_total 19 = .ok (.iload_n 2, 1) := by decide +kernel
theorem dd_MO_total_20 : decode cd_MO_total 20 = .ok (.aload_n 0, 1) := by decide +kernel
theorem dd_MO_total_21 : decode cd_MO_total 21 = .ok (.getfield 13, 3) := by decide +kernel
theorem dd_MO_total_24 : decode cd_MO_total 24 = .ok (.iload 4, 2) := by decide +kernel
theorem dd_MO_total_26 : decode cd_MO_total 26 = .ok (.iaload, 1) := by decide +kernel
theorem dd_MO_total_27 : decode cd_MO_total 27 = .ok (.iconst (-1), 1) := by decide +kernel
theorem dd_MO_total_28 : decode cd_MO_total 28 = .ok (.if_icmp .eq 7, 3) := by decide +kernel
theorem dd_MO_total_31 : decode cd_MO_total 31 = .ok (.iconst 1, 1) := by decide +kernel
theorem dd_MO_total_32 : decode cd_MO_total 32 = .ok (.goto 4, 3) := by decide +kernel
theorem dd_MO_total_35 : decode cd_MO_total 35 = .ok (.iconst 0, 1) := by decide +kernel
theorem dd_MO_total_36 : decode cd_MO_total 36 = .ok (.iadd, 1) := by decide +kernel
theorem dd_MO_total_37 : decode cd_MO_total 37 = .ok (.istore_n 2, 1) := by decide +kernel
theorem dd_MO_total_38 : decode cd_MO_total 38 = .ok (.iload_n 3, 1) := by decide +kernel
theorem dd_MO_total_39 : decode cd_MO_total 39 = .ok (.aload_n 0, 1) := by decide +kernel
theorem dd_MO_total_40 : decode cd_MO_total 40 = .ok (.getfield 19, 3) := by decide +kernel
theorem dd_MO_total_43 : decode cd_MO_total 43 = .ok (.iload 4, 2) := by decide +kernel
theorem dd_MO_total_45 : decode cd_MO_total 45 = .ok (.baload, 1) := by decide +kernel
theorem dd_MO_total_46 : decode cd_MO_total 46 = .ok (.ifCond .eq 7, 3) := by decide +kernel
theorem dd_MO_total_49 : decode cd_MO_total 49 = .ok (.iconst 1, 1) := by decide +kernel
theorem dd_MO_total_50 : decode cd_MO_total 50 = .ok (.goto 4, 3) := by decide +kernel
theorem dd_MO_total_53 : decode cd_MO_total 53 = .ok (.iconst 0, 1) := by decide +kernel
theorem dd_MO_total_54 : decode cd_MO_total 54 = .ok (.iadd, 1) := by decide +kernel
theorem dd_MO_total_55 : decode cd_MO_total 55 = .ok (.istore_n 3, 1) := by decide +kernel
theorem dd_MO_total_56 : decode cd_MO_total 56 = .ok (.iinc 4 1, 3) := by decide +kernel
theorem dd_MO_total_59 : decode cd_MO_total 59 = .ok (.goto (-47), 3) := by decide +kernel
theorem dd_MO_total_62 : decode cd_MO_total 62 = .ok (.iload_n 1, 1) := by decide +kernel
theorem dd_MO_total_63 : decode cd_MO_total 63 = .ok (.tableswitch 52 0 4 #[33, 35, 37, 42, 47], 33) := by decide +kernel
theorem dd_MO_total_96 : decode cd_MO_total 96 = .ok (.iload_n 2, 1) := by decide +kernel
theorem dd_MO_total_97 : decode cd_MO_total 97 = .ok (.ireturn, 1) := by decide +kernel
theorem dd_MO_total_98 : decode cd_MO_total 98 = .ok (.iload_n 3, 1) := by decide +kernel
theorem dd_MO_total_99 : decode cd_MO_total 99 = .ok (.ireturn, 1) := by decide +kernel
theorem dd_MO_total_100 : decode cd_MO_total 100 = .ok (.aload_n 0, 1) := by decide +kernel
theorem dd_MO_total_101 : decode cd_MO_total 101 = .ok (.getfield 77, 3) := by decide +kernel
theorem dd_MO_total_104 : decode cd_MO_total 104 = .ok (.ireturn, 1) := by decide +kernel
theorem dd_MO_total_105 : decode cd_MO_total 105 = .ok (.aload_n 0, 1) := by decide +kernel
theorem dd_MO_total_106 : decode cd_MO_total 106 = .ok (.getfield 126, 3) := by decide +kernel
theorem dd_MO_total_109 : decode cd_MO_total 109 = .ok (.ireturn, 1) := by decide +kernel
theorem dd_MO_total_110 : decode cd_MO_total 110 = .ok (.aload_n 0, 1) := by decide +kernel
theorem dd_MO_total_111 : decode cd_MO_total 111 = .ok (.getfield 123, 3) := by decide +kernel
theorem dd_MO_total_114 : decode cd_MO_total 114 = .ok (.ireturn, 1) := by decide +kernel
theorem dd_MO_total_115 : decode cd_MO_total 115 = .ok (.iconst (-1), 1) := by decide +kernel
theorem dd_MO_total_116 : decode cd_MO_total 116 = .ok (.ireturn, 1) := by decide +kernel
theorem dd_SB_init_0 : decode cd_SB_init 0 = .ok (.aload_n 0, 1) := by decide +kernel
theorem dd_SB_init_1 : decode cd_SB_init 1 = .ok (.bipush 16, 2) := by decide +kernel
theorem dd_SB_init_3 : decode cd_SB_init 3 = .ok (.invokespecial 1, 3) := by decide +kernel
theorem dd_SB_init_6 : decode cd_SB_init 6 = .ok (.return_, 1) := by decide +kernel
theorem dd_AB_init_0 : decode cd_AB_init 0 = .ok (.aload_n 0, 1) := by decide +kernel
theorem dd_AB_init_1 : decode cd_AB_init 1 = .ok (.invokespecial 3, 3) := by decide +kernel
theorem dd_AB_init_4 : decode cd_AB_init 4 = .ok (.getstatic 18, 3) := by decide +kernel
theorem dd_AB_init_7 : decode cd_AB_init 7 = .ok (.ifCond .eq 18, 3) := by decide +kernel
theorem dd_AB_init_10 : decode cd_AB_init 10 = .ok (.aload_n 0, 1) := by decide +kernel
theorem dd_AB_init_11 : decode cd_AB_init 11 = .ok (.iload_n 1, 1) := by decide +kernel
theorem dd_AB_init_12 : decode cd_AB_init 12 = .ok (.newarray .byte, 2) := by decide +kernel
theorem dd_AB_init_14 : decode cd_AB_init 14 = .ok (.putfield 15, 3) := by decide +kernel
theorem dd_AB_init_17 : decode cd_AB_init 17 = .ok (.aload_n 0, 1) := by decide +kernel
theorem dd_AB_init_18 : decode cd_AB_init 18 = .ok (.iconst 0, 1) := by decide +kernel
theorem dd_AB_init_19 : decode cd_AB_init 19 = .ok (.putfield 22, 3) := by decide +kernel
theorem dd_AB_init_22 : decode cd_AB_init 22 = .ok (.goto 16, 3) := by decide +kernel
theorem dd_AB_init_25 : decode cd_AB_init 25 = .ok (.aload_n 0, 1) := by decide +kernel
theorem dd_AB_init_26 : decode cd_AB_init 26 = .ok (.iload_n 1, 1) := by decide +kernel
theorem dd_AB_init_27 : decode cd_AB_init 27 = .ok (.invokestatic 26, 3) := by decide +kernel
theorem dd_AB_init_30 : decode cd_AB_init 30 = .ok (.putfield 15, 3) := by decide +kernel
theorem dd_AB_init_33 : decode cd_AB_init 33 = .ok (.aload_n 0, 1) := by decide +kernel
theorem dd_AB_init_34 : decode cd_AB_init 34 = .ok (.iconst 1, 1) := by decide +kernel
theorem dd_AB_init_35 : decode cd_AB_init 35 = .ok (.putfield 22, 3) := by decide +kernel
theorem dd_AB_init_38 : decode cd_AB_init 38 = .ok (.return_, 1) := by decide +kernel
theorem dd_SB_append_0 : decode cd_SB_append 0 = .ok (.aload_n 0, 1) := by decide +kernel
theorem dd_SB_append_1 : decode cd_SB_append 1 = .ok (.iload_n 1, 1) := by decide +kernel
theorem dd_SB_append_2 : decode cd_SB_append 2 = .ok (.invokespecial 50, 3) := by decide +kernel
theorem dd_SB_append_5 : decode cd_SB_append 5 = .ok (.pop, 1) := by decide +kernel
theorem dd_SB_append_6 : decode cd_SB_append 6 = .ok (.aload_n 0, 1) := by decide +kernel
theorem dd_SB_append_7 : decode cd_SB_append 7 = .ok (.areturn, 1) := by decide +kernel
theorem dd_AB_append_0 : decode cd_AB_append 0 = .ok (.aload_n 0, 1) := by decide +kernel
theorem dd_AB_append_1 : decode cd_AB_append 1 = .ok (.aload_n 0, 1) := by decide +kernel
theorem dd_AB_append_2 : decode cd_AB_append 2 = .ok (.getfield 79, 3) := by decide +kernel
theorem dd_AB_append_5 : decode cd_AB_append 5 = .ok (.iconst 1, 1) := by decide +kernel
theorem dd_AB_append_6 : decode cd_AB_append 6 = .ok (.iadd, 1) := by decide +kernel
theorem dd_AB_append_7 : decode cd_AB_append 7 = .ok (.invokevirtual 100, 3) := by decide +kernel
theorem dd_AB_append_10 : decode cd_AB_append 10 = .ok (.aload_n 0, 1) := by decide +kernel
theorem dd_AB_append_11 : decode cd_AB_append 11 = .ok (.invokevirtual 83, 3) := by decide +kernel
theorem dd_AB_append_14 : decode cd_AB_append 14 = .ok (.ifCond .eq 31, 3) := by decide +kernel
theorem dd_AB_append_17 : decode cd_AB_append 17 = .ok (.iload_n 1, 1) := by decide +kernel
theorem dd_AB_append_18 : decode cd_AB_append 18 = .ok (.invokestatic 191, 3) := by decide +kernel
theorem dd_AB_append_21 : decode cd_AB_append 21 = .ok (.ifCond .eq 24, 3) := by decide +kernel
theorem dd_AB_append_24 : decode cd_AB_append 24 = .ok (.aload_n 0, 1) := by decide +kernel
theorem dd_AB_append_25 : decode cd_AB_append 25 = .ok (.getfield 15, 3) := by decide +kernel
theorem dd_AB_append_28 : decode cd_AB_append 28 = .ok (.aload_n 0, 1) := by decide +kernel
theorem dd_AB_append_29 : decode cd_AB_append 29 = .ok (.dup, 1) := by decide +kernel
theorem dd_AB_append_30 : decode cd_AB_append 30 = .ok (.getfield 79, 3) := by decide +kernel
theorem dd_AB_append_33 : decode cd_AB_append 33 = .ok (.dup_x1, 1) := by decide +kernel
theorem dd_AB_append_34 : decode cd_AB_append 34 = .ok (.iconst 1, 1) := by decide +kernel
theorem dd_AB_append_35 : decode cd_AB_append 35 = .ok (.iadd, 1) := by decide +kernel
theorem dd_AB_append_36 : decode cd_AB_append 36 = .ok (.putfield 79, 3) := by decide +kernel
theorem dd_AB_append_39 : decode cd_AB_append 39 = .ok (.iload_n 1, 1) := by decide +kernel
theorem dd_AB_append_40 : decode cd_AB_append 40 = .ok (.i2b, 1) := by decide +kernel
theorem dd_AB_append_41 : decode cd_AB_append 41 = .ok (.bastore, 1) := by decide +kernel
theorem dd_AB_append_42 : decode cd_AB_append 42 = .ok (.goto 33, 3) := by decide +kernel
theorem dd_AB_append_45 : decode cd_AB_append 45 = .ok (.aload_n 0, 1) := by decide +kernel
theorem dd_AB_append_46 : decode cd_AB_append 46 = .ok (.invokevirtual 83, 3) := by decide +kernel
theorem dd_AB_append_49 : decode cd_AB_append 49 = .ok (.ifCond .eq 7, 3) := by decide +kernel
theorem dd_AB_append_52 : decode cd_AB_append 52 = .ok (.aload_n 0, 1) := by decide +kernel
theorem dd_AB_append_53 : decode cd_AB_append 53 = .ok (.invokevirtual 195, 3) := by decide +kernel
theorem dd_AB_append_56 : decode cd_AB_append 56 = .ok (.aload_n 0, 1) := by decide +kernel
theorem dd_AB_append_57 : decode cd_AB_append 57 = .ok (.getfield 15, 3) := by decide +kernel
theorem dd_AB_append_60 : decode cd_AB_append 60 = .ok (.aload_n 0, 1) := by decide +kernel
theorem dd_AB_append_61 : decode cd_AB_append 61 = .ok (.dup, 1) := by decide +kernel
theorem dd_AB_append_62 : decode cd_AB_append 62 = .ok (.getfield 79, 3) := by decide +kernel
theorem dd_AB_append_65 : decode cd_AB_append 65 = .ok (.dup_x1, 1) := by decide +kernel
theorem dd_AB_append_66 : decode cd_AB_append 66 = .ok (.iconst 1, 1) := by decide +kernel
theorem dd_AB_append_67 : decode cd_AB_append 67 = .ok (.iadd, 1) := by decide +kernel
theorem dd_AB_append_68 : decode cd_AB_append 68 = .ok (.putfield 79, 3) := by decide +kernel
theorem dd_AB_append_71 : decode cd_AB_append 71 = .ok (.iload_n 1, 1) := by decide +kernel
theorem dd_AB_append_72 : decode cd_AB_append 72 = .ok (.invokestatic 197, 3) := by decide +kernel
theorem dd_AB_append_75 : decode cd_AB_append 75 = .ok (.aload_n 0, 1) := by decide +kernel
theorem dd_AB_append_76 : decode cd_AB_append 76 = .ok (.areturn, 1) := by decide +kernel
theorem dd_AB_ensureCapacityInternal_0 : decode cd_AB_ensureCapacityInternal 0 = .ok (.aload_n 0, 1) := by decide +kernel
theorem dd_AB_ensureCapacityInternal_1 : decode cd_AB_ensureCapacityInternal 1 = .ok (.getfield 15, 3) := by decide +kernel
theorem dd_AB_ensureCapacityInternal_4 : decode cd_AB_ensureCapacityInternal 4 = .ok (.arraylength, 1) := by decide +kernel
theorem dd_AB_ensureCapacityInternal_5 : decode cd_AB_ensureCapacityInternal 5 = .ok (.aload_n 0, 1) := by decide +kernel
theorem dd_AB_ensureCapacityInternal_6 : decode cd_AB_ensureCapacityInternal 6 = .ok (.getfield 22, 3) := by decide +kernel
theorem dd_AB_ensureCapacityInternal_9 : decode cd_AB_ensureCapacityInternal 9 = .ok (.ishr, 1) := by decide +kernel
theorem dd_AB_ensureCapacityInternal_10 : decode cd_AB_ensureCapacityInternal 10 = .ok (.istore_n 2, 1) := by decide +kernel
theorem dd_AB_ensureCapacityInternal_11 : decode cd_AB_ensureCapacityInternal 11 = .ok (.iload_n 1, 1) := by decide +kernel
theorem dd_AB_ensureCapacityInternal_12 : decode cd_AB_ensureCapacityInternal 12 = .ok (.iload_n 2, 1) := by decide +kernel
theorem dd_AB_ensureCapacityInternal_13 : decode cd_AB_ensureCapacityInternal 13 = .ok (.isub, 1) := by decide +kernel
theorem dd_AB_ensureCapacityInternal_14 : decode cd_AB_ensureCapacityInternal 14 = .ok (.ifCond .le 24, 3) := by decide +kernel
theorem dd_AB_ensureCapacityInternal_17 : decode cd_AB_ensureCapacityInternal 17 = .ok (.aload_n 0, 1) := by decide +kernel
theorem dd_AB_ensureCapacityInternal_18 : decode cd_AB_ensureCapacityInternal 18 = .ok (.aload_n 0, 1) := by decide +kernel
theorem dd_AB_ensureCapacityInternal_19 : decode cd_AB_ensureCapacityInternal 19 = .ok (.getfield 15, 3) := by decide +kernel
theorem dd_AB_ensureCapacityInternal_22 : decode cd_AB_ensureCapacityInternal 22 = .ok (.aload_n 0, 1) := by decide +kernel
theorem dd_AB_ensureCapacityInternal_23 : decode cd_AB_ensureCapacityInternal 23 = .ok (.iload_n 1, 1) := by decide +kernel
theorem dd_AB_ensureCapacityInternal_24 : decode cd_AB_ensureCapacityInternal 24 = .ok (.invokevirtual 104, 3) := by decide +kernel
theorem dd_AB_ensureCapacityInternal_27 : decode cd_AB_ensureCapacityInternal 27 = .ok (.aload_n 0, 1) := by decide +kernel
theorem dd_AB_ensureCapacityInternal_28 : decode cd_AB_ensureCapacityInternal 28 = .ok (.getfield 22, 3) := by decide +kernel
theorem dd_AB_ensureCapacityInternal_31 : decode cd_AB_ensureCapacityInternal 31 = .ok (.ishl, 1) := by decide +kernel
theorem dd_AB_ensureCapacityInternal_32 : decode cd_AB_ensureCapacityInternal 32 = .ok (.invokestatic 108, 3) := by decide +kernel
theorem dd_AB_ensureCapacityInternal_35 : decode cd_AB_ensureCapacityInternal 35 = .ok (.putfield 15, 3) := by decide +kernel
theorem dd_AB_ensureCapacityInternal_38 : decode cd_AB_ensureCapacityInternal 38 = .ok (.return_, 1) := by decide +kernel
theorem dd_AB_newCapacity_0 : decode cd_AB_newCapacity 0 = .ok (.aload_n 0, 1) := by decide +kernel
theorem dd_AB_newCapacity_1 : decode cd_AB_newCapacity 1 = .ok (.getfield 15, 3) := by decide +kernel
theorem dd_AB_newCapacity_4 : decode cd_AB_newCapacity 4 = .ok (.arraylength, 1) := by decide +kernel
theorem dd_AB_newCapacity_5 : decode cd_AB_newCapacity 5 = .ok (.istore_n 2, 1) := by decide +kernel
theorem dd_AB_newCapacity_6 : decode cd_AB_newCapacity 6 = .ok (.iload_n 1, 1) := by decide +kernel
theorem dd_AB_newCapacity_7 : decode cd_AB_newCapacity 7 = .ok (.aload_n 0, 1) := by decide +kernel
theorem dd_AB_newCapacity_8 : decode cd_AB_newCapacity 8 = .ok (.getfield 22, 3) := by decide +kernel
theorem dd_AB_newCapacity_11 : decode cd_AB_newCapacity 11 = .ok (.ishl, 1) := by decide +kernel
theorem dd_AB_newCapacity_12 : decode cd_AB_newCapacity 12 = .ok (.istore_n 3, 1) := by decide +kernel
theorem dd_AB_newCapacity_13 : decode cd_AB_newCapacity 13 = .ok (.iload_n 3, 1) := by decide +kernel
theorem dd_AB_newCapacity_14 : decode cd_AB_newCapacity 14 = .ok (.iload_n 2, 1) := by decide +kernel
theorem dd_AB_newCapacity_15 : decode cd_AB_newCapacity 15 = .ok (.isub, 1) := by decide +kernel
theorem dd_AB_newCapacity_16 : decode cd_AB_newCapacity 16 = .ok (.istore 4, 2) := by decide +kernel
theorem dd_AB_newCapacity_18 : decode cd_AB_newCapacity 18 = .ok (.iload_n 2, 1) := by decide +kernel
theorem dd_AB_newCapacity_19 : decode cd_AB_newCapacity 19 = .ok (.iload 4, 2) := by decide +kernel
theorem dd_AB_newCapacity_21 : decode cd_AB_newCapacity 21 = .ok (.iload_n 2, 1) := by decide +kernel
theorem dd_AB_newCapacity_22 : decode cd_AB_newCapacity 22 = .ok (.iconst 2, 1) := by decide +kernel
theorem dd_AB_newCapacity_23 : decode cd_AB_newCapacity 23 = .ok (.aload_n 0, 1) := by decide +kernel
theorem dd_AB_newCapacity_24 : decode cd_AB_newCapacity 24 = .ok (.getfield 22, 3) := by decide +kernel
theorem dd_AB_newCapacity_27 : decode cd_AB_newCapacity 27 = .ok (.ishl, 1) := by decide +kernel
theorem dd_AB_newCapacity_28 : decode cd_AB_newCapacity 28 = .ok (.iadd, 1) := by decide +kernel
theorem dd_AB_newCapacity_29 : decode cd_AB_newCapacity 29 = .ok (.invokestatic 114, 3) := by decide +kernel
theorem dd_AB_newCapacity_32 : decode cd_AB_newCapacity 32 = .ok (.istore 5, 2) := by decide +kernel
theorem dd_AB_newCapacity_34 : decode cd_AB_newCapacity 34 = .ok (.iload 5, 2) := by decide +kernel
theorem dd_AB_newCapacity_36 : decode cd_AB_newCapacity 36 = .ok (.ldc 39, 2) := by decide +kernel
theorem dd_AB_newCapacity_38 : decode cd_AB_newCapacity 38 = .ok (.if_icmp .ne 13, 3) := by decide +kernel
theorem dd_AB_newCapacity_41 : decode cd_AB_newCapacity 41 = .ok (.new 120, 3) := by decide +kernel
theorem dd_AB_newCapacity_44 : decode cd_AB_newCapacity 44 = .ok (.dup, 1) := by decide +kernel
theorem dd_AB_newCapacity_45 : decode cd_AB_newCapacity 45 = .ok (.ldc 122, 2) := by decide +kernel
theorem dd_AB_newCapacity_47 : decode cd_AB_newCapacity 47 = .ok (.invokespecial 124, 3) := by decide +kernel
theorem dd_AB_newCapacity_50 : decode cd_AB_newCapacity 50 = .ok (.athrow, 1) := by decide +kernel
theorem dd_AB_newCapacity_51 : decode cd_AB_newCapacity 51 = .ok (.iload 5, 2) := by decide +kernel
theorem dd_AB_newCapacity_53 : decode cd_AB_newCapacity 53 = .ok (.aload_n 0, 1) := by decide +kernel
theorem dd_AB_newCapacity_54 : decode cd_AB_newCapacity 54 = .ok (.getfield 22, 3) := by decide +kernel
theorem dd_AB_newCapacity_57 : decode cd_AB_newCapacity 57 = .ok (.ishr, 1) := by decide +kernel
theorem dd_AB_newCapacity_58 : decode cd_AB_newCapacity 58 = .ok (.ireturn, 1) := by decide +kernel
theorem dd_AS_newLength_0 : decode cd_AS_newLength 0 = .ok (.iload_n 0, 1) := by decide +kernel
theorem dd_AS_newLength_1 : decode cd_AS_newLength 1 = .ok (.iload_n 1, 1) := by decide +kernel
theorem dd_AS_newLength_2 : decode cd_AS_newLength 2 = .ok (.iload_n 2, 1) := by decide +kernel
theorem dd_AS_newLength_3 : decode cd_AS_newLength 3 = .ok (.invokestatic 194, 3) := by decide +kernel
theorem dd_AS_newLength_6 : decode cd_AS_newLength 6 = .ok (.iadd, 1) := by decide +kernel
theorem dd_AS_newLength_7 : decode cd_AS_newLength 7 = .ok (.istore_n 3, 1) := by decide +kernel
theorem dd_AS_newLength_8 : decode cd_AS_newLength 8 = .ok (.iconst 0, 1) := by decide +kernel
theorem dd_AS_newLength_9 : decode cd_AS_newLength 9 = .ok (.iload_n 3, 1) := by decide +kernel
theorem dd_AS_newLength_10 : decode cd_AS_newLength 10 = .ok (.if_icmp .ge 11, 3) := by decide +kernel
theorem dd_AS_newLength_13 : decode cd_AS_newLength 13 = .ok (.iload_n 3, 1) := by decide +kernel
theorem dd_AS_newLength_14 : decode cd_AS_newLength 14 = .ok (.ldc 200, 2) := by decide +kernel
theorem dd_AS_newLength_16 : decode cd_AS_newLength 16 = .ok (.if_icmp .gt 5, 3) := by decide +kernel
theorem dd_AS_newLength_19 : decode cd_AS_newLength 19 = .ok (.iload_n 3, 1) := by decide +kernel
theorem dd_AS_newLength_20 : decode cd_AS_newLength 20 = .ok (.ireturn, 1) := by decide +kernel
theorem dd_AS_newLength_21 : decode cd_AS_newLength 21 = .ok (.iload_n 0, 1) := by decide +kernel
theorem dd_AS_newLength_22 : decode cd_AS_newLength 22 = .ok (.iload_n 1, 1) := by decide +kernel
theorem dd_AS_newLength_23 : decode cd_AS_newLength 23 = .ok (.invokestatic 201, 3) := by decide +kernel
theorem dd_AS_newLength_26 : decode cd_AS_newLength 26 = .ok (.ireturn, 1) := by decide +kernel
theorem dd_AB_isLatin1_0 : decode cd_AB_isLatin1 0 = .ok (.getstatic 18, 3) := by decide +kernel
theorem dd_AB_isLatin1_3 : decode cd_AB_isLatin1 3 = .ok (.ifCond .eq 14, 3) := by decide +kernel
theorem dd_AB_isLatin1_6 : decode cd_AB_isLatin1 6 = .ok (.aload_n 0, 1) := by decide +kernel
theorem dd_AB_isLatin1_7 : decode cd_AB_isLatin1 7 = .ok (.getfield 22, 3) := by decide +kernel
theorem dd_AB_isLatin1_10 : decode cd_AB_isLatin1 10 = .ok (.ifCond .ne 7, 3) := by decide +kernel
theorem dd_AB_isLatin1_13 : decode cd_AB_isLatin1 13 = .ok (.iconst 1, 1) := by decide +kernel
theorem dd_AB_isLatin1_14 : decode cd_AB_isLatin1 14 = .ok (.goto 4, 3) := by decide +kernel
theorem dd_AB_isLatin1_17 : decode cd_AB_isLatin1 17 = .ok (.iconst 0, 1) := by decide +kernel
theorem dd_AB_isLatin1_18 : decode cd_AB_isLatin1 18 = .ok (.ireturn, 1) := by decide +kernel
theorem dd_SL_canEncode_0 : decode cd_SL_canEncode 0 = .ok (.iload_n 0, 1) := by decide +kernel
theorem dd_SL_canEncode_1 : decode cd_SL_canEncode 1 = .ok (.sipush 255, 3) := by decide +kernel
theorem dd_SL_canEncode_4 : decode cd_SL_canEncode 4 = .ok (.if_icmp .gt 7, 3) := by decide +kernel
theorem dd_SL_canEncode_7 : decode cd_SL_canEncode 7 = .ok (.iconst 1, 1) := by decide +kernel
theorem dd_SL_canEncode_8 : decode cd_SL_canEncode 8 = .ok (.goto 4, 3) := by decide +kernel
theorem dd_SL_canEncode_11 : decode cd_SL_canEncode 11 = .ok (.iconst 0, 1) := by decide +kernel
theorem dd_SL_canEncode_12 : decode cd_SL_canEncode 12 = .ok (.ireturn, 1) := by decide +kernel
theorem dd_AR_copyOf0_0 : decode cd_AR_copyOf0 0 = .ok (.iload_n 1, 1) := by decide +kernel
theorem dd_AR_copyOf0_1 : decode cd_AR_copyOf0 1 = .ok (.aload_n 0, 1) := by decide +kernel
theorem dd_AR_copyOf0_2 : decode cd_AR_copyOf0 2 = .ok (.arraylength, 1) := by decide +kernel
theorem dd_AR_copyOf0_3 : decode cd_AR_copyOf0 3 = .ok (.if_icmp .ne 11, 3) := by decide +kernel
theorem dd_AR_copyOf0_6 : decode cd_AR_copyOf0 6 = .ok (.aload_n 0, 1) := by decide +kernel
theorem dd_AR_copyOf0_7 : decode cd_AR_copyOf0 7 = .ok (.invokevirtual 310, 3) := by decide +kernel
theorem dd_AR_copyOf0_10 : decode cd_AR_copyOf0 10 = .ok (.checkcast 311, 3) := by decide +kernel
theorem dd_AR_copyOf0_13 : decode cd_AR_copyOf0 13 = .ok (.areturn, 1) := by decide +kernel
theorem dd_AR_copyOf0_14 : decode cd_AR_copyOf0 14 = .ok (.iload_n 1, 1) := by decide +kernel
theorem dd_AR_copyOf0_15 : decode cd_AR_copyOf0 15 = .ok (.newarray .byte, 2) := by decide +kernel
theorem dd_AR_copyOf0_17 : decode cd_AR_copyOf0 17 = .ok (.astore_n 2, 1) := by decide +kernel
theorem dd_AR_copyOf0_18 : decode cd_AR_copyOf0 18 = .ok (.aload_n 0, 1) := by decide +kernel
theorem dd_AR_copyOf0_19 : decode cd_AR_copyOf0 19 = .ok (.iconst 0, 1) := by decide +kernel
theorem dd_AR_copyOf0_20 : decode cd_AR_copyOf0 20 = .ok (.aload_n 2, 1) := by decide +kernel
theorem dd_AR_copyOf0_21 : decode cd_AR_copyOf0 21 = .ok (.iconst 0, 1) := by decide +kernel
theorem dd_AR_copyOf0_22 : decode cd_AR_copyOf0 22 = .ok (.aload_n 0, 1) := by decide +kernel
theorem dd_AR_copyOf0_23 : decode cd_AR_copyOf0 23 = .ok (.arraylength, 1) := by decide +kernel
theorem dd_AR_copyOf0_24 : decode cd_AR_copyOf0 24 = .ok (.iload_n 1, 1) := by decide +kernel
theorem dd_AR_copyOf0_25 : decode cd_AR_copyOf0 25 = .ok (.invokestatic 304, 3) := by decide +kernel
theorem dd_AR_copyOf0_28 : decode cd_AR_copyOf0 28 = .ok (.invokestatic 150, 3) := by decide +kernel
theorem dd_AR_copyOf0_31 : decode cd_AR_copyOf0 31 = .ok (.aload_n 2, 1) := by decide +kernel
theorem dd_AR_copyOf0_32 : decode cd_AR_copyOf0 32 = .ok (.areturn, 1) := by decide +kernel
