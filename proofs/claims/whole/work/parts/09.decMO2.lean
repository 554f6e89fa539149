theorem d_MO_turn_0 : decode (xcode m_MO_turn) 0 = .ok (.iload_n 2, 1) := by decide +kernel
theorem d_MO_turn_1 : decode (xcode m_MO_turn) 1 = .ok (.invokestatic 42, 3) := by decide +kernel
theorem d_MO_turn_4 : decode (xcode m_MO_turn) 4 = .ok (.ifCond .eq 19, 3) := by decide +kernel
theorem d_MO_turn_7 : decode (xcode m_MO_turn) 7 = .ok (.iload_n 3, 1) := by decide +kernel
theorem d_MO_turn_8 : decode (xcode m_MO_turn) 8 = .ok (.invokestatic 42, 3) := by decide +kernel
theorem d_MO_turn_11 : decode (xcode m_MO_turn) 11 = .ok (.ifCond .eq 12, 3) := by decide +kernel
theorem d_MO_turn_14 : decode (xcode m_MO_turn) 14 = .ok (.iload_n 1, 1) := by decide +kernel
theorem d_MO_turn_15 : decode (xcode m_MO_turn) 15 = .ok (.ifCond .lt 8, 3) := by decide +kernel
theorem d_MO_turn_18 : decode (xcode m_MO_turn) 18 = .ok (.iload_n 1, 1) := by decide +kernel
theorem d_MO_turn_19 : decode (xcode m_MO_turn) 19 = .ok (.iconst 4, 1) := by decide +kernel
theorem d_MO_turn_20 : decode (xcode m_MO_turn) 20 = .ok (.if_icmp .le 5, 3) := by decide +kernel
theorem d_MO_turn_23 : decode (xcode m_MO_turn) 23 = .ok (.iconst (-1), 1) := by decide +kernel
theorem d_MO_turn_24 : decode (xcode m_MO_turn) 24 = .ok (.ireturn, 1) := by decide +kernel
theorem d_MO_turn_25 : decode (xcode m_MO_turn) 25 = .ok (.aload_n 0, 1) := by decide +kernel
theorem d_MO_turn_26 : decode (xcode m_MO_turn) 26 = .ok (.iconst 0, 1) := by decide +kernel
theorem d_MO_turn_27 : decode (xcode m_MO_turn) 27 = .ok (.putfield 50, 3) := by decide +kernel
theorem d_MO_turn_30 : decode (xcode m_MO_turn) 30 = .ok (.aload_n 0, 1) := by decide +kernel
theorem d_MO_turn_31 : decode (xcode m_MO_turn) 31 = .ok (.getfield 16, 3) := by decide +kernel
theorem d_MO_turn_34 : decode (xcode m_MO_turn) 34 = .ok (.iload_n 2, 1) := by decide +kernel
theorem d_MO_turn_35 : decode (xcode m_MO_turn) 35 = .ok (.iaload, 1) := by decide +kernel
theorem d_MO_turn_36 : decode (xcode m_MO_turn) 36 = .ok (.istore 4, 2) := by decide +kernel
theorem d_MO_turn_38 : decode (xcode m_MO_turn) 38 = .ok (.iconst 0, 1) := by decide +kernel
theorem d_MO_turn_39 : decode (xcode m_MO_turn) 39 = .ok (.istore 5, 2) := by decide +kernel
theorem d_MO_turn_41 : decode (xcode m_MO_turn) 41 = .ok (.iload 5, 2) := by decide +kernel
theorem d_MO_turn_43 : decode (xcode m_MO_turn) 43 = .ok (.sipush 256, 3) := by decide +kernel
theorem d_MO_turn_46 : decode (xcode m_MO_turn) 46 = .ok (.if_icmp .ge 17, 3) := by decide +kernel
theorem d_MO_turn_49 : decode (xcode m_MO_turn) 49 = .ok (.aload_n 0, 1) := by decide +kernel
theorem d_MO_turn_50 : decode (xcode m_MO_turn) 50 = .ok (.getfield 22, 3) := by decide +kernel
theorem d_MO_turn_53 : decode (xcode m_MO_turn) 53 = .ok (.iload 5, 2) := by decide +kernel
theorem d_MO_turn_55 : decode (xcode m_MO_turn) 55 = .ok (.iconst 0, 1) := by decide +kernel
theorem d_MO_turn_56 : decode (xcode m_MO_turn) 56 = .ok (.iastore, 1) := by decide +kernel
theorem d_MO_turn_57 : decode (xcode m_MO_turn) 57 = .ok (.iinc 5 1, 3) := by decide +kernel
theorem d_MO_turn_60 : decode (xcode m_MO_turn) 60 = .ok (.goto (-19), 3) := by decide +kernel
theorem d_MO_turn_63 : decode (xcode m_MO_turn) 63 = .ok (.iconst 0, 1) := by decide +kernel
theorem d_MO_turn_64 : decode (xcode m_MO_turn) 64 = .ok (.istore 5, 2) := by decide +kernel
theorem d_MO_turn_66 : decode (xcode m_MO_turn) 66 = .ok (.iload 5, 2) := by decide +kernel
theorem d_MO_turn_68 : decode (xcode m_MO_turn) 68 = .ok (.iload 4, 2) := by decide +kernel
theorem d_MO_turn_70 : decode (xcode m_MO_turn) 70 = .ok (.if_icmp .ge 108, 3) := by decide +kernel
theorem d_MO_turn_73 : decode (xcode m_MO_turn) 73 = .ok (.aload_n 0, 1) := by decide +kernel
theorem d_MO_turn_74 : decode (xcode m_MO_turn) 74 = .ok (.iload_n 2, 1) := by decide +kernel
theorem d_MO_turn_75 : decode (xcode m_MO_turn) 75 = .ok (.iload 5, 2) := by decide +kernel
theorem d_MO_turn_77 : decode (xcode m_MO_turn) 77 = .ok (.invokevirtual 46, 3) := by decide +kernel
theorem d_MO_turn_80 : decode (xcode m_MO_turn) 80 = .ok (.istore 6, 2) := by decide +kernel
theorem d_MO_turn_82 : decode (xcode m_MO_turn) 82 = .ok (.aload_n 0, 1) := by decide +kernel
theorem d_MO_turn_83 : decode (xcode m_MO_turn) 83 = .ok (.getfield 22, 3) := by decide +kernel
theorem d_MO_turn_86 : decode (xcode m_MO_turn) 86 = .ok (.iload 6, 2) := by decide +kernel
theorem d_MO_turn_88 : decode (xcode m_MO_turn) 88 = .ok (.dup2, 1) := by decide +kernel
theorem d_MO_turn_89 : decode (xcode m_MO_turn) 89 = .ok (.iaload, 1) := by decide +kernel
theorem d_MO_turn_90 : decode (xcode m_MO_turn) 90 = .ok (.iconst 1, 1) := by decide +kernel
theorem d_MO_turn_91 : decode (xcode m_MO_turn) 91 = .ok (.iadd, 1) := by decide +kernel
theorem d_MO_turn_92 : decode (xcode m_MO_turn) 92 = .ok (.iastore, 1) := by decide +kernel
theorem d_MO_turn_93 : decode (xcode m_MO_turn) 93 = .ok (.iload_n 1, 1) := by decide +kernel
theorem d_MO_turn_94 : decode (xcode m_MO_turn) 94 = .ok (.ifCond .ne 22, 3) := by decide +kernel
theorem d_MO_turn_97 : decode (xcode m_MO_turn) 97 = .ok (.aload_n 0, 1) := by decide +kernel
theorem d_MO_turn_98 : decode (xcode m_MO_turn) 98 = .ok (.aload_n 0, 1) := by decide +kernel
theorem d_MO_turn_99 : decode (xcode m_MO_turn) 99 = .ok (.iload_n 2, 1) := by decide +kernel
theorem d_MO_turn_100 : decode (xcode m_MO_turn) 100 = .ok (.iload 4, 2) := by decide +kernel
theorem d_MO_turn_102 : decode (xcode m_MO_turn) 102 = .ok (.iconst 1, 1) := by decide +kernel
theorem d_MO_turn_103 : decode (xcode m_MO_turn) 103 = .ok (.isub, 1) := by decide +kernel
theorem d_MO_turn_104 : decode (xcode m_MO_turn) 104 = .ok (.iload 5, 2) := by decide +kernel
theorem d_MO_turn_106 : decode (xcode m_MO_turn) 106 = .ok (.isub, 1) := by decide +kernel
theorem d_MO_turn_107 : decode (xcode m_MO_turn) 107 = .ok (.invokevirtual 46, 3) := by decide +kernel
theorem d_MO_turn_110 : decode (xcode m_MO_turn) 110 = .ok (.invokevirtual 53, 3) := by decide +kernel
theorem d_MO_turn_113 : decode (xcode m_MO_turn) 113 = .ok (.goto 59, 3) := by decide +kernel
theorem d_MO_turn_116 : decode (xcode m_MO_turn) 116 = .ok (.iload_n 1, 1) := by decide +kernel
theorem d_MO_turn_117 : decode (xcode m_MO_turn) 117 = .ok (.iconst 1, 1) := by decide +kernel
theorem d_MO_turn_118 : decode (xcode m_MO_turn) 118 = .ok (.if_icmp .ne 15, 3) := by decide +kernel
theorem d_MO_turn_121 : decode (xcode m_MO_turn) 121 = .ok (.aload_n 0, 1) := by decide +kernel
theorem d_MO_turn_122 : decode (xcode m_MO_turn) 122 = .ok (.iload 6, 2) := by decide +kernel
theorem d_MO_turn_124 : decode (xcode m_MO_turn) 124 = .ok (.invokestatic 73, 3) := by decide +kernel
theorem d_MO_turn_127 : decode (xcode m_MO_turn) 127 = .ok (.invokevirtual 53, 3) := by decide +kernel
theorem d_MO_turn_130 : decode (xcode m_MO_turn) 130 = .ok (.goto 42, 3) := by decide +kernel
theorem d_MO_turn_133 : decode (xcode m_MO_turn) 133 = .ok (.iload_n 1, 1) := by decide +kernel
theorem d_MO_turn_134 : decode (xcode m_MO_turn) 134 = .ok (.iconst 2, 1) := by decide +kernel
theorem d_MO_turn_135 : decode (xcode m_MO_turn) 135 = .ok (.if_icmp .ne 15, 3) := by decide +kernel
theorem d_MO_turn_138 : decode (xcode m_MO_turn) 138 = .ok (.aload_n 0, 1) := by decide +kernel
theorem d_MO_turn_139 : decode (xcode m_MO_turn) 139 = .ok (.iload 6, 2) := by decide +kernel
theorem d_MO_turn_141 : decode (xcode m_MO_turn) 141 = .ok (.invokestatic 76, 3) := by decide +kernel
theorem d_MO_turn_144 : decode (xcode m_MO_turn) 144 = .ok (.invokevirtual 53, 3) := by decide +kernel
theorem d_MO_turn_147 : decode (xcode m_MO_turn) 147 = .ok (.goto 25, 3) := by decide +kernel
theorem d_MO_turn_150 : decode (xcode m_MO_turn) 150 = .ok (.iload_n 1, 1) := by decide +kernel
theorem d_MO_turn_151 : decode (xcode m_MO_turn) 151 = .ok (.iconst 4, 1) := by decide +kernel
theorem d_MO_turn_152 : decode (xcode m_MO_turn) 152 = .ok (.if_icmp .ne 20, 3) := by decide +kernel
theorem d_MO_turn_155 : decode (xcode m_MO_turn) 155 = .ok (.aload_n 0, 1) := by decide +kernel
theorem d_MO_turn_156 : decode (xcode m_MO_turn) 156 = .ok (.getfield 22, 3) := by decide +kernel
theorem d_MO_turn_159 : decode (xcode m_MO_turn) 159 = .ok (.iload 6, 2) := by decide +kernel
theorem d_MO_turn_161 : decode (xcode m_MO_turn) 161 = .ok (.iaload, 1) := by decide +kernel
theorem d_MO_turn_162 : decode (xcode m_MO_turn) 162 = .ok (.iconst 1, 1) := by decide +kernel
theorem d_MO_turn_163 : decode (xcode m_MO_turn) 163 = .ok (.if_icmp .ne 9, 3) := by decide +kernel
theorem d_MO_turn_166 : decode (xcode m_MO_turn) 166 = .ok (.aload_n 0, 1) := by decide +kernel
theorem d_MO_turn_167 : decode (xcode m_MO_turn) 167 = .ok (.iload 6, 2) := by decide +kernel
theorem d_MO_turn_169 : decode (xcode m_MO_turn) 169 = .ok (.invokevirtual 53, 3) := by decide +kernel
theorem d_MO_turn_172 : decode (xcode m_MO_turn) 172 = .ok (.iinc 5 1, 3) := by decide +kernel
theorem d_MO_turn_175 : decode (xcode m_MO_turn) 175 = .ok (.goto (-109), 3) := by decide +kernel
theorem d_MO_turn_178 : decode (xcode m_MO_turn) 178 = .ok (.iconst 0, 1) := by decide +kernel
theorem d_MO_turn_179 : decode (xcode m_MO_turn) 179 = .ok (.istore 5, 2) := by decide +kernel
theorem d_MO_turn_181 : decode (xcode m_MO_turn) 181 = .ok (.iload 5, 2) := by decide +kernel
theorem d_MO_turn_183 : decode (xcode m_MO_turn) 183 = .ok (.sipush 256, 3) := by decide +kernel
theorem d_MO_turn_186 : decode (xcode m_MO_turn) 186 = .ok (.if_icmp .ge 41, 3) := by decide +kernel
theorem d_MO_turn_189 : decode (xcode m_MO_turn) 189 = .ok (.iload_n 1, 1) := by decide +kernel
theorem d_MO_turn_190 : decode (xcode m_MO_turn) 190 = .ok (.iconst 3, 1) := by decide +kernel
theorem d_MO_turn_191 : decode (xcode m_MO_turn) 191 = .ok (.if_icmp .ne 36, 3) := by decide +kernel
theorem d_MO_turn_194 : decode (xcode m_MO_turn) 194 = .ok (.iconst 0, 1) := by decide +kernel
theorem d_MO_turn_195 : decode (xcode m_MO_turn) 195 = .ok (.istore 6, 2) := by decide +kernel
theorem d_MO_turn_197 : decode (xcode m_MO_turn) 197 = .ok (.iload 6, 2) := by decide +kernel
theorem d_MO_turn_199 : decode (xcode m_MO_turn) 199 = .ok (.aload_n 0, 1) := by decide +kernel
theorem d_MO_turn_200 : decode (xcode m_MO_turn) 200 = .ok (.getfield 22, 3) := by decide +kernel
theorem d_MO_turn_203 : decode (xcode m_MO_turn) 203 = .ok (.iload 5, 2) := by decide +kernel
theorem d_MO_turn_205 : decode (xcode m_MO_turn) 205 = .ok (.iaload, 1) := by decide +kernel
theorem d_MO_turn_206 : decode (xcode m_MO_turn) 206 = .ok (.if_icmp .ge 15, 3) := by decide +kernel
theorem d_MO_turn_209 : decode (xcode m_MO_turn) 209 = .ok (.aload_n 0, 1) := by decide +kernel
theorem d_MO_turn_210 : decode (xcode m_MO_turn) 210 = .ok (.iload 5, 2) := by decide +kernel
theorem d_MO_turn_212 : decode (xcode m_MO_turn) 212 = .ok (.invokevirtual 53, 3) := by decide +kernel
theorem d_MO_turn_215 : decode (xcode m_MO_turn) 215 = .ok (.iinc 6 1, 3) := by decide +kernel
theorem d_MO_turn_218 : decode (xcode m_MO_turn) 218 = .ok (.goto (-21), 3) := by decide +kernel
theorem d_MO_turn_221 : decode (xcode m_MO_turn) 221 = .ok (.iinc 5 1, 3) := by decide +kernel
theorem d_MO_turn_224 : decode (xcode m_MO_turn) 224 = .ok (.goto (-43), 3) := by decide +kernel
theorem d_MO_turn_227 : decode (xcode m_MO_turn) 227 = .ok (.aload_n 0, 1) := by decide +kernel
theorem d_MO_turn_228 : decode (xcode m_MO_turn) 228 = .ok (.iload_n 3, 1) := by decide +kernel
theorem d_MO_turn_229 : decode (xcode m_MO_turn) 229 = .ok (.invokevirtual 64, 3) := by decide +kernel
theorem d_MO_turn_232 : decode (xcode m_MO_turn) 232 = .ok (.ireturn, 1) := by decide +kernel
theorem d_MO_large_0 : decode (xcode m_MO_large) 0 = .ok (.iload_n 0, 1) := by decide +kernel
theorem d_MO_large_1 : decode (xcode m_MO_large) 1 = .ok (.bipush 97, 2) := by decide +kernel
theorem d_MO_large_3 : decode (xcode m_MO_large) 3 = .ok (.if_icmp .lt 16, 3) := by decide +kernel
theorem d_MO_large_6 : decode (xcode m_MO_large) 6 = .ok (.iload_n 0, 1) := by decide +kernel
theorem d_MO_large_7 : decode (xcode m_MO_large) 7 = .ok (.bipush 122, 2) := by decide +kernel
theorem d_MO_large_9 : decode (xcode m_MO_large) 9 = .ok (.if_icmp .gt 10, 3) := by decide +kernel
theorem d_MO_large_12 : decode (xcode m_MO_large) 12 = .ok (.iload_n 0, 1) := by decide +kernel
theorem d_MO_large_13 : decode (xcode m_MO_large) 13 = .ok (.bipush 32, 2) := by decide +kernel
theorem d_MO_large_15 : decode (xcode m_MO_large) 15 = .ok (.isub, 1) := by decide +kernel
theorem d_MO_large_16 : decode (xcode m_MO_large) 16 = .ok (.goto 4, 3) := by decide +kernel
theorem d_MO_large_19 : decode (xcode m_MO_large) 19 = .ok (.iload_n 0, 1) := by decide +kernel
theorem d_MO_large_20 : decode (xcode m_MO_large) 20 = .ok (.ireturn, 1) := by decide +kernel
theorem d_MO_small_0 : decode (xcode m_MO_small) 0 = .ok (.iload_n 0, 1) := by decide +kernel
theorem d_MO_small_1 : decode (xcode m_MO_small) 1 = .ok (.bipush 65, 2) := by decide +kernel
theorem d_MO_small_3 : decode (xcode m_MO_small) 3 = .ok (.if_icmp .lt 16, 3) := by decide +kernel
theorem d_MO_small_6 : decode (xcode m_MO_small) 6 = .ok (.iload_n 0, 1) := by decide +kernel
theorem d_MO_small_7 : decode (xcode m_MO_small) 7 = .ok (.bipush 90, 2) := by decide +kernel
theorem d_MO_small_9 : decode (xcode m_MO_small) 9 = .ok (.if_icmp .gt 10, 3) := by decide +kernel
theorem d_MO_small_12 : decode (xcode m_MO_small) 12 = .ok (.iload_n 0, 1) := by decide +kernel
theorem d_MO_small_13 : decode (xcode m_MO_small) 13 = .ok (.bipush 32, 2) := by decide +kernel
theorem d_MO_small_15 : decode (xcode m_MO_small) 15 = .ok (.iadd, 1) := by decide +kernel
theorem d_MO_small_16 : decode (xcode m_MO_small) 16 = .ok (.goto 4, 3) := by decide +kernel
theorem d_MO_small_19 : decode (xcode m_MO_small) 19 = .ok (.iload_n 0, 1) := by decide +kernel
theorem d_MO_small_20 : decode (xcode m_MO_small) 20 = .ok (.ireturn, 1) := by decide +kernel
theorem d_MO_translate_0 : decode (xcode m_MO_translate) 0 = .ok (.iload_n 1, 1) := by decide +kernel
theorem d_MO_translate_1 : decode (xcode m_MO_translate) 1 = .ok (.invokestatic 42, 3) := by decide +kernel
theorem d_MO_translate_4 : decode (xcode m_MO_translate) 4 = .ok (.ifCond .eq 25, 3) := by decide +kernel
theorem d_MO_translate_7 : decode (xcode m_MO_translate) 7 = .ok (.iload_n 2, 1) := by decide +kernel
theorem d_MO_translate_8 : decode (xcode m_MO_translate) 8 = .ok (.invokestatic 42, 3) := by decide +kernel
theorem d_MO_translate_11 : decode (xcode m_MO_translate) 11 = .ok (.ifCond .eq 18, 3) := by decide +kernel
theorem d_MO_translate_14 : decode (xcode m_MO_translate) 14 = .ok (.iload_n 3, 1) := by decide +kernel
theorem d_MO_translate_15 : decode (xcode m_MO_translate) 15 = .ok (.invokestatic 42, 3) := by decide +kernel
theorem d_MO_translate_18 : decode (xcode m_MO_translate) 18 = .ok (.ifCond .eq 11, 3) := by decide +kernel
theorem d_MO_translate_21 : decode (xcode m_MO_translate) 21 = .ok (.iload 4, 2) := by decide +kernel
theorem d_MO_translate_23 : decode (xcode m_MO_translate) 23 = .ok (.invokestatic 42, 3) := by decide +kernel
theorem d_MO_translate_26 : decode (xcode m_MO_translate) 26 = .ok (.ifCond .ne 5, 3) := by decide +kernel
theorem d_MO_translate_29 : decode (xcode m_MO_translate) 29 = .ok (.iconst (-1), 1) := by decide +kernel
theorem d_MO_translate_30 : decode (xcode m_MO_translate) 30 = .ok (.ireturn, 1) := by decide +kernel
theorem d_MO_translate_31 : decode (xcode m_MO_translate) 31 = .ok (.aload_n 0, 1) := by decide +kernel
theorem d_MO_translate_32 : decode (xcode m_MO_translate) 32 = .ok (.iconst 0, 1) := by decide +kernel
theorem d_MO_translate_33 : decode (xcode m_MO_translate) 33 = .ok (.putfield 50, 3) := by decide +kernel
theorem d_MO_translate_36 : decode (xcode m_MO_translate) 36 = .ok (.iconst 0, 1) := by decide +kernel
theorem d_MO_translate_37 : decode (xcode m_MO_translate) 37 = .ok (.istore 5, 2) := by decide +kernel
theorem d_MO_translate_39 : decode (xcode m_MO_translate) 39 = .ok (.iload 5, 2) := by decide +kernel
theorem d_MO_translate_41 : decode (xcode m_MO_translate) 41 = .ok (.aload_n 0, 1) := by decide +kernel
theorem d_MO_translate_42 : decode (xcode m_MO_translate) 42 = .ok (.getfield 16, 3) := by decide +kernel
theorem d_MO_translate_45 : decode (xcode m_MO_translate) 45 = .ok (.iload_n 1, 1) := by decide +kernel
theorem d_MO_translate_46 : decode (xcode m_MO_translate) 46 = .ok (.iaload, 1) := by decide +kernel
theorem d_MO_translate_47 : decode (xcode m_MO_translate) 47 = .ok (.if_icmp .ge 73, 3) := by decide +kernel
theorem d_MO_translate_50 : decode (xcode m_MO_translate) 50 = .ok (.aload_n 0, 1) := by decide +kernel
theorem d_MO_translate_51 : decode (xcode m_MO_translate) 51 = .ok (.aload_n 0, 1) := by decide +kernel
theorem d_MO_translate_52 : decode (xcode m_MO_translate) 52 = .ok (.iload_n 1, 1) := by decide +kernel
theorem d_MO_translate_53 : decode (xcode m_MO_translate) 53 = .ok (.iload 5, 2) := by decide +kernel
theorem d_MO_translate_55 : decode (xcode m_MO_translate) 55 = .ok (.invokevirtual 46, 3) := by decide +kernel
theorem d_MO_translate_58 : decode (xcode m_MO_translate) 58 = .ok (.iload_n 3, 1) := by decide +kernel
theorem d_MO_translate_59 : decode (xcode m_MO_translate) 59 = .ok (.invokevirtual 79, 3) := by decide +kernel
theorem d_MO_translate_62 : decode (xcode m_MO_translate) 62 = .ok (.istore 6, 2) := by decide +kernel
theorem d_MO_translate_64 : decode (xcode m_MO_translate) 64 = .ok (.aload_n 0, 1) := by decide +kernel
theorem d_MO_translate_65 : decode (xcode m_MO_translate) 65 = .ok (.iload 6, 2) := by decide +kernel
theorem d_MO_translate_67 : decode (xcode m_MO_translate) 67 = .ok (.aload_n 0, 1) := by decide +kernel
theorem d_MO_translate_68 : decode (xcode m_MO_translate) 68 = .ok (.getfield 16, 3) := by decide +kernel
theorem d_MO_translate_71 : decode (xcode m_MO_translate) 71 = .ok (.iload_n 3, 1) := by decide +kernel
theorem d_MO_translate_72 : decode (xcode m_MO_translate) 72 = .ok (.iaload, 1) := by decide +kernel
theorem d_MO_translate_73 : decode (xcode m_MO_translate) 73 = .ok (.if_icmp .ne 13, 3) := by decide +kernel
theorem d_MO_translate_76 : decode (xcode m_MO_translate) 76 = .ok (.aload_n 0, 1) := by decide +kernel
theorem d_MO_translate_77 : decode (xcode m_MO_translate) 77 = .ok (.iload_n 1, 1) := by decide +kernel
theorem d_MO_translate_78 : decode (xcode m_MO_translate) 78 = .ok (.iload 5, 2) := by decide +kernel
theorem d_MO_translate_80 : decode (xcode m_MO_translate) 80 = .ok (.invokevirtual 46, 3) := by decide +kernel
theorem d_MO_translate_83 : decode (xcode m_MO_translate) 83 = .ok (.goto 28, 3) := by decide +kernel
theorem d_MO_translate_86 : decode (xcode m_MO_translate) 86 = .ok (.iload 6, 2) := by decide +kernel
theorem d_MO_translate_88 : decode (xcode m_MO_translate) 88 = .ok (.aload_n 0, 1) := by decide +kernel
theorem d_MO_translate_89 : decode (xcode m_MO_translate) 89 = .ok (.getfield 16, 3) := by decide +kernel
theorem d_MO_translate_92 : decode (xcode m_MO_translate) 92 = .ok (.iload_n 2, 1) := by decide +kernel
theorem d_MO_translate_93 : decode (xcode m_MO_translate) 93 = .ok (.iaload, 1) := by decide +kernel
theorem d_MO_translate_94 : decode (xcode m_MO_translate) 94 = .ok (.if_icmp .ge 13, 3) := by decide +kernel
theorem d_MO_translate_97 : decode (xcode m_MO_translate) 97 = .ok (.aload_n 0, 1) := by decide +kernel
theorem d_MO_translate_98 : decode (xcode m_MO_translate) 98 = .ok (.iload_n 2, 1) := by decide +kernel
theorem d_MO_translate_99 : decode (xcode m_MO_translate) 99 = .ok (.iload 6, 2) := by decide +kernel
theorem d_MO_translate_101 : decode (xcode m_MO_translate) 101 = .ok (.invokevirtual 46, 3) := by decide +kernel
theorem d_MO_translate_104 : decode (xcode m_MO_translate) 104 = .ok (.goto 7, 3) := by decide +kernel
theorem d_MO_translate_107 : decode (xcode m_MO_translate) 107 = .ok (.aload_n 0, 1) := by decide +kernel
theorem d_MO_translate_108 : decode (xcode m_MO_translate) 108 = .ok (.getfield 25, 3) := by decide +kernel
theorem d_MO_translate_111 : decode (xcode m_MO_translate) 111 = .ok (.invokevirtual 53, 3) := by decide +kernel
theorem d_MO_translate_114 : decode (xcode m_MO_translate) 114 = .ok (.iinc 5 1, 3) := by decide +kernel
theorem d_MO_translate_117 : decode (xcode m_MO_translate) 117 = .ok (.goto (-78), 3) := by decide +kernel
theorem d_MO_translate_120 : decode (xcode m_MO_translate) 120 = .ok (.aload_n 0, 1) := by decide +kernel
theorem d_MO_translate_121 : decode (xcode m_MO_translate) 121 = .ok (.iload 4, 2) := by decide +kernel
theorem d_MO_translate_123 : decode (xcode m_MO_translate) 123 = .ok (.invokevirtual 64, 3) := by decide +kernel
theorem d_MO_translate_126 : decode (xcode m_MO_translate) 126 = .ok (.ireturn, 1) := by decide +kernel
theorem d_MO_placeOf_0 : decode (xcode m_MO_placeOf) 0 = .ok (.iconst 0, 1) := by decide +kernel
theorem d_MO_placeOf_1 : decode (xcode m_MO_placeOf) 1 = .ok (.istore_n 3, 1) := by decide +kernel
theorem d_MO_placeOf_2 : decode (xcode m_MO_placeOf) 2 = .ok (.iload_n 3, 1) := by decide +kernel
theorem d_MO_placeOf_3 : decode (xcode m_MO_placeOf) 3 = .ok (.aload_n 0, 1) := by decide +kernel
theorem d_MO_placeOf_4 : decode (xcode m_MO_placeOf) 4 = .ok (.getfield 16, 3) := by decide +kernel
theorem d_MO_placeOf_7 : decode (xcode m_MO_placeOf) 7 = .ok (.iload_n 2, 1) := by decide +kernel
theorem d_MO_placeOf_8 : decode (xcode m_MO_placeOf) 8 = .ok (.iaload, 1) := by decide +kernel
theorem d_MO_placeOf_9 : decode (xcode m_MO_placeOf) 9 = .ok (.if_icmp .ge 19, 3) := by decide +kernel
theorem d_MO_placeOf_12 : decode (xcode m_MO_placeOf) 12 = .ok (.aload_n 0, 1) := by decide +kernel
theorem d_MO_placeOf_13 : decode (xcode m_MO_placeOf) 13 = .ok (.iload_n 2, 1) := by decide +kernel
theorem d_MO_placeOf_14 : decode (xcode m_MO_placeOf) 14 = .ok (.iload_n 3, 1) := by decide +kernel
theorem d_MO_placeOf_15 : decode (xcode m_MO_placeOf) 15 = .ok (.invokevirtual 46, 3) := by decide +kernel
theorem d_MO_placeOf_18 : decode (xcode m_MO_placeOf) 18 = .ok (.iload_n 1, 1) := by decide +kernel
theorem d_MO_placeOf_19 : decode (xcode m_MO_placeOf) 19 = .ok (.if_icmp .eq 9, 3) := by decide +kernel
theorem d_MO_placeOf_22 : decode (xcode m_MO_placeOf) 22 = .ok (.iinc 3 1, 3) := by decide +kernel
theorem d_MO_placeOf_25 : decode (xcode m_MO_placeOf) 25 = .ok (.goto (-23), 3) := by decide +kernel
theorem d_MO_placeOf_28 : decode (xcode m_MO_placeOf) 28 = .ok (.iload_n 3, 1) := by decide +kernel
theorem d_MO_placeOf_29 : decode (xcode m_MO_placeOf) 29 = .ok (.ireturn, 1) := by decide +kernel
theorem d_MO_verify_0 : decode (xcode m_MO_verify) 0 = .ok (.iload_n 1, 1) := by decide +kernel
theorem d_MO_verify_1 : decode (xcode m_MO_verify) 1 = .ok (.invokestatic 42, 3) := by decide +kernel
theorem d_MO_verify_4 : decode (xcode m_MO_verify) 4 = .ok (.ifCond .eq 15, 3) := by decide +kernel
theorem d_MO_verify_7 : decode (xcode m_MO_verify) 7 = .ok (.iload_n 2, 1) := by decide +kernel
theorem d_MO_verify_8 : decode (xcode m_MO_verify) 8 = .ok (.invokestatic 42, 3) := by decide +kernel
theorem d_MO_verify_11 : decode (xcode m_MO_verify) 11 = .ok (.ifCond .eq 8, 3) := by decide +kernel
theorem d_MO_verify_14 : decode (xcode m_MO_verify) 14 = .ok (.iload_n 3, 1) := by decide +kernel
theorem d_MO_verify_15 : decode (xcode m_MO_verify) 15 = .ok (.iconst 1, 1) := by decide +kernel
theorem d_MO_verify_16 : decode (xcode m_MO_verify) 16 = .ok (.if_icmp .ge 5, 3) := by decide +kernel
theorem d_MO_verify_19 : decode (xcode m_MO_verify) 19 = .ok (.iconst (-1), 1) := by decide +kernel
theorem d_MO_verify_20 : decode (xcode m_MO_verify) 20 = .ok (.ireturn, 1) := by decide +kernel
theorem d_MO_verify_21 : decode (xcode m_MO_verify) 21 = .ok (.iload_n 3, 1) := by decide +kernel
theorem d_MO_verify_22 : decode (xcode m_MO_verify) 22 = .ok (.iconst 1, 1) := by decide +kernel
theorem d_MO_verify_23 : decode (xcode m_MO_verify) 23 = .ok (.isub, 1) := by decide +kernel
theorem d_MO_verify_24 : decode (xcode m_MO_verify) 24 = .ok (.istore 5, 2) := by decide +kernel
theorem d_MO_verify_26 : decode (xcode m_MO_verify) 26 = .ok (.iload 5, 2) := by decide +kernel
theorem d_MO_verify_28 : decode (xcode m_MO_verify) 28 = .ok (.aload_n 0, 1) := by decide +kernel
theorem d_MO_verify_29 : decode (xcode m_MO_verify) 29 = .ok (.getfield 16, 3) := by decide +kernel
theorem d_MO_verify_32 : decode (xcode m_MO_verify) 32 = .ok (.iload_n 1, 1) := by decide +kernel
theorem d_MO_verify_33 : decode (xcode m_MO_verify) 33 = .ok (.iaload, 1) := by decide +kernel
theorem d_MO_verify_34 : decode (xcode m_MO_verify) 34 = .ok (.if_icmp .ge 45, 3) := by decide +kernel
theorem d_MO_verify_37 : decode (xcode m_MO_verify) 37 = .ok (.aload_n 0, 1) := by decide +kernel
theorem d_MO_verify_38 : decode (xcode m_MO_verify) 38 = .ok (.aload_n 0, 1) := by decide +kernel
theorem d_MO_verify_39 : decode (xcode m_MO_verify) 39 = .ok (.iload_n 1, 1) := by decide +kernel
theorem d_MO_verify_40 : decode (xcode m_MO_verify) 40 = .ok (.iload 5, 2) := by decide +kernel
theorem d_MO_verify_42 : decode (xcode m_MO_verify) 42 = .ok (.invokevirtual 46, 3) := by decide +kernel
theorem d_MO_verify_45 : decode (xcode m_MO_verify) 45 = .ok (.iload_n 2, 1) := by decide +kernel
theorem d_MO_verify_46 : decode (xcode m_MO_verify) 46 = .ok (.invokevirtual 79, 3) := by decide +kernel
theorem d_MO_verify_49 : decode (xcode m_MO_verify) 49 = .ok (.aload_n 0, 1) := by decide +kernel
theorem d_MO_verify_50 : decode (xcode m_MO_verify) 50 = .ok (.getfield 16, 3) := by decide +kernel
theorem d_MO_verify_53 : decode (xcode m_MO_verify) 53 = .ok (.iload_n 2, 1) := by decide +kernel
theorem d_MO_verify_54 : decode (xcode m_MO_verify) 54 = .ok (.iaload, 1) := by decide +kernel
theorem d_MO_verify_55 : decode (xcode m_MO_verify) 55 = .ok (.if_icmp .ge 7, 3) := by decide +kernel
theorem d_MO_verify_58 : decode (xcode m_MO_verify) 58 = .ok (.iconst 1, 1) := by decide +kernel
theorem d_MO_verify_59 : decode (xcode m_MO_verify) 59 = .ok (.goto 4, 3) := by decide +kernel
theorem d_MO_verify_62 : decode (xcode m_MO_verify) 62 = .ok (.iconst 0, 1) := by decide +kernel
theorem d_MO_verify_63 : decode (xcode m_MO_verify) 63 = .ok (.iload 4, 2) := by decide +kernel
theorem d_MO_verify_65 : decode (xcode m_MO_verify) 65 = .ok (.if_icmp .eq 8, 3) := by decide +kernel
theorem d_MO_verify_68 : decode (xcode m_MO_verify) 68 = .ok (.iload 5, 2) := by decide +kernel
theorem d_MO_verify_70 : decode (xcode m_MO_verify) 70 = .ok (.iconst 1, 1) := by decide +kernel
theorem d_MO_verify_71 : decode (xcode m_MO_verify) 71 = .ok (.iadd, 1) := by decide +kernel
theorem d_MO_verify_72 : decode (xcode m_MO_verify) 72 = .ok (.ireturn, 1) := by decide +kernel
theorem d_MO_verify_73 : decode (xcode m_MO_verify) 73 = .ok (.iinc 5 1, 3) := by decide +kernel
theorem d_MO_verify_76 : decode (xcode m_MO_verify) 76 = .ok (.goto (-50), 3) := by decide +kernel
theorem d_MO_verify_79 : decode (xcode m_MO_verify) 79 = .ok (.iconst 0, 1) := by decide +kernel
theorem d_MO_verify_80 : decode (xcode m_MO_verify) 80 = .ok (.ireturn, 1) := by decide +kernel
theorem d_MO_space_0 : decode (xcode m_MO_space) 0 = .ok (.iload_n 1, 1) := by decide +kernel
theorem d_MO_space_1 : decode (xcode m_MO_space) 1 = .ok (.invokestatic 42, 3) := by decide +kernel
theorem d_MO_space_4 : decode (xcode m_MO_space) 4 = .ok (.ifCond .eq 14, 3) := by decide +kernel
theorem d_MO_space_7 : decode (xcode m_MO_space) 7 = .ok (.iload_n 3, 1) := by decide +kernel
theorem d_MO_space_8 : decode (xcode m_MO_space) 8 = .ok (.invokestatic 42, 3) := by decide +kernel
theorem d_MO_space_11 : decode (xcode m_MO_space) 11 = .ok (.ifCond .eq 7, 3) := by decide +kernel
theorem d_MO_space_14 : decode (xcode m_MO_space) 14 = .ok (.iload_n 2, 1) := by decide +kernel
theorem d_MO_space_15 : decode (xcode m_MO_space) 15 = .ok (.ifCond .ge 5, 3) := by decide +kernel
theorem d_MO_space_18 : decode (xcode m_MO_space) 18 = .ok (.iconst (-1), 1) := by decide +kernel
theorem d_MO_space_19 : decode (xcode m_MO_space) 19 = .ok (.ireturn, 1) := by decide +kernel
theorem d_MO_space_20 : decode (xcode m_MO_space) 20 = .ok (.aload_n 0, 1) := by decide +kernel
theorem d_MO_space_21 : decode (xcode m_MO_space) 21 = .ok (.iconst 0, 1) := by decide +kernel
theorem d_MO_space_22 : decode (xcode m_MO_space) 22 = .ok (.putfield 50, 3) := by decide +kernel
theorem d_MO_space_25 : decode (xcode m_MO_space) 25 = .ok (.aload_n 0, 1) := by decide +kernel
theorem d_MO_space_26 : decode (xcode m_MO_space) 26 = .ok (.iload_n 1, 1) := by decide +kernel
theorem d_MO_space_27 : decode (xcode m_MO_space) 27 = .ok (.invokevirtual 82, 3) := by decide +kernel
theorem d_MO_space_30 : decode (xcode m_MO_space) 30 = .ok (.istore 4, 2) := by decide +kernel
theorem d_MO_space_32 : decode (xcode m_MO_space) 32 = .ok (.iconst 1, 1) := by decide +kernel
theorem d_MO_space_33 : decode (xcode m_MO_space) 33 = .ok (.istore 5, 2) := by decide +kernel
theorem d_MO_space_35 : decode (xcode m_MO_space) 35 = .ok (.iload 5, 2) := by decide +kernel
theorem d_MO_space_37 : decode (xcode m_MO_space) 37 = .ok (.iload 4, 2) := by decide +kernel
theorem d_MO_space_39 : decode (xcode m_MO_space) 39 = .ok (.if_icmp .gt 47, 3) := by decide +kernel
theorem d_MO_space_42 : decode (xcode m_MO_space) 42 = .ok (.iload 5, 2) := by decide +kernel
theorem d_MO_space_44 : decode (xcode m_MO_space) 44 = .ok (.iconst 1, 1) := by decide +kernel
theorem d_MO_space_45 : decode (xcode m_MO_space) 45 = .ok (.if_icmp .le 9, 3) := by decide +kernel
theorem d_MO_space_48 : decode (xcode m_MO_space) 48 = .ok (.aload_n 0, 1) := by decide +kernel
theorem d_MO_space_49 : decode (xcode m_MO_space) 49 = .ok (.iload_n 2, 1) := by decide +kernel
theorem d_MO_space_50 : decode (xcode m_MO_space) 50 = .ok (.i2l, 1) := by decide +kernel
theorem d_MO_space_51 : decode (xcode m_MO_space) 51 = .ok (.invokevirtual 56, 3) := by decide +kernel
theorem d_MO_space_54 : decode (xcode m_MO_space) 54 = .ok (.aload_n 0, 1) := by decide +kernel
theorem d_MO_space_55 : decode (xcode m_MO_space) 55 = .ok (.iload_n 1, 1) := by decide +kernel
theorem d_MO_space_56 : decode (xcode m_MO_space) 56 = .ok (.aload_n 0, 1) := by decide +kernel
theorem d_MO_space_57 : decode (xcode m_MO_space) 57 = .ok (.iload_n 1, 1) := by decide +kernel
theorem d_MO_space_58 : decode (xcode m_MO_space) 58 = .ok (.iload 5, 2) := by decide +kernel
theorem d_MO_space_60 : decode (xcode m_MO_space) 60 = .ok (.invokevirtual 85, 3) := by decide +kernel
theorem d_MO_space_63 : decode (xcode m_MO_space) 63 = .ok (.i2l, 1) := by decide +kernel
theorem d_MO_space_64 : decode (xcode m_MO_space) 64 = .ok (.aload_n 0, 1) := by decide +kernel
theorem d_MO_space_65 : decode (xcode m_MO_space) 65 = .ok (.iload_n 1, 1) := by decide +kernel
theorem d_MO_space_66 : decode (xcode m_MO_space) 66 = .ok (.aload_n 0, 1) := by decide +kernel
theorem d_MO_space_67 : decode (xcode m_MO_space) 67 = .ok (.iload_n 1, 1) := by decide +kernel
theorem d_MO_space_68 : decode (xcode m_MO_space) 68 = .ok (.iload 5, 2) := by decide +kernel
theorem d_MO_space_70 : decode (xcode m_MO_space) 70 = .ok (.invokevirtual 85, 3) := by decide +kernel
theorem d_MO_space_73 : decode (xcode m_MO_space) 73 = .ok (.invokevirtual 88, 3) := by decide +kernel
theorem d_MO_space_76 : decode (xcode m_MO_space) 76 = .ok (.i2l, 1) := by decide +kernel
theorem d_MO_space_77 : decode (xcode m_MO_space) 77 = .ok (.invokevirtual 60, 3) := by decide +kernel
theorem d_MO_space_80 : decode (xcode m_MO_space) 80 = .ok (.iinc 5 1, 3) := by decide +kernel
theorem d_MO_space_83 : decode (xcode m_MO_space) 83 = .ok (.goto (-48), 3) := by decide +kernel
theorem d_MO_space_86 : decode (xcode m_MO_space) 86 = .ok (.aload_n 0, 1) := by decide +kernel
theorem d_MO_space_87 : decode (xcode m_MO_space) 87 = .ok (.iload_n 3, 1) := by decide +kernel
theorem d_MO_space_88 : decode (xcode m_MO_space) 88 = .ok (.invokevirtual 64, 3) := by decide +kernel
theorem d_MO_space_91 : decode (xcode m_MO_space) 91 = .ok (.ireturn, 1) := by decide +kernel
theorem d_MO_words_0 : decode (xcode m_MO_words) 0 = .ok (.iload_n 1, 1) := by decide +kernel
theorem d_MO_words_1 : decode (xcode m_MO_words) 1 = .ok (.invokestatic 42, 3) := by decide +kernel
theorem d_MO_words_4 : decode (xcode m_MO_words) 4 = .ok (.ifCond .ne 5, 3) := by decide +kernel
theorem d_MO_words_7 : decode (xcode m_MO_words) 7 = .ok (.iconst (-1), 1) := by decide +kernel
theorem d_MO_words_8 : decode (xcode m_MO_words) 8 = .ok (.ireturn, 1) := by decide +kernel
theorem d_MO_words_9 : decode (xcode m_MO_words) 9 = .ok (.iconst 0, 1) := by decide +kernel
theorem d_MO_words_10 : decode (xcode m_MO_words) 10 = .ok (.istore_n 2, 1) := by decide +kernel
theorem d_MO_words_11 : decode (xcode m_MO_words) 11 = .ok (.aload_n 0, 1) := by decide +kernel
theorem d_MO_words_12 : decode (xcode m_MO_words) 12 = .ok (.iload_n 1, 1) := by decide +kernel
theorem d_MO_words_13 : decode (xcode m_MO_words) 13 = .ok (.iload_n 2, 1) := by decide +kernel
theorem d_MO_words_14 : decode (xcode m_MO_words) 14 = .ok (.iconst 1, 1) := by decide +kernel
theorem d_MO_words_15 : decode (xcode m_MO_words) 15 = .ok (.iadd, 1) := by decide +kernel
theorem d_MO_words_16 : decode (xcode m_MO_words) 16 = .ok (.invokevirtual 85, 3) := by decide +kernel
theorem d_MO_words_19 : decode (xcode m_MO_words) 19 = .ok (.aload_n 0, 1) := by decide +kernel
theorem d_MO_words_20 : decode (xcode m_MO_words) 20 = .ok (.getfield 16, 3) := by decide +kernel
theorem d_MO_words_23 : decode (xcode m_MO_words) 23 = .ok (.iload_n 1, 1) := by decide +kernel
theorem d_MO_words_24 : decode (xcode m_MO_words) 24 = .ok (.iaload, 1) := by decide +kernel
theorem d_MO_words_25 : decode (xcode m_MO_words) 25 = .ok (.if_icmp .ge 9, 3) := by decide +kernel
theorem d_MO_words_28 : decode (xcode m_MO_words) 28 = .ok (.iinc 2 1, 3) := by decide +kernel
theorem d_MO_words_31 : decode (xcode m_MO_words) 31 = .ok (.goto (-20), 3) := by decide +kernel
theorem d_MO_words_34 : decode (xcode m_MO_words) 34 = .ok (.iload_n 2, 1) := by decide +kernel
theorem d_MO_words_35 : decode (xcode m_MO_words) 35 = .ok (.ireturn, 1) := by decide +kernel
theorem d_MO_begin_0 : decode (xcode m_MO_begin) 0 = .ok (.iconst 0, 1) := by decide +kernel
theorem d_MO_begin_1 : decode (xcode m_MO_begin) 1 = .ok (.istore_n 3, 1) := by decide +kernel
theorem d_MO_begin_2 : decode (xcode m_MO_begin) 2 = .ok (.iconst 0, 1) := by decide +kernel
theorem d_MO_begin_3 : decode (xcode m_MO_begin) 3 = .ok (.istore 4, 2) := by decide +kernel
theorem d_MO_begin_5 : decode (xcode m_MO_begin) 5 = .ok (.iload 4, 2) := by decide +kernel
theorem d_MO_begin_7 : decode (xcode m_MO_begin) 7 = .ok (.aload_n 0, 1) := by decide +kernel
theorem d_MO_begin_8 : decode (xcode m_MO_begin) 8 = .ok (.getfield 16, 3) := by decide +kernel
theorem d_MO_begin_11 : decode (xcode m_MO_begin) 11 = .ok (.iload_n 1, 1) := by decide +kernel
theorem d_MO_begin_12 : decode (xcode m_MO_begin) 12 = .ok (.iaload, 1) := by decide +kernel
theorem d_MO_begin_13 : decode (xcode m_MO_begin) 13 = .ok (.if_icmp .ge 73, 3) := by decide +kernel
theorem d_MO_begin_16 : decode (xcode m_MO_begin) 16 = .ok (.aload_n 0, 1) := by decide +kernel
theorem d_MO_begin_17 : decode (xcode m_MO_begin) 17 = .ok (.iload_n 1, 1) := by decide +kernel
theorem d_MO_begin_18 : decode (xcode m_MO_begin) 18 = .ok (.iload 4, 2) := by decide +kernel
theorem d_MO_begin_20 : decode (xcode m_MO_begin) 20 = .ok (.invokevirtual 46, 3) := by decide +kernel
theorem d_MO_begin_23 : decode (xcode m_MO_begin) 23 = .ok (.bipush 32, 2) := by decide +kernel
theorem d_MO_begin_25 : decode (xcode m_MO_begin) 25 = .ok (.if_icmp .eq 26, 3) := by decide +kernel
theorem d_MO_begin_28 : decode (xcode m_MO_begin) 28 = .ok (.iload 4, 2) := by decide +kernel
theorem d_MO_begin_30 : decode (xcode m_MO_begin) 30 = .ok (.ifCond .eq 17, 3) := by decide +kernel
theorem d_MO_begin_33 : decode (xcode m_MO_begin) 33 = .ok (.aload_n 0, 1) := by decide +kernel
theorem d_MO_begin_34 : decode (xcode m_MO_begin) 34 = .ok (.iload_n 1, 1) := by decide +kernel
theorem d_MO_begin_35 : decode (xcode m_MO_begin) 35 = .ok (.iload 4, 2) := by decide +kernel
theorem d_MO_begin_37 : decode (xcode m_MO_begin) 37 = .ok (.iconst 1, 1) := by decide +kernel
theorem d_MO_begin_38 : decode (xcode m_MO_begin) 38 = .ok (.isub, 1) := by decide +kernel
theorem d_MO_begin_39 : decode (xcode m_MO_begin) 39 = .ok (.invokevirtual 46, 3) := by decide +kernel
theorem d_MO_begin_42 : decode (xcode m_MO_begin) 42 = .ok (.bipush 32, 2) := by decide +kernel
theorem d_MO_begin_44 : decode (xcode m_MO_begin) 44 = .ok (.if_icmp .ne 7, 3) := by decide +kernel
theorem d_MO_begin_47 : decode (xcode m_MO_begin) 47 = .ok (.iconst 1, 1) := by decide +kernel
theorem d_MO_begin_48 : decode (xcode m_MO_begin) 48 = .ok (.goto 4, 3) := by decide +kernel
theorem d_MO_begin_51 : decode (xcode m_MO_begin) 51 = .ok (.iconst 0, 1) := by decide +kernel
theorem d_MO_begin_52 : decode (xcode m_MO_begin) 52 = .ok (.istore 5, 2) := by decide +kernel
theorem d_MO_begin_54 : decode (xcode m_MO_begin) 54 = .ok (.iload_n 3, 1) := by decide +kernel
theorem d_MO_begin_55 : decode (xcode m_MO_begin) 55 = .ok (.iload 5, 2) := by decide +kernel
theorem d_MO_begin_57 : decode (xcode m_MO_begin) 57 = .ok (.ifCond .eq 7, 3) := by decide +kernel
theorem d_MO_begin_60 : decode (xcode m_MO_begin) 60 = .ok (.iconst 1, 1) := by decide +kernel
theorem d_MO_begin_61 : decode (xcode m_MO_begin) 61 = .ok (.goto 4, 3) := by decide +kernel
theorem d_MO_begin_64 : decode (xcode m_MO_begin) 64 = .ok (.iconst 0, 1) := by decide +kernel
theorem d_MO_begin_65 : decode (xcode m_MO_begin) 65 = .ok (.iadd, 1) := by decide +kernel
theorem d_MO_begin_66 : decode (xcode m_MO_begin) 66 = .ok (.istore_n 3, 1) := by decide +kernel
theorem d_MO_begin_67 : decode (xcode m_MO_begin) 67 = .ok (.iload 5, 2) := by decide +kernel
theorem d_MO_begin_69 : decode (xcode m_MO_begin) 69 = .ok (.ifCond .eq 11, 3) := by decide +kernel
theorem d_MO_begin_72 : decode (xcode m_MO_begin) 72 = .ok (.iload_n 3, 1) := by decide +kernel
theorem d_MO_begin_73 : decode (xcode m_MO_begin) 73 = .ok (.iload_n 2, 1) := by decide +kernel
theorem d_MO_begin_74 : decode (xcode m_MO_begin) 74 = .ok (.if_icmp .ne 6, 3) := by decide +kernel
theorem d_MO_begin_77 : decode (xcode m_MO_begin) 77 = .ok (.iload 4, 2) := by decide +kernel
theorem d_MO_begin_79 : decode (xcode m_MO_begin) 79 = .ok (.ireturn, 1) := by decide +kernel
theorem d_MO_begin_80 : decode (xcode m_MO_begin) 80 = .ok (.iinc 4 1, 3) := by decide +kernel
theorem d_MO_begin_83 : decode (xcode m_MO_begin) 83 = .ok (.goto (-78), 3) := by decide +kernel
theorem d_MO_begin_86 : decode (xcode m_MO_begin) 86 = .ok (.aload_n 0, 1) := by decide +kernel
theorem d_MO_begin_87 : decode (xcode m_MO_begin) 87 = .ok (.getfield 16, 3) := by decide +kernel
theorem d_MO_begin_90 : decode (xcode m_MO_begin) 90 = .ok (.iload_n 1, 1) := by decide +kernel
theorem d_MO_begin_91 : decode (xcode m_MO_begin) 91 = .ok (.iaload, 1) := by decide +kernel
theorem d_MO_begin_92 : decode (xcode m_MO_begin) 92 = .ok (.ireturn, 1) := by decide +kernel
theorem d_MO_wordEnd_0 : decode (xcode m_MO_wordEnd) 0 = .ok (.iload_n 2, 1) := by decide +kernel
theorem d_MO_wordEnd_1 : decode (xcode m_MO_wordEnd) 1 = .ok (.istore_n 3, 1) := by decide +kernel
theorem d_MO_wordEnd_2 : decode (xcode m_MO_wordEnd) 2 = .ok (.iload_n 3, 1) := by decide +kernel
theorem d_MO_wordEnd_3 : decode (xcode m_MO_wordEnd) 3 = .ok (.aload_n 0, 1) := by decide +kernel
theorem d_MO_wordEnd_4 : decode (xcode m_MO_wordEnd) 4 = .ok (.getfield 16, 3) := by decide +kernel
theorem d_MO_wordEnd_7 : decode (xcode m_MO_wordEnd) 7 = .ok (.iload_n 1, 1) := by decide +kernel
theorem d_MO_wordEnd_8 : decode (xcode m_MO_wordEnd) 8 = .ok (.iaload, 1) := by decide +kernel
theorem d_MO_wordEnd_9 : decode (xcode m_MO_wordEnd) 9 = .ok (.if_icmp .ge 20, 3) := by decide +kernel
theorem d_MO_wordEnd_12 : decode (xcode m_MO_wordEnd) 12 = .ok (.aload_n 0, 1) := by decide +kernel
theorem d_MO_wordEnd_13 : decode (xcode m_MO_wordEnd) 13 = .ok (.iload_n 1, 1) := by decide +kernel
theorem d_MO_wordEnd_14 : decode (xcode m_MO_wordEnd) 14 = .ok (.iload_n 3, 1) := by decide +kernel
theorem d_MO_wordEnd_15 : decode (xcode m_MO_wordEnd) 15 = .ok (.invokevirtual 46, 3) := by decide +kernel
theorem d_MO_wordEnd_18 : decode (xcode m_MO_wordEnd) 18 = .ok (.bipush 32, 2) := by decide +kernel
theorem d_MO_wordEnd_20 : decode (xcode m_MO_wordEnd) 20 = .ok (.if_icmp .eq 9, 3) := by decide +kernel
theorem d_MO_wordEnd_23 : decode (xcode m_MO_wordEnd) 23 = .ok (.iinc 3 1, 3) := by decide +kernel
theorem d_MO_wordEnd_26 : decode (xcode m_MO_wordEnd) 26 = .ok (.goto (-24), 3) := by decide +kernel
theorem d_MO_wordEnd_29 : decode (xcode m_MO_wordEnd) 29 = .ok (.iload_n 3, 1) := by decide +kernel
theorem d_MO_wordEnd_30 : decode (xcode m_MO_wordEnd) 30 = .ok (.ireturn, 1) := by decide +kernel
theorem d_MO_word_0 : decode (xcode m_MO_word) 0 = .ok (.iload_n 1, 1) := by decide +kernel
theorem d_MO_word_1 : decode (xcode m_MO_word) 1 = .ok (.invokestatic 42, 3) := by decide +kernel
theorem d_MO_word_4 : decode (xcode m_MO_word) 4 = .ok (.ifCond .eq 17, 3) := by decide +kernel
theorem d_MO_word_7 : decode (xcode m_MO_word) 7 = .ok (.iload_n 2, 1) := by decide +kernel
theorem d_MO_word_8 : decode (xcode m_MO_word) 8 = .ok (.iconst 1, 1) := by decide +kernel
theorem d_MO_word_9 : decode (xcode m_MO_word) 9 = .ok (.if_icmp .lt 12, 3) := by decide +kernel
theorem d_MO_word_12 : decode (xcode m_MO_word) 12 = .ok (.iload_n 3, 1) := by decide +kernel
theorem d_MO_word_13 : decode (xcode m_MO_word) 13 = .ok (.ifCond .lt 8, 3) := by decide +kernel
theorem d_MO_word_16 : decode (xcode m_MO_word) 16 = .ok (.iload_n 3, 1) := by decide +kernel
theorem d_MO_word_17 : decode (xcode m_MO_word) 17 = .ok (.iconst 1, 1) := by decide +kernel
theorem d_MO_word_18 : decode (xcode m_MO_word) 18 = .ok (.if_icmp .le 5, 3) := by decide +kernel
theorem d_MO_word_21 : decode (xcode m_MO_word) 21 = .ok (.iconst (-1), 1) := by decide +kernel
theorem d_MO_word_22 : decode (xcode m_MO_word) 22 = .ok (.ireturn, 1) := by decide +kernel
theorem d_MO_word_23 : decode (xcode m_MO_word) 23 = .ok (.aload_n 0, 1) := by decide +kernel
theorem d_MO_word_24 : decode (xcode m_MO_word) 24 = .ok (.iload_n 1, 1) := by decide +kernel
theorem d_MO_word_25 : decode (xcode m_MO_word) 25 = .ok (.iload_n 2, 1) := by decide +kernel
theorem d_MO_word_26 : decode (xcode m_MO_word) 26 = .ok (.invokevirtual 85, 3) := by decide +kernel
theorem d_MO_word_29 : decode (xcode m_MO_word) 29 = .ok (.istore 4, 2) := by decide +kernel
theorem d_MO_word_31 : decode (xcode m_MO_word) 31 = .ok (.iload 4, 2) := by decide +kernel
theorem d_MO_word_33 : decode (xcode m_MO_word) 33 = .ok (.aload_n 0, 1) := by decide +kernel
theorem d_MO_word_34 : decode (xcode m_MO_word) 34 = .ok (.getfield 16, 3) := by decide +kernel
theorem d_MO_word_37 : decode (xcode m_MO_word) 37 = .ok (.iload_n 1, 1) := by decide +kernel
theorem d_MO_word_38 : decode (xcode m_MO_word) 38 = .ok (.iaload, 1) := by decide +kernel
theorem d_MO_word_39 : decode (xcode m_MO_word) 39 = .ok (.if_icmp .ne 5, 3) := by decide +kernel
theorem d_MO_word_42 : decode (xcode m_MO_word) 42 = .ok (.iconst 0, 1) := by decide +kernel
theorem d_MO_word_43 : decode (xcode m_MO_word) 43 = .ok (.ireturn, 1) := by decide +kernel
theorem d_MO_word_44 : decode (xcode m_MO_word) 44 = .ok (.iload_n 3, 1) := by decide +kernel
theorem d_MO_word_45 : decode (xcode m_MO_word) 45 = .ok (.ifCond .ne 10, 3) := by decide +kernel
theorem d_MO_word_48 : decode (xcode m_MO_word) 48 = .ok (.iload 4, 2) := by decide +kernel
theorem d_MO_word_50 : decode (xcode m_MO_word) 50 = .ok (.iconst 1, 1) := by decide +kernel
theorem d_MO_word_51 : decode (xcode m_MO_word) 51 = .ok (.iadd, 1) := by decide +kernel
theorem d_MO_word_52 : decode (xcode m_MO_word) 52 = .ok (.goto 13, 3) := by decide +kernel
theorem d_MO_word_55 : decode (xcode m_MO_word) 55 = .ok (.aload_n 0, 1) := by decide +kernel
theorem d_MO_word_56 : decode (xcode m_MO_word) 56 = .ok (.iload_n 1, 1) := by decide +kernel
theorem d_MO_word_57 : decode (xcode m_MO_word) 57 = .ok (.iload 4, 2) := by decide +kernel
theorem d_MO_word_59 : decode (xcode m_MO_word) 59 = .ok (.invokevirtual 88, 3) := by decide +kernel
theorem d_MO_word_62 : decode (xcode m_MO_word) 62 = .ok (.iload 4, 2) := by decide +kernel
theorem d_MO_word_64 : decode (xcode m_MO_word) 64 = .ok (.isub, 1) := by decide +kernel
theorem d_MO_word_65 : decode (xcode m_MO_word) 65 = .ok (.ireturn, 1) := by decide +kernel
