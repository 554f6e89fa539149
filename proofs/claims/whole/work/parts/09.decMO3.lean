theorem d_MO_some_0 : decode (xcode m_MO_some) 0 = .ok (.iload_n 1, 1) := by decide +kernel
theorem d_MO_some_1 : decode (xcode m_MO_some) 1 = .ok (.invokestatic 42, 3) := by decide +kernel
theorem d_MO_some_4 : decode (xcode m_MO_some) 4 = .ok (.ifCond .eq 21, 3) := by decide +kernel
theorem d_MO_some_7 : decode (xcode m_MO_some) 7 = .ok (.iload 5, 2) := by decide +kernel
theorem d_MO_some_9 : decode (xcode m_MO_some) 9 = .ok (.invokestatic 42, 3) := by decide +kernel
theorem d_MO_some_12 : decode (xcode m_MO_some) 12 = .ok (.ifCond .eq 13, 3) := by decide +kernel
theorem d_MO_some_15 : decode (xcode m_MO_some) 15 = .ok (.iload_n 2, 1) := by decide +kernel
theorem d_MO_some_16 : decode (xcode m_MO_some) 16 = .ok (.iconst 1, 1) := by decide +kernel
theorem d_MO_some_17 : decode (xcode m_MO_some) 17 = .ok (.if_icmp .lt 8, 3) := by decide +kernel
theorem d_MO_some_20 : decode (xcode m_MO_some) 20 = .ok (.iload_n 3, 1) := by decide +kernel
theorem d_MO_some_21 : decode (xcode m_MO_some) 21 = .ok (.iconst (-1), 1) := by decide +kernel
theorem d_MO_some_22 : decode (xcode m_MO_some) 22 = .ok (.if_icmp .ge 5, 3) := by decide +kernel
theorem d_MO_some_25 : decode (xcode m_MO_some) 25 = .ok (.iconst (-1), 1) := by decide +kernel
theorem d_MO_some_26 : decode (xcode m_MO_some) 26 = .ok (.ireturn, 1) := by decide +kernel
theorem d_MO_some_27 : decode (xcode m_MO_some) 27 = .ok (.aload_n 0, 1) := by decide +kernel
theorem d_MO_some_28 : decode (xcode m_MO_some) 28 = .ok (.iconst 0, 1) := by decide +kernel
theorem d_MO_some_29 : decode (xcode m_MO_some) 29 = .ok (.putfield 50, 3) := by decide +kernel
theorem d_MO_some_32 : decode (xcode m_MO_some) 32 = .ok (.aload_n 0, 1) := by decide +kernel
theorem d_MO_some_33 : decode (xcode m_MO_some) 33 = .ok (.iload_n 1, 1) := by decide +kernel
theorem d_MO_some_34 : decode (xcode m_MO_some) 34 = .ok (.invokevirtual 82, 3) := by decide +kernel
theorem d_MO_some_37 : decode (xcode m_MO_some) 37 = .ok (.istore 6, 2) := by decide +kernel
theorem d_MO_some_39 : decode (xcode m_MO_some) 39 = .ok (.iload_n 3, 1) := by decide +kernel
theorem d_MO_some_40 : decode (xcode m_MO_some) 40 = .ok (.iconst (-1), 1) := by decide +kernel
theorem d_MO_some_41 : decode (xcode m_MO_some) 41 = .ok (.if_icmp .eq 17, 3) := by decide +kernel
theorem d_MO_some_44 : decode (xcode m_MO_some) 44 = .ok (.iload_n 2, 1) := by decide +kernel
theorem d_MO_some_45 : decode (xcode m_MO_some) 45 = .ok (.i2l, 1) := by decide +kernel
theorem d_MO_some_46 : decode (xcode m_MO_some) 46 = .ok (.iload_n 3, 1) := by decide +kernel
theorem d_MO_some_47 : decode (xcode m_MO_some) 47 = .ok (.i2l, 1) := by decide +kernel
theorem d_MO_some_48 : decode (xcode m_MO_some) 48 = .ok (.ladd, 1) := by decide +kernel
theorem d_MO_some_49 : decode (xcode m_MO_some) 49 = .ok (.lconst 1, 1) := by decide +kernel
theorem d_MO_some_50 : decode (xcode m_MO_some) 50 = .ok (.lsub, 1) := by decide +kernel
theorem d_MO_some_51 : decode (xcode m_MO_some) 51 = .ok (.iload 6, 2) := by decide +kernel
theorem d_MO_some_53 : decode (xcode m_MO_some) 53 = .ok (.i2l, 1) := by decide +kernel
theorem d_MO_some_54 : decode (xcode m_MO_some) 54 = .ok (.lcmp, 1) := by decide +kernel
theorem d_MO_some_55 : decode (xcode m_MO_some) 55 = .ok (.ifCond .le 9, 3) := by decide +kernel
theorem d_MO_some_58 : decode (xcode m_MO_some) 58 = .ok (.iload 6, 2) := by decide +kernel
theorem d_MO_some_60 : decode (xcode m_MO_some) 60 = .ok (.i2l, 1) := by decide +kernel
theorem d_MO_some_61 : decode (xcode m_MO_some) 61 = .ok (.goto 10, 3) := by decide +kernel
theorem d_MO_some_64 : decode (xcode m_MO_some) 64 = .ok (.iload_n 2, 1) := by decide +kernel
theorem d_MO_some_65 : decode (xcode m_MO_some) 65 = .ok (.i2l, 1) := by decide +kernel
theorem d_MO_some_66 : decode (xcode m_MO_some) 66 = .ok (.iload_n 3, 1) := by decide +kernel
theorem d_MO_some_67 : decode (xcode m_MO_some) 67 = .ok (.i2l, 1) := by decide +kernel
theorem d_MO_some_68 : decode (xcode m_MO_some) 68 = .ok (.ladd, 1) := by decide +kernel
theorem d_MO_some_69 : decode (xcode m_MO_some) 69 = .ok (.lconst 1, 1) := by decide +kernel
theorem d_MO_some_70 : decode (xcode m_MO_some) 70 = .ok (.lsub, 1) := by decide +kernel
theorem d_MO_some_71 : decode (xcode m_MO_some) 71 = .ok (.lstore 7, 2) := by decide +kernel
theorem d_MO_some_73 : decode (xcode m_MO_some) 73 = .ok (.iload_n 2, 1) := by decide +kernel
theorem d_MO_some_74 : decode (xcode m_MO_some) 74 = .ok (.iload 6, 2) := by decide +kernel
theorem d_MO_some_76 : decode (xcode m_MO_some) 76 = .ok (.if_icmp .gt 11, 3) := by decide +kernel
theorem d_MO_some_79 : decode (xcode m_MO_some) 79 = .ok (.lload 7, 2) := by decide +kernel
theorem d_MO_some_81 : decode (xcode m_MO_some) 81 = .ok (.iload_n 2, 1) := by decide +kernel
theorem d_MO_some_82 : decode (xcode m_MO_some) 82 = .ok (.i2l, 1) := by decide +kernel
theorem d_MO_some_83 : decode (xcode m_MO_some) 83 = .ok (.lcmp, 1) := by decide +kernel
theorem d_MO_some_84 : decode (xcode m_MO_some) 84 = .ok (.ifCond .ge 7, 3) := by decide +kernel
theorem d_MO_some_87 : decode (xcode m_MO_some) 87 = .ok (.iconst 1, 1) := by decide +kernel
theorem d_MO_some_88 : decode (xcode m_MO_some) 88 = .ok (.goto 4, 3) := by decide +kernel
theorem d_MO_some_91 : decode (xcode m_MO_some) 91 = .ok (.iconst 0, 1) := by decide +kernel
theorem d_MO_some_92 : decode (xcode m_MO_some) 92 = .ok (.istore 9, 2) := by decide +kernel
theorem d_MO_some_94 : decode (xcode m_MO_some) 94 = .ok (.iload 9, 2) := by decide +kernel
theorem d_MO_some_96 : decode (xcode m_MO_some) 96 = .ok (.ifCond .eq 12, 3) := by decide +kernel
theorem d_MO_some_99 : decode (xcode m_MO_some) 99 = .ok (.aload_n 0, 1) := by decide +kernel
theorem d_MO_some_100 : decode (xcode m_MO_some) 100 = .ok (.getfield 16, 3) := by decide +kernel
theorem d_MO_some_103 : decode (xcode m_MO_some) 103 = .ok (.iload_n 1, 1) := by decide +kernel
theorem d_MO_some_104 : decode (xcode m_MO_some) 104 = .ok (.iaload, 1) := by decide +kernel
theorem d_MO_some_105 : decode (xcode m_MO_some) 105 = .ok (.goto 9, 3) := by decide +kernel
theorem d_MO_some_108 : decode (xcode m_MO_some) 108 = .ok (.aload_n 0, 1) := by decide +kernel
theorem d_MO_some_109 : decode (xcode m_MO_some) 109 = .ok (.iload_n 1, 1) := by decide +kernel
theorem d_MO_some_110 : decode (xcode m_MO_some) 110 = .ok (.iload_n 2, 1) := by decide +kernel
theorem d_MO_some_111 : decode (xcode m_MO_some) 111 = .ok (.invokevirtual 85, 3) := by decide +kernel
theorem d_MO_some_114 : decode (xcode m_MO_some) 114 = .ok (.istore 10, 2) := by decide +kernel
theorem d_MO_some_116 : decode (xcode m_MO_some) 116 = .ok (.iload 4, 2) := by decide +kernel
theorem d_MO_some_118 : decode (xcode m_MO_some) 118 = .ok (.ifCond .ne 37, 3) := by decide +kernel
theorem d_MO_some_121 : decode (xcode m_MO_some) 121 = .ok (.iload 9, 2) := by decide +kernel
theorem d_MO_some_123 : decode (xcode m_MO_some) 123 = .ok (.ifCond .ne 25, 3) := by decide +kernel
theorem d_MO_some_126 : decode (xcode m_MO_some) 126 = .ok (.aload_n 0, 1) := by decide +kernel
theorem d_MO_some_127 : decode (xcode m_MO_some) 127 = .ok (.iload_n 1, 1) := by decide +kernel
theorem d_MO_some_128 : decode (xcode m_MO_some) 128 = .ok (.iload 10, 2) := by decide +kernel
theorem d_MO_some_130 : decode (xcode m_MO_some) 130 = .ok (.i2l, 1) := by decide +kernel
theorem d_MO_some_131 : decode (xcode m_MO_some) 131 = .ok (.aload_n 0, 1) := by decide +kernel
theorem d_MO_some_132 : decode (xcode m_MO_some) 132 = .ok (.iload_n 1, 1) := by decide +kernel
theorem d_MO_some_133 : decode (xcode m_MO_some) 133 = .ok (.aload_n 0, 1) := by decide +kernel
theorem d_MO_some_134 : decode (xcode m_MO_some) 134 = .ok (.iload_n 1, 1) := by decide +kernel
theorem d_MO_some_135 : decode (xcode m_MO_some) 135 = .ok (.lload 7, 2) := by decide +kernel
theorem d_MO_some_137 : decode (xcode m_MO_some) 137 = .ok (.l2i, 1) := by decide +kernel
theorem d_MO_some_138 : decode (xcode m_MO_some) 138 = .ok (.invokevirtual 85, 3) := by decide +kernel
theorem d_MO_some_141 : decode (xcode m_MO_some) 141 = .ok (.invokevirtual 88, 3) := by decide +kernel
theorem d_MO_some_144 : decode (xcode m_MO_some) 144 = .ok (.i2l, 1) := by decide +kernel
theorem d_MO_some_145 : decode (xcode m_MO_some) 145 = .ok (.invokevirtual 60, 3) := by decide +kernel
theorem d_MO_some_148 : decode (xcode m_MO_some) 148 = .ok (.aload_n 0, 1) := by decide +kernel
theorem d_MO_some_149 : decode (xcode m_MO_some) 149 = .ok (.iload 5, 2) := by decide +kernel
theorem d_MO_some_151 : decode (xcode m_MO_some) 151 = .ok (.invokevirtual 64, 3) := by decide +kernel
theorem d_MO_some_154 : decode (xcode m_MO_some) 154 = .ok (.ireturn, 1) := by decide +kernel
theorem d_MO_some_155 : decode (xcode m_MO_some) 155 = .ok (.aload_n 0, 1) := by decide +kernel
theorem d_MO_some_156 : decode (xcode m_MO_some) 156 = .ok (.iload_n 1, 1) := by decide +kernel
theorem d_MO_some_157 : decode (xcode m_MO_some) 157 = .ok (.lconst 0, 1) := by decide +kernel
theorem d_MO_some_158 : decode (xcode m_MO_some) 158 = .ok (.iload 10, 2) := by decide +kernel
theorem d_MO_some_160 : decode (xcode m_MO_some) 160 = .ok (.i2l, 1) := by decide +kernel
theorem d_MO_some_161 : decode (xcode m_MO_some) 161 = .ok (.invokevirtual 60, 3) := by decide +kernel
theorem d_MO_some_164 : decode (xcode m_MO_some) 164 = .ok (.iload 9, 2) := by decide +kernel
theorem d_MO_some_166 : decode (xcode m_MO_some) 166 = .ok (.ifCond .ne 22, 3) := by decide +kernel
theorem d_MO_some_169 : decode (xcode m_MO_some) 169 = .ok (.aload_n 0, 1) := by decide +kernel
theorem d_MO_some_170 : decode (xcode m_MO_some) 170 = .ok (.iload_n 1, 1) := by decide +kernel
theorem d_MO_some_171 : decode (xcode m_MO_some) 171 = .ok (.aload_n 0, 1) := by decide +kernel
theorem d_MO_some_172 : decode (xcode m_MO_some) 172 = .ok (.iload_n 1, 1) := by decide +kernel
theorem d_MO_some_173 : decode (xcode m_MO_some) 173 = .ok (.lload 7, 2) := by decide +kernel
theorem d_MO_some_175 : decode (xcode m_MO_some) 175 = .ok (.l2i, 1) := by decide +kernel
theorem d_MO_some_176 : decode (xcode m_MO_some) 176 = .ok (.iconst 1, 1) := by decide +kernel
theorem d_MO_some_177 : decode (xcode m_MO_some) 177 = .ok (.iadd, 1) := by decide +kernel
theorem d_MO_some_178 : decode (xcode m_MO_some) 178 = .ok (.invokevirtual 85, 3) := by decide +kernel
theorem d_MO_some_181 : decode (xcode m_MO_some) 181 = .ok (.i2l, 1) := by decide +kernel
theorem d_MO_some_182 : decode (xcode m_MO_some) 182 = .ok (.ldc2_w 68, 3) := by decide +kernel
theorem d_MO_some_185 : decode (xcode m_MO_some) 185 = .ok (.invokevirtual 60, 3) := by decide +kernel
theorem d_MO_some_188 : decode (xcode m_MO_some) 188 = .ok (.aload_n 0, 1) := by decide +kernel
theorem d_MO_some_189 : decode (xcode m_MO_some) 189 = .ok (.iload 5, 2) := by decide +kernel
theorem d_MO_some_191 : decode (xcode m_MO_some) 191 = .ok (.invokevirtual 64, 3) := by decide +kernel
theorem d_MO_some_194 : decode (xcode m_MO_some) 194 = .ok (.ireturn, 1) := by decide +kernel
theorem d_MO_order_0 : decode (xcode m_MO_order) 0 = .ok (.iload_n 1, 1) := by decide +kernel
theorem d_MO_order_1 : decode (xcode m_MO_order) 1 = .ok (.invokestatic 42, 3) := by decide +kernel
theorem d_MO_order_4 : decode (xcode m_MO_order) 4 = .ok (.ifCond .eq 19, 3) := by decide +kernel
theorem d_MO_order_7 : decode (xcode m_MO_order) 7 = .ok (.iload_n 3, 1) := by decide +kernel
theorem d_MO_order_8 : decode (xcode m_MO_order) 8 = .ok (.invokestatic 42, 3) := by decide +kernel
theorem d_MO_order_11 : decode (xcode m_MO_order) 11 = .ok (.ifCond .eq 12, 3) := by decide +kernel
theorem d_MO_order_14 : decode (xcode m_MO_order) 14 = .ok (.iload_n 2, 1) := by decide +kernel
theorem d_MO_order_15 : decode (xcode m_MO_order) 15 = .ok (.ifCond .lt 8, 3) := by decide +kernel
theorem d_MO_order_18 : decode (xcode m_MO_order) 18 = .ok (.iload_n 2, 1) := by decide +kernel
theorem d_MO_order_19 : decode (xcode m_MO_order) 19 = .ok (.iconst 1, 1) := by decide +kernel
theorem d_MO_order_20 : decode (xcode m_MO_order) 20 = .ok (.if_icmp .le 5, 3) := by decide +kernel
theorem d_MO_order_23 : decode (xcode m_MO_order) 23 = .ok (.iconst (-1), 1) := by decide +kernel
theorem d_MO_order_24 : decode (xcode m_MO_order) 24 = .ok (.ireturn, 1) := by decide +kernel
theorem d_MO_order_25 : decode (xcode m_MO_order) 25 = .ok (.aload_n 0, 1) := by decide +kernel
theorem d_MO_order_26 : decode (xcode m_MO_order) 26 = .ok (.iconst 0, 1) := by decide +kernel
theorem d_MO_order_27 : decode (xcode m_MO_order) 27 = .ok (.putfield 50, 3) := by decide +kernel
theorem d_MO_order_30 : decode (xcode m_MO_order) 30 = .ok (.iconst 0, 1) := by decide +kernel
theorem d_MO_order_31 : decode (xcode m_MO_order) 31 = .ok (.istore 4, 2) := by decide +kernel
theorem d_MO_order_33 : decode (xcode m_MO_order) 33 = .ok (.iconst 0, 1) := by decide +kernel
theorem d_MO_order_34 : decode (xcode m_MO_order) 34 = .ok (.istore 5, 2) := by decide +kernel
theorem d_MO_order_36 : decode (xcode m_MO_order) 36 = .ok (.iload 5, 2) := by decide +kernel
theorem d_MO_order_38 : decode (xcode m_MO_order) 38 = .ok (.aload_n 0, 1) := by decide +kernel
theorem d_MO_order_39 : decode (xcode m_MO_order) 39 = .ok (.getfield 16, 3) := by decide +kernel
theorem d_MO_order_42 : decode (xcode m_MO_order) 42 = .ok (.iload_n 1, 1) := by decide +kernel
theorem d_MO_order_43 : decode (xcode m_MO_order) 43 = .ok (.iaload, 1) := by decide +kernel
theorem d_MO_order_44 : decode (xcode m_MO_order) 44 = .ok (.if_icmp .ge 55, 3) := by decide +kernel
theorem d_MO_order_47 : decode (xcode m_MO_order) 47 = .ok (.aload_n 0, 1) := by decide +kernel
theorem d_MO_order_48 : decode (xcode m_MO_order) 48 = .ok (.iload_n 1, 1) := by decide +kernel
theorem d_MO_order_49 : decode (xcode m_MO_order) 49 = .ok (.iload 5, 2) := by decide +kernel
theorem d_MO_order_51 : decode (xcode m_MO_order) 51 = .ok (.invokevirtual 46, 3) := by decide +kernel
theorem d_MO_order_54 : decode (xcode m_MO_order) 54 = .ok (.bipush 32, 2) := by decide +kernel
theorem d_MO_order_56 : decode (xcode m_MO_order) 56 = .ok (.if_icmp .eq 37, 3) := by decide +kernel
theorem d_MO_order_59 : decode (xcode m_MO_order) 59 = .ok (.iload 5, 2) := by decide +kernel
theorem d_MO_order_61 : decode (xcode m_MO_order) 61 = .ok (.ifCond .le 20, 3) := by decide +kernel
theorem d_MO_order_64 : decode (xcode m_MO_order) 64 = .ok (.aload_n 0, 1) := by decide +kernel
theorem d_MO_order_65 : decode (xcode m_MO_order) 65 = .ok (.iload_n 1, 1) := by decide +kernel
theorem d_MO_order_66 : decode (xcode m_MO_order) 66 = .ok (.iload 5, 2) := by decide +kernel
theorem d_MO_order_68 : decode (xcode m_MO_order) 68 = .ok (.iconst 1, 1) := by decide +kernel
theorem d_MO_order_69 : decode (xcode m_MO_order) 69 = .ok (.isub, 1) := by decide +kernel
theorem d_MO_order_70 : decode (xcode m_MO_order) 70 = .ok (.invokevirtual 46, 3) := by decide +kernel
theorem d_MO_order_73 : decode (xcode m_MO_order) 73 = .ok (.bipush 32, 2) := by decide +kernel
theorem d_MO_order_75 : decode (xcode m_MO_order) 75 = .ok (.if_icmp .eq 6, 3) := by decide +kernel
theorem d_MO_order_78 : decode (xcode m_MO_order) 78 = .ok (.goto 15, 3) := by decide +kernel
theorem d_MO_order_81 : decode (xcode m_MO_order) 81 = .ok (.iinc 4 1, 3) := by decide +kernel
theorem d_MO_order_84 : decode (xcode m_MO_order) 84 = .ok (.aload_n 0, 1) := by decide +kernel
theorem d_MO_order_85 : decode (xcode m_MO_order) 85 = .ok (.getfield 29, 3) := by decide +kernel
theorem d_MO_order_88 : decode (xcode m_MO_order) 88 = .ok (.iload 4, 2) := by decide +kernel
theorem d_MO_order_90 : decode (xcode m_MO_order) 90 = .ok (.iload 5, 2) := by decide +kernel
theorem d_MO_order_92 : decode (xcode m_MO_order) 92 = .ok (.iastore, 1) := by decide +kernel
theorem d_MO_order_93 : decode (xcode m_MO_order) 93 = .ok (.iinc 5 1, 3) := by decide +kernel
theorem d_MO_order_96 : decode (xcode m_MO_order) 96 = .ok (.goto (-60), 3) := by decide +kernel
theorem d_MO_order_99 : decode (xcode m_MO_order) 99 = .ok (.iconst 1, 1) := by decide +kernel
theorem d_MO_order_100 : decode (xcode m_MO_order) 100 = .ok (.istore 5, 2) := by decide +kernel
theorem d_MO_order_102 : decode (xcode m_MO_order) 102 = .ok (.iload 5, 2) := by decide +kernel
theorem d_MO_order_104 : decode (xcode m_MO_order) 104 = .ok (.iload 4, 2) := by decide +kernel
theorem d_MO_order_106 : decode (xcode m_MO_order) 106 = .ok (.if_icmp .gt 92, 3) := by decide +kernel
theorem d_MO_order_109 : decode (xcode m_MO_order) 109 = .ok (.iconst 0, 1) := by decide +kernel
theorem d_MO_order_110 : decode (xcode m_MO_order) 110 = .ok (.istore 6, 2) := by decide +kernel
theorem d_MO_order_112 : decode (xcode m_MO_order) 112 = .ok (.iconst 1, 1) := by decide +kernel
theorem d_MO_order_113 : decode (xcode m_MO_order) 113 = .ok (.istore 7, 2) := by decide +kernel
theorem d_MO_order_115 : decode (xcode m_MO_order) 115 = .ok (.iload 7, 2) := by decide +kernel
theorem d_MO_order_117 : decode (xcode m_MO_order) 117 = .ok (.iload 4, 2) := by decide +kernel
theorem d_MO_order_119 : decode (xcode m_MO_order) 119 = .ok (.if_icmp .gt 48, 3) := by decide +kernel
theorem d_MO_order_122 : decode (xcode m_MO_order) 122 = .ok (.iload 6, 2) := by decide +kernel
theorem d_MO_order_124 : decode (xcode m_MO_order) 124 = .ok (.iload 7, 2) := by decide +kernel
theorem d_MO_order_126 : decode (xcode m_MO_order) 126 = .ok (.iload 5, 2) := by decide +kernel
theorem d_MO_order_128 : decode (xcode m_MO_order) 128 = .ok (.if_icmp .eq 29, 3) := by decide +kernel
theorem d_MO_order_131 : decode (xcode m_MO_order) 131 = .ok (.aload_n 0, 1) := by decide +kernel
theorem d_MO_order_132 : decode (xcode m_MO_order) 132 = .ok (.iload_n 1, 1) := by decide +kernel
theorem d_MO_order_133 : decode (xcode m_MO_order) 133 = .ok (.aload_n 0, 1) := by decide +kernel
theorem d_MO_order_134 : decode (xcode m_MO_order) 134 = .ok (.getfield 29, 3) := by decide +kernel
theorem d_MO_order_137 : decode (xcode m_MO_order) 137 = .ok (.iload 7, 2) := by decide +kernel
theorem d_MO_order_139 : decode (xcode m_MO_order) 139 = .ok (.iaload, 1) := by decide +kernel
theorem d_MO_order_140 : decode (xcode m_MO_order) 140 = .ok (.aload_n 0, 1) := by decide +kernel
theorem d_MO_order_141 : decode (xcode m_MO_order) 141 = .ok (.getfield 29, 3) := by decide +kernel
theorem d_MO_order_144 : decode (xcode m_MO_order) 144 = .ok (.iload 5, 2) := by decide +kernel
theorem d_MO_order_146 : decode (xcode m_MO_order) 146 = .ok (.iaload, 1) := by decide +kernel
theorem d_MO_order_147 : decode (xcode m_MO_order) 147 = .ok (.invokevirtual 91, 3) := by decide +kernel
theorem d_MO_order_150 : decode (xcode m_MO_order) 150 = .ok (.ifCond .eq 7, 3) := by decide +kernel
theorem d_MO_order_153 : decode (xcode m_MO_order) 153 = .ok (.iconst 1, 1) := by decide +kernel
theorem d_MO_order_154 : decode (xcode m_MO_order) 154 = .ok (.goto 4, 3) := by decide +kernel
theorem d_MO_order_157 : decode (xcode m_MO_order) 157 = .ok (.iconst 0, 1) := by decide +kernel
theorem d_MO_order_158 : decode (xcode m_MO_order) 158 = .ok (.iadd, 1) := by decide +kernel
theorem d_MO_order_159 : decode (xcode m_MO_order) 159 = .ok (.istore 6, 2) := by decide +kernel
theorem d_MO_order_161 : decode (xcode m_MO_order) 161 = .ok (.iinc 7 1, 3) := by decide +kernel
theorem d_MO_order_164 : decode (xcode m_MO_order) 164 = .ok (.goto (-49), 3) := by decide +kernel
theorem d_MO_order_167 : decode (xcode m_MO_order) 167 = .ok (.aload_n 0, 1) := by decide +kernel
theorem d_MO_order_168 : decode (xcode m_MO_order) 168 = .ok (.getfield 32, 3) := by decide +kernel
theorem d_MO_order_171 : decode (xcode m_MO_order) 171 = .ok (.iload_n 2, 1) := by decide +kernel
theorem d_MO_order_172 : decode (xcode m_MO_order) 172 = .ok (.ifCond .ne 13, 3) := by decide +kernel
theorem d_MO_order_175 : decode (xcode m_MO_order) 175 = .ok (.iload 4, 2) := by decide +kernel
theorem d_MO_order_177 : decode (xcode m_MO_order) 177 = .ok (.iconst 1, 1) := by decide +kernel
theorem d_MO_order_178 : decode (xcode m_MO_order) 178 = .ok (.iadd, 1) := by decide +kernel
theorem d_MO_order_179 : decode (xcode m_MO_order) 179 = .ok (.iload 5, 2) := by decide +kernel
theorem d_MO_order_181 : decode (xcode m_MO_order) 181 = .ok (.isub, 1) := by decide +kernel
theorem d_MO_order_182 : decode (xcode m_MO_order) 182 = .ok (.goto 7, 3) := by decide +kernel
theorem d_MO_order_185 : decode (xcode m_MO_order) 185 = .ok (.iload 6, 2) := by decide +kernel
theorem d_MO_order_187 : decode (xcode m_MO_order) 187 = .ok (.iconst 1, 1) := by decide +kernel
theorem d_MO_order_188 : decode (xcode m_MO_order) 188 = .ok (.iadd, 1) := by decide +kernel
theorem d_MO_order_189 : decode (xcode m_MO_order) 189 = .ok (.iload 5, 2) := by decide +kernel
theorem d_MO_order_191 : decode (xcode m_MO_order) 191 = .ok (.iastore, 1) := by decide +kernel
theorem d_MO_order_192 : decode (xcode m_MO_order) 192 = .ok (.iinc 5 1, 3) := by decide +kernel
theorem d_MO_order_195 : decode (xcode m_MO_order) 195 = .ok (.goto (-93), 3) := by decide +kernel
theorem d_MO_order_198 : decode (xcode m_MO_order) 198 = .ok (.iconst 0, 1) := by decide +kernel
theorem d_MO_order_199 : decode (xcode m_MO_order) 199 = .ok (.istore 5, 2) := by decide +kernel
theorem d_MO_order_201 : decode (xcode m_MO_order) 201 = .ok (.iconst 1, 1) := by decide +kernel
theorem d_MO_order_202 : decode (xcode m_MO_order) 202 = .ok (.istore 6, 2) := by decide +kernel
theorem d_MO_order_204 : decode (xcode m_MO_order) 204 = .ok (.iload 6, 2) := by decide +kernel
theorem d_MO_order_206 : decode (xcode m_MO_order) 206 = .ok (.iload 4, 2) := by decide +kernel
theorem d_MO_order_208 : decode (xcode m_MO_order) 208 = .ok (.if_icmp .gt 69, 3) := by decide +kernel
theorem d_MO_order_211 : decode (xcode m_MO_order) 211 = .ok (.aload_n 0, 1) := by decide +kernel
theorem d_MO_order_212 : decode (xcode m_MO_order) 212 = .ok (.iload_n 1, 1) := by decide +kernel
theorem d_MO_order_213 : decode (xcode m_MO_order) 213 = .ok (.iload 5, 2) := by decide +kernel
theorem d_MO_order_215 : decode (xcode m_MO_order) 215 = .ok (.i2l, 1) := by decide +kernel
theorem d_MO_order_216 : decode (xcode m_MO_order) 216 = .ok (.aload_n 0, 1) := by decide +kernel
theorem d_MO_order_217 : decode (xcode m_MO_order) 217 = .ok (.getfield 29, 3) := by decide +kernel
theorem d_MO_order_220 : decode (xcode m_MO_order) 220 = .ok (.iload 6, 2) := by decide +kernel
theorem d_MO_order_222 : decode (xcode m_MO_order) 222 = .ok (.iaload, 1) := by decide +kernel
theorem d_MO_order_223 : decode (xcode m_MO_order) 223 = .ok (.i2l, 1) := by decide +kernel
theorem d_MO_order_224 : decode (xcode m_MO_order) 224 = .ok (.invokevirtual 60, 3) := by decide +kernel
theorem d_MO_order_227 : decode (xcode m_MO_order) 227 = .ok (.aload_n 0, 1) := by decide +kernel
theorem d_MO_order_228 : decode (xcode m_MO_order) 228 = .ok (.getfield 29, 3) := by decide +kernel
theorem d_MO_order_231 : decode (xcode m_MO_order) 231 = .ok (.aload_n 0, 1) := by decide +kernel
theorem d_MO_order_232 : decode (xcode m_MO_order) 232 = .ok (.getfield 32, 3) := by decide +kernel
theorem d_MO_order_235 : decode (xcode m_MO_order) 235 = .ok (.iload 6, 2) := by decide +kernel
theorem d_MO_order_237 : decode (xcode m_MO_order) 237 = .ok (.iaload, 1) := by decide +kernel
theorem d_MO_order_238 : decode (xcode m_MO_order) 238 = .ok (.iaload, 1) := by decide +kernel
theorem d_MO_order_239 : decode (xcode m_MO_order) 239 = .ok (.istore 7, 2) := by decide +kernel
theorem d_MO_order_241 : decode (xcode m_MO_order) 241 = .ok (.aload_n 0, 1) := by decide +kernel
theorem d_MO_order_242 : decode (xcode m_MO_order) 242 = .ok (.iload_n 1, 1) := by decide +kernel
theorem d_MO_order_243 : decode (xcode m_MO_order) 243 = .ok (.iload 7, 2) := by decide +kernel
theorem d_MO_order_245 : decode (xcode m_MO_order) 245 = .ok (.i2l, 1) := by decide +kernel
theorem d_MO_order_246 : decode (xcode m_MO_order) 246 = .ok (.aload_n 0, 1) := by decide +kernel
theorem d_MO_order_247 : decode (xcode m_MO_order) 247 = .ok (.iload_n 1, 1) := by decide +kernel
theorem d_MO_order_248 : decode (xcode m_MO_order) 248 = .ok (.iload 7, 2) := by decide +kernel
theorem d_MO_order_250 : decode (xcode m_MO_order) 250 = .ok (.invokevirtual 88, 3) := by decide +kernel
theorem d_MO_order_253 : decode (xcode m_MO_order) 253 = .ok (.i2l, 1) := by decide +kernel
theorem d_MO_order_254 : decode (xcode m_MO_order) 254 = .ok (.invokevirtual 60, 3) := by decide +kernel
theorem d_MO_order_257 : decode (xcode m_MO_order) 257 = .ok (.aload_n 0, 1) := by decide +kernel
theorem d_MO_order_258 : decode (xcode m_MO_order) 258 = .ok (.iload_n 1, 1) := by decide +kernel
theorem d_MO_order_259 : decode (xcode m_MO_order) 259 = .ok (.aload_n 0, 1) := by decide +kernel
theorem d_MO_order_260 : decode (xcode m_MO_order) 260 = .ok (.getfield 29, 3) := by decide +kernel
theorem d_MO_order_263 : decode (xcode m_MO_order) 263 = .ok (.iload 6, 2) := by decide +kernel
theorem d_MO_order_265 : decode (xcode m_MO_order) 265 = .ok (.iaload, 1) := by decide +kernel
theorem d_MO_order_266 : decode (xcode m_MO_order) 266 = .ok (.invokevirtual 88, 3) := by decide +kernel
theorem d_MO_order_269 : decode (xcode m_MO_order) 269 = .ok (.istore 5, 2) := by decide +kernel
theorem d_MO_order_271 : decode (xcode m_MO_order) 271 = .ok (.iinc 6 1, 3) := by decide +kernel
theorem d_MO_order_274 : decode (xcode m_MO_order) 274 = .ok (.goto (-70), 3) := by decide +kernel
theorem d_MO_order_277 : decode (xcode m_MO_order) 277 = .ok (.aload_n 0, 1) := by decide +kernel
theorem d_MO_order_278 : decode (xcode m_MO_order) 278 = .ok (.iload_n 1, 1) := by decide +kernel
theorem d_MO_order_279 : decode (xcode m_MO_order) 279 = .ok (.iload 5, 2) := by decide +kernel
theorem d_MO_order_281 : decode (xcode m_MO_order) 281 = .ok (.i2l, 1) := by decide +kernel
theorem d_MO_order_282 : decode (xcode m_MO_order) 282 = .ok (.ldc2_w 68, 3) := by decide +kernel
theorem d_MO_order_285 : decode (xcode m_MO_order) 285 = .ok (.invokevirtual 60, 3) := by decide +kernel
theorem d_MO_order_288 : decode (xcode m_MO_order) 288 = .ok (.aload_n 0, 1) := by decide +kernel
theorem d_MO_order_289 : decode (xcode m_MO_order) 289 = .ok (.iload_n 3, 1) := by decide +kernel
theorem d_MO_order_290 : decode (xcode m_MO_order) 290 = .ok (.invokevirtual 64, 3) := by decide +kernel
theorem d_MO_order_293 : decode (xcode m_MO_order) 293 = .ok (.ireturn, 1) := by decide +kernel
theorem d_MO_isAhead_0 : decode (xcode m_MO_isAhead) 0 = .ok (.iload_n 2, 1) := by decide +kernel
theorem d_MO_isAhead_1 : decode (xcode m_MO_isAhead) 1 = .ok (.istore 4, 2) := by decide +kernel
theorem d_MO_isAhead_3 : decode (xcode m_MO_isAhead) 3 = .ok (.iload_n 3, 1) := by decide +kernel
theorem d_MO_isAhead_4 : decode (xcode m_MO_isAhead) 4 = .ok (.istore 5, 2) := by decide +kernel
theorem d_MO_isAhead_6 : decode (xcode m_MO_isAhead) 6 = .ok (.iload 4, 2) := by decide +kernel
theorem d_MO_isAhead_8 : decode (xcode m_MO_isAhead) 8 = .ok (.aload_n 0, 1) := by decide +kernel
theorem d_MO_isAhead_9 : decode (xcode m_MO_isAhead) 9 = .ok (.getfield 16, 3) := by decide +kernel
theorem d_MO_isAhead_12 : decode (xcode m_MO_isAhead) 12 = .ok (.iload_n 1, 1) := by decide +kernel
theorem d_MO_isAhead_13 : decode (xcode m_MO_isAhead) 13 = .ok (.iaload, 1) := by decide +kernel
theorem d_MO_isAhead_14 : decode (xcode m_MO_isAhead) 14 = .ok (.if_icmp .ge 64, 3) := by decide +kernel
theorem d_MO_isAhead_17 : decode (xcode m_MO_isAhead) 17 = .ok (.iload 5, 2) := by decide +kernel
theorem d_MO_isAhead_19 : decode (xcode m_MO_isAhead) 19 = .ok (.aload_n 0, 1) := by decide +kernel
theorem d_MO_isAhead_20 : decode (xcode m_MO_isAhead) 20 = .ok (.getfield 16, 3) := by decide +kernel
theorem d_MO_isAhead_23 : decode (xcode m_MO_isAhead) 23 = .ok (.iload_n 1, 1) := by decide +kernel
theorem d_MO_isAhead_24 : decode (xcode m_MO_isAhead) 24 = .ok (.iaload, 1) := by decide +kernel
theorem d_MO_isAhead_25 : decode (xcode m_MO_isAhead) 25 = .ok (.if_icmp .ge 53, 3) := by decide +kernel
theorem d_MO_isAhead_28 : decode (xcode m_MO_isAhead) 28 = .ok (.aload_n 0, 1) := by decide +kernel
theorem d_MO_isAhead_29 : decode (xcode m_MO_isAhead) 29 = .ok (.iload_n 1, 1) := by decide +kernel
theorem d_MO_isAhead_30 : decode (xcode m_MO_isAhead) 30 = .ok (.iload 4, 2) := by decide +kernel
theorem d_MO_isAhead_32 : decode (xcode m_MO_isAhead) 32 = .ok (.invokevirtual 46, 3) := by decide +kernel
theorem d_MO_isAhead_35 : decode (xcode m_MO_isAhead) 35 = .ok (.bipush 32, 2) := by decide +kernel
theorem d_MO_isAhead_37 : decode (xcode m_MO_isAhead) 37 = .ok (.if_icmp .eq 41, 3) := by decide +kernel
theorem d_MO_isAhead_40 : decode (xcode m_MO_isAhead) 40 = .ok (.aload_n 0, 1) := by decide +kernel
theorem d_MO_isAhead_41 : decode (xcode m_MO_isAhead) 41 = .ok (.iload_n 1, 1) := by decide +kernel
theorem d_MO_isAhead_42 : decode (xcode m_MO_isAhead) 42 = .ok (.iload 5, 2) := by decide +kernel
theorem d_MO_isAhead_44 : decode (xcode m_MO_isAhead) 44 = .ok (.invokevirtual 46, 3) := by decide +kernel
theorem d_MO_isAhead_47 : decode (xcode m_MO_isAhead) 47 = .ok (.bipush 32, 2) := by decide +kernel
theorem d_MO_isAhead_49 : decode (xcode m_MO_isAhead) 49 = .ok (.if_icmp .eq 29, 3) := by decide +kernel
theorem d_MO_isAhead_52 : decode (xcode m_MO_isAhead) 52 = .ok (.aload_n 0, 1) := by decide +kernel
theorem d_MO_isAhead_53 : decode (xcode m_MO_isAhead) 53 = .ok (.iload_n 1, 1) := by decide +kernel
theorem d_MO_isAhead_54 : decode (xcode m_MO_isAhead) 54 = .ok (.iload 4, 2) := by decide +kernel
theorem d_MO_isAhead_56 : decode (xcode m_MO_isAhead) 56 = .ok (.invokevirtual 46, 3) := by decide +kernel
theorem d_MO_isAhead_59 : decode (xcode m_MO_isAhead) 59 = .ok (.aload_n 0, 1) := by decide +kernel
theorem d_MO_isAhead_60 : decode (xcode m_MO_isAhead) 60 = .ok (.iload_n 1, 1) := by decide +kernel
theorem d_MO_isAhead_61 : decode (xcode m_MO_isAhead) 61 = .ok (.iload 5, 2) := by decide +kernel
theorem d_MO_isAhead_63 : decode (xcode m_MO_isAhead) 63 = .ok (.invokevirtual 46, 3) := by decide +kernel
theorem d_MO_isAhead_66 : decode (xcode m_MO_isAhead) 66 = .ok (.if_icmp .ne 12, 3) := by decide +kernel
theorem d_MO_isAhead_69 : decode (xcode m_MO_isAhead) 69 = .ok (.iinc 4 1, 3) := by decide +kernel
theorem d_MO_isAhead_72 : decode (xcode m_MO_isAhead) 72 = .ok (.iinc 5 1, 3) := by decide +kernel
theorem d_MO_isAhead_75 : decode (xcode m_MO_isAhead) 75 = .ok (.goto (-69), 3) := by decide +kernel
theorem d_MO_isAhead_78 : decode (xcode m_MO_isAhead) 78 = .ok (.iload 4, 2) := by decide +kernel
theorem d_MO_isAhead_80 : decode (xcode m_MO_isAhead) 80 = .ok (.aload_n 0, 1) := by decide +kernel
theorem d_MO_isAhead_81 : decode (xcode m_MO_isAhead) 81 = .ok (.getfield 16, 3) := by decide +kernel
theorem d_MO_isAhead_84 : decode (xcode m_MO_isAhead) 84 = .ok (.iload_n 1, 1) := by decide +kernel
theorem d_MO_isAhead_85 : decode (xcode m_MO_isAhead) 85 = .ok (.iaload, 1) := by decide +kernel
theorem d_MO_isAhead_86 : decode (xcode m_MO_isAhead) 86 = .ok (.if_icmp .ge 25, 3) := by decide +kernel
theorem d_MO_isAhead_89 : decode (xcode m_MO_isAhead) 89 = .ok (.aload_n 0, 1) := by decide +kernel
theorem d_MO_isAhead_90 : decode (xcode m_MO_isAhead) 90 = .ok (.iload_n 1, 1) := by decide +kernel
theorem d_MO_isAhead_91 : decode (xcode m_MO_isAhead) 91 = .ok (.iload 4, 2) := by decide +kernel
theorem d_MO_isAhead_93 : decode (xcode m_MO_isAhead) 93 = .ok (.invokevirtual 46, 3) := by decide +kernel
theorem d_MO_isAhead_96 : decode (xcode m_MO_isAhead) 96 = .ok (.bipush 32, 2) := by decide +kernel
theorem d_MO_isAhead_98 : decode (xcode m_MO_isAhead) 98 = .ok (.if_icmp .eq 13, 3) := by decide +kernel
theorem d_MO_isAhead_101 : decode (xcode m_MO_isAhead) 101 = .ok (.aload_n 0, 1) := by decide +kernel
theorem d_MO_isAhead_102 : decode (xcode m_MO_isAhead) 102 = .ok (.iload_n 1, 1) := by decide +kernel
theorem d_MO_isAhead_103 : decode (xcode m_MO_isAhead) 103 = .ok (.iload 4, 2) := by decide +kernel
theorem d_MO_isAhead_105 : decode (xcode m_MO_isAhead) 105 = .ok (.invokevirtual 46, 3) := by decide +kernel
theorem d_MO_isAhead_108 : decode (xcode m_MO_isAhead) 108 = .ok (.goto 4, 3) := by decide +kernel
theorem d_MO_isAhead_111 : decode (xcode m_MO_isAhead) 111 = .ok (.iconst (-1), 1) := by decide +kernel
theorem d_MO_isAhead_112 : decode (xcode m_MO_isAhead) 112 = .ok (.istore 6, 2) := by decide +kernel
theorem d_MO_isAhead_114 : decode (xcode m_MO_isAhead) 114 = .ok (.iload 5, 2) := by decide +kernel
theorem d_MO_isAhead_116 : decode (xcode m_MO_isAhead) 116 = .ok (.aload_n 0, 1) := by decide +kernel
theorem d_MO_isAhead_117 : decode (xcode m_MO_isAhead) 117 = .ok (.getfield 16, 3) := by decide +kernel
theorem d_MO_isAhead_120 : decode (xcode m_MO_isAhead) 120 = .ok (.iload_n 1, 1) := by decide +kernel
theorem d_MO_isAhead_121 : decode (xcode m_MO_isAhead) 121 = .ok (.iaload, 1) := by decide +kernel
theorem d_MO_isAhead_122 : decode (xcode m_MO_isAhead) 122 = .ok (.if_icmp .ge 25, 3) := by decide +kernel
theorem d_MO_isAhead_125 : decode (xcode m_MO_isAhead) 125 = .ok (.aload_n 0, 1) := by decide +kernel
theorem d_MO_isAhead_126 : decode (xcode m_MO_isAhead) 126 = .ok (.iload_n 1, 1) := by decide +kernel
theorem d_MO_isAhead_127 : decode (xcode m_MO_isAhead) 127 = .ok (.iload 5, 2) := by decide +kernel
theorem d_MO_isAhead_129 : decode (xcode m_MO_isAhead) 129 = .ok (.invokevirtual 46, 3) := by decide +kernel
theorem d_MO_isAhead_132 : decode (xcode m_MO_isAhead) 132 = .ok (.bipush 32, 2) := by decide +kernel
theorem d_MO_isAhead_134 : decode (xcode m_MO_isAhead) 134 = .ok (.if_icmp .eq 13, 3) := by decide +kernel
theorem d_MO_isAhead_137 : decode (xcode m_MO_isAhead) 137 = .ok (.aload_n 0, 1) := by decide +kernel
theorem d_MO_isAhead_138 : decode (xcode m_MO_isAhead) 138 = .ok (.iload_n 1, 1) := by decide +kernel
theorem d_MO_isAhead_139 : decode (xcode m_MO_isAhead) 139 = .ok (.iload 5, 2) := by decide +kernel
theorem d_MO_isAhead_141 : decode (xcode m_MO_isAhead) 141 = .ok (.invokevirtual 46, 3) := by decide +kernel
theorem d_MO_isAhead_144 : decode (xcode m_MO_isAhead) 144 = .ok (.goto 4, 3) := by decide +kernel
theorem d_MO_isAhead_147 : decode (xcode m_MO_isAhead) 147 = .ok (.iconst (-1), 1) := by decide +kernel
theorem d_MO_isAhead_148 : decode (xcode m_MO_isAhead) 148 = .ok (.istore 7, 2) := by decide +kernel
theorem d_MO_isAhead_150 : decode (xcode m_MO_isAhead) 150 = .ok (.iload 6, 2) := by decide +kernel
theorem d_MO_isAhead_152 : decode (xcode m_MO_isAhead) 152 = .ok (.iload 7, 2) := by decide +kernel
theorem d_MO_isAhead_154 : decode (xcode m_MO_isAhead) 154 = .ok (.if_icmp .lt 15, 3) := by decide +kernel
theorem d_MO_isAhead_157 : decode (xcode m_MO_isAhead) 157 = .ok (.iload 6, 2) := by decide +kernel
theorem d_MO_isAhead_159 : decode (xcode m_MO_isAhead) 159 = .ok (.iload 7, 2) := by decide +kernel
theorem d_MO_isAhead_161 : decode (xcode m_MO_isAhead) 161 = .ok (.if_icmp .ne 12, 3) := by decide +kernel
theorem d_MO_isAhead_164 : decode (xcode m_MO_isAhead) 164 = .ok (.iload_n 2, 1) := by decide +kernel
theorem d_MO_isAhead_165 : decode (xcode m_MO_isAhead) 165 = .ok (.iload_n 3, 1) := by decide +kernel
theorem d_MO_isAhead_166 : decode (xcode m_MO_isAhead) 166 = .ok (.if_icmp .ge 7, 3) := by decide +kernel
theorem d_MO_isAhead_169 : decode (xcode m_MO_isAhead) 169 = .ok (.iconst 1, 1) := by decide +kernel
theorem d_MO_isAhead_170 : decode (xcode m_MO_isAhead) 170 = .ok (.goto 4, 3) := by decide +kernel
theorem d_MO_isAhead_173 : decode (xcode m_MO_isAhead) 173 = .ok (.iconst 0, 1) := by decide +kernel
theorem d_MO_isAhead_174 : decode (xcode m_MO_isAhead) 174 = .ok (.ireturn, 1) := by decide +kernel
theorem d_MO_place_0 : decode (xcode m_MO_place) 0 = .ok (.iload_n 1, 1) := by decide +kernel
theorem d_MO_place_1 : decode (xcode m_MO_place) 1 = .ok (.invokestatic 42, 3) := by decide +kernel
theorem d_MO_place_4 : decode (xcode m_MO_place) 4 = .ok (.ifCond .eq 15, 3) := by decide +kernel
theorem d_MO_place_7 : decode (xcode m_MO_place) 7 = .ok (.iload_n 2, 1) := by decide +kernel
theorem d_MO_place_8 : decode (xcode m_MO_place) 8 = .ok (.invokestatic 42, 3) := by decide +kernel
theorem d_MO_place_11 : decode (xcode m_MO_place) 11 = .ok (.ifCond .eq 8, 3) := by decide +kernel
theorem d_MO_place_14 : decode (xcode m_MO_place) 14 = .ok (.iload_n 3, 1) := by decide +kernel
theorem d_MO_place_15 : decode (xcode m_MO_place) 15 = .ok (.iconst 1, 1) := by decide +kernel
theorem d_MO_place_16 : decode (xcode m_MO_place) 16 = .ok (.if_icmp .ge 5, 3) := by decide +kernel
theorem d_MO_place_19 : decode (xcode m_MO_place) 19 = .ok (.iconst (-1), 1) := by decide +kernel
theorem d_MO_place_20 : decode (xcode m_MO_place) 20 = .ok (.ireturn, 1) := by decide +kernel
theorem d_MO_place_21 : decode (xcode m_MO_place) 21 = .ok (.aload_n 0, 1) := by decide +kernel
theorem d_MO_place_22 : decode (xcode m_MO_place) 22 = .ok (.iload_n 1, 1) := by decide +kernel
theorem d_MO_place_23 : decode (xcode m_MO_place) 23 = .ok (.invokevirtual 82, 3) := by decide +kernel
theorem d_MO_place_26 : decode (xcode m_MO_place) 26 = .ok (.istore 4, 2) := by decide +kernel
theorem d_MO_place_28 : decode (xcode m_MO_place) 28 = .ok (.aload_n 0, 1) := by decide +kernel
theorem d_MO_place_29 : decode (xcode m_MO_place) 29 = .ok (.iload_n 2, 1) := by decide +kernel
theorem d_MO_place_30 : decode (xcode m_MO_place) 30 = .ok (.invokevirtual 82, 3) := by decide +kernel
theorem d_MO_place_33 : decode (xcode m_MO_place) 33 = .ok (.istore 5, 2) := by decide +kernel
theorem d_MO_place_35 : decode (xcode m_MO_place) 35 = .ok (.iload_n 3, 1) := by decide +kernel
theorem d_MO_place_36 : decode (xcode m_MO_place) 36 = .ok (.istore 6, 2) := by decide +kernel
theorem d_MO_place_38 : decode (xcode m_MO_place) 38 = .ok (.iload 4, 2) := by decide +kernel
theorem d_MO_place_40 : decode (xcode m_MO_place) 40 = .ok (.ifCond .le 80, 3) := by decide +kernel
theorem d_MO_place_43 : decode (xcode m_MO_place) 43 = .ok (.iload 6, 2) := by decide +kernel
theorem d_MO_place_45 : decode (xcode m_MO_place) 45 = .ok (.iload 5, 2) := by decide +kernel
theorem d_MO_place_47 : decode (xcode m_MO_place) 47 = .ok (.iload 4, 2) := by decide +kernel
theorem d_MO_place_49 : decode (xcode m_MO_place) 49 = .ok (.isub, 1) := by decide +kernel
theorem d_MO_place_50 : decode (xcode m_MO_place) 50 = .ok (.iconst 1, 1) := by decide +kernel
theorem d_MO_place_51 : decode (xcode m_MO_place) 51 = .ok (.iadd, 1) := by decide +kernel
theorem d_MO_place_52 : decode (xcode m_MO_place) 52 = .ok (.if_icmp .gt 68, 3) := by decide +kernel
theorem d_MO_place_55 : decode (xcode m_MO_place) 55 = .ok (.iconst 1, 1) := by decide +kernel
theorem d_MO_place_56 : decode (xcode m_MO_place) 56 = .ok (.istore 7, 2) := by decide +kernel
theorem d_MO_place_58 : decode (xcode m_MO_place) 58 = .ok (.iconst 1, 1) := by decide +kernel
theorem d_MO_place_59 : decode (xcode m_MO_place) 59 = .ok (.istore 8, 2) := by decide +kernel
theorem d_MO_place_61 : decode (xcode m_MO_place) 61 = .ok (.iload 8, 2) := by decide +kernel
theorem d_MO_place_63 : decode (xcode m_MO_place) 63 = .ok (.iload 4, 2) := by decide +kernel
theorem d_MO_place_65 : decode (xcode m_MO_place) 65 = .ok (.if_icmp .gt 41, 3) := by decide +kernel
theorem d_MO_place_68 : decode (xcode m_MO_place) 68 = .ok (.iload 7, 2) := by decide +kernel
theorem d_MO_place_70 : decode (xcode m_MO_place) 70 = .ok (.ifCond .eq 36, 3) := by decide +kernel
theorem d_MO_place_73 : decode (xcode m_MO_place) 73 = .ok (.aload_n 0, 1) := by decide +kernel
theorem d_MO_place_74 : decode (xcode m_MO_place) 74 = .ok (.iload_n 1, 1) := by decide +kernel
theorem d_MO_place_75 : decode (xcode m_MO_place) 75 = .ok (.aload_n 0, 1) := by decide +kernel
theorem d_MO_place_76 : decode (xcode m_MO_place) 76 = .ok (.iload_n 1, 1) := by decide +kernel
theorem d_MO_place_77 : decode (xcode m_MO_place) 77 = .ok (.iload 8, 2) := by decide +kernel
theorem d_MO_place_79 : decode (xcode m_MO_place) 79 = .ok (.invokevirtual 85, 3) := by decide +kernel
theorem d_MO_place_82 : decode (xcode m_MO_place) 82 = .ok (.iload_n 2, 1) := by decide +kernel
theorem d_MO_place_83 : decode (xcode m_MO_place) 83 = .ok (.aload_n 0, 1) := by decide +kernel
theorem d_MO_place_84 : decode (xcode m_MO_place) 84 = .ok (.iload_n 2, 1) := by decide +kernel
theorem d_MO_place_85 : decode (xcode m_MO_place) 85 = .ok (.iload 6, 2) := by decide +kernel
theorem d_MO_place_87 : decode (xcode m_MO_place) 87 = .ok (.iload 8, 2) := by decide +kernel
theorem d_MO_place_89 : decode (xcode m_MO_place) 89 = .ok (.iadd, 1) := by decide +kernel
theorem d_MO_place_90 : decode (xcode m_MO_place) 90 = .ok (.iconst 1, 1) := by decide +kernel
theorem d_MO_place_91 : decode (xcode m_MO_place) 91 = .ok (.isub, 1) := by decide +kernel
theorem d_MO_place_92 : decode (xcode m_MO_place) 92 = .ok (.invokevirtual 85, 3) := by decide +kernel
theorem d_MO_place_95 : decode (xcode m_MO_place) 95 = .ok (.invokevirtual 94, 3) := by decide +kernel
theorem d_MO_place_98 : decode (xcode m_MO_place) 98 = .ok (.istore 7, 2) := by decide +kernel
theorem d_MO_place_100 : decode (xcode m_MO_place) 100 = .ok (.iinc 8 1, 3) := by decide +kernel
theorem d_MO_place_103 : decode (xcode m_MO_place) 103 = .ok (.goto (-42), 3) := by decide +kernel
theorem d_MO_place_106 : decode (xcode m_MO_place) 106 = .ok (.iload 7, 2) := by decide +kernel
theorem d_MO_place_108 : decode (xcode m_MO_place) 108 = .ok (.ifCond .eq 6, 3) := by decide +kernel
theorem d_MO_place_111 : decode (xcode m_MO_place) 111 = .ok (.iload 6, 2) := by decide +kernel
theorem d_MO_place_113 : decode (xcode m_MO_place) 113 = .ok (.ireturn, 1) := by decide +kernel
theorem d_MO_place_114 : decode (xcode m_MO_place) 114 = .ok (.iinc 6 1, 3) := by decide +kernel
theorem d_MO_place_117 : decode (xcode m_MO_place) 117 = .ok (.goto (-79), 3) := by decide +kernel
theorem d_MO_place_120 : decode (xcode m_MO_place) 120 = .ok (.iconst 0, 1) := by decide +kernel
theorem d_MO_place_121 : decode (xcode m_MO_place) 121 = .ok (.ireturn, 1) := by decide +kernel
theorem d_MO_areAlike_0 : decode (xcode m_MO_areAlike) 0 = .ok (.aload_n 0, 1) := by decide +kernel
theorem d_MO_areAlike_1 : decode (xcode m_MO_areAlike) 1 = .ok (.iload_n 1, 1) := by decide +kernel
theorem d_MO_areAlike_2 : decode (xcode m_MO_areAlike) 2 = .ok (.iload_n 2, 1) := by decide +kernel
theorem d_MO_areAlike_3 : decode (xcode m_MO_areAlike) 3 = .ok (.invokevirtual 88, 3) := by decide +kernel
theorem d_MO_areAlike_6 : decode (xcode m_MO_areAlike) 6 = .ok (.iload_n 2, 1) := by decide +kernel
theorem d_MO_areAlike_7 : decode (xcode m_MO_areAlike) 7 = .ok (.isub, 1) := by decide +kernel
theorem d_MO_areAlike_8 : decode (xcode m_MO_areAlike) 8 = .ok (.istore 5, 2) := by decide +kernel
theorem d_MO_areAlike_10 : decode (xcode m_MO_areAlike) 10 = .ok (.aload_n 0, 1) := by decide +kernel
theorem d_MO_areAlike_11 : decode (xcode m_MO_areAlike) 11 = .ok (.iload_n 3, 1) := by decide +kernel
theorem d_MO_areAlike_12 : decode (xcode m_MO_areAlike) 12 = .ok (.iload 4, 2) := by decide +kernel
theorem d_MO_areAlike_14 : decode (xcode m_MO_areAlike) 14 = .ok (.invokevirtual 88, 3) := by decide +kernel
theorem d_MO_areAlike_17 : decode (xcode m_MO_areAlike) 17 = .ok (.iload 4, 2) := by decide +kernel
theorem d_MO_areAlike_19 : decode (xcode m_MO_areAlike) 19 = .ok (.isub, 1) := by decide +kernel
theorem d_MO_areAlike_20 : decode (xcode m_MO_areAlike) 20 = .ok (.iload 5, 2) := by decide +kernel
theorem d_MO_areAlike_22 : decode (xcode m_MO_areAlike) 22 = .ok (.if_icmp .ne 7, 3) := by decide +kernel
theorem d_MO_areAlike_25 : decode (xcode m_MO_areAlike) 25 = .ok (.iconst 1, 1) := by decide +kernel
theorem d_MO_areAlike_26 : decode (xcode m_MO_areAlike) 26 = .ok (.goto 4, 3) := by decide +kernel
theorem d_MO_areAlike_29 : decode (xcode m_MO_areAlike) 29 = .ok (.iconst 0, 1) := by decide +kernel
theorem d_MO_areAlike_30 : decode (xcode m_MO_areAlike) 30 = .ok (.istore 6, 2) := by decide +kernel
theorem d_MO_areAlike_32 : decode (xcode m_MO_areAlike) 32 = .ok (.iconst 0, 1) := by decide +kernel
theorem d_MO_areAlike_33 : decode (xcode m_MO_areAlike) 33 = .ok (.istore 7, 2) := by decide +kernel
theorem d_MO_areAlike_35 : decode (xcode m_MO_areAlike) 35 = .ok (.iload 7, 2) := by decide +kernel
theorem d_MO_areAlike_37 : decode (xcode m_MO_areAlike) 37 = .ok (.iload 5, 2) := by decide +kernel
theorem d_MO_areAlike_39 : decode (xcode m_MO_areAlike) 39 = .ok (.if_icmp .ge 43, 3) := by decide +kernel
theorem d_MO_areAlike_42 : decode (xcode m_MO_areAlike) 42 = .ok (.iload 6, 2) := by decide +kernel
theorem d_MO_areAlike_44 : decode (xcode m_MO_areAlike) 44 = .ok (.ifCond .eq 38, 3) := by decide +kernel
theorem d_MO_areAlike_47 : decode (xcode m_MO_areAlike) 47 = .ok (.aload_n 0, 1) := by decide +kernel
theorem d_MO_areAlike_48 : decode (xcode m_MO_areAlike) 48 = .ok (.iload_n 1, 1) := by decide +kernel
theorem d_MO_areAlike_49 : decode (xcode m_MO_areAlike) 49 = .ok (.iload_n 2, 1) := by decide +kernel
theorem d_MO_areAlike_50 : decode (xcode m_MO_areAlike) 50 = .ok (.iload 7, 2) := by decide +kernel
theorem d_MO_areAlike_52 : decode (xcode m_MO_areAlike) 52 = .ok (.iadd, 1) := by decide +kernel
theorem d_MO_areAlike_53 : decode (xcode m_MO_areAlike) 53 = .ok (.invokevirtual 46, 3) := by decide +kernel
theorem d_MO_areAlike_56 : decode (xcode m_MO_areAlike) 56 = .ok (.aload_n 0, 1) := by decide +kernel
theorem d_MO_areAlike_57 : decode (xcode m_MO_areAlike) 57 = .ok (.iload_n 3, 1) := by decide +kernel
theorem d_MO_areAlike_58 : decode (xcode m_MO_areAlike) 58 = .ok (.iload 4, 2) := by decide +kernel
theorem d_MO_areAlike_60 : decode (xcode m_MO_areAlike) 60 = .ok (.iload 7, 2) := by decide +kernel
theorem d_MO_areAlike_62 : decode (xcode m_MO_areAlike) 62 = .ok (.iadd, 1) := by decide +kernel
theorem d_MO_areAlike_63 : decode (xcode m_MO_areAlike) 63 = .ok (.invokevirtual 46, 3) := by decide +kernel
theorem d_MO_areAlike_66 : decode (xcode m_MO_areAlike) 66 = .ok (.if_icmp .ne 7, 3) := by decide +kernel
theorem d_MO_areAlike_69 : decode (xcode m_MO_areAlike) 69 = .ok (.iconst 1, 1) := by decide +kernel
theorem d_MO_areAlike_70 : decode (xcode m_MO_areAlike) 70 = .ok (.goto 4, 3) := by decide +kernel
theorem d_MO_areAlike_73 : decode (xcode m_MO_areAlike) 73 = .ok (.iconst 0, 1) := by decide +kernel
theorem d_MO_areAlike_74 : decode (xcode m_MO_areAlike) 74 = .ok (.istore 6, 2) := by decide +kernel
theorem d_MO_areAlike_76 : decode (xcode m_MO_areAlike) 76 = .ok (.iinc 7 1, 3) := by decide +kernel
theorem d_MO_areAlike_79 : decode (xcode m_MO_areAlike) 79 = .ok (.goto (-44), 3) := by decide +kernel
theorem d_MO_areAlike_82 : decode (xcode m_MO_areAlike) 82 = .ok (.iload 6, 2) := by decide +kernel
theorem d_MO_areAlike_84 : decode (xcode m_MO_areAlike) 84 = .ok (.ireturn, 1) := by decide +kernel
