theorem d_RD_verify_0 : decode (xcode m_RD_verify) 0 = .ok (.aload_n 0, 1) := by decide +kernel
theorem d_RD_verify_1 : decode (xcode m_RD_verify) 1 = .ok (.iload_n 1, 1) := by decide +kernel
theorem d_RD_verify_2 : decode (xcode m_RD_verify) 2 = .ok (.invokevirtual 56, 3) := by decide +kernel
theorem d_RD_verify_5 : decode (xcode m_RD_verify) 5 = .ok (.astore 5, 2) := by decide +kernel
theorem d_RD_verify_7 : decode (xcode m_RD_verify) 7 = .ok (.aload_n 0, 1) := by decide +kernel
theorem d_RD_verify_8 : decode (xcode m_RD_verify) 8 = .ok (.iload_n 2, 1) := by decide +kernel
theorem d_RD_verify_9 : decode (xcode m_RD_verify) 9 = .ok (.invokevirtual 56, 3) := by decide +kernel
theorem d_RD_verify_12 : decode (xcode m_RD_verify) 12 = .ok (.astore 6, 2) := by decide +kernel
theorem d_RD_verify_14 : decode (xcode m_RD_verify) 14 = .ok (.aload 5, 2) := by decide +kernel
theorem d_RD_verify_16 : decode (xcode m_RD_verify) 16 = .ok (.ifnull 13, 3) := by decide +kernel
theorem d_RD_verify_19 : decode (xcode m_RD_verify) 19 = .ok (.aload 6, 2) := by decide +kernel
theorem d_RD_verify_21 : decode (xcode m_RD_verify) 21 = .ok (.ifnull 8, 3) := by decide +kernel
theorem d_RD_verify_24 : decode (xcode m_RD_verify) 24 = .ok (.iload_n 3, 1) := by decide +kernel
theorem d_RD_verify_25 : decode (xcode m_RD_verify) 25 = .ok (.iconst 1, 1) := by decide +kernel
theorem d_RD_verify_26 : decode (xcode m_RD_verify) 26 = .ok (.if_icmp .ge 5, 3) := by decide +kernel
theorem d_RD_verify_29 : decode (xcode m_RD_verify) 29 = .ok (.iconst (-1), 1) := by decide +kernel
theorem d_RD_verify_30 : decode (xcode m_RD_verify) 30 = .ok (.ireturn, 1) := by decide +kernel
theorem d_RD_verify_31 : decode (xcode m_RD_verify) 31 = .ok (.aload_n 0, 1) := by decide +kernel
theorem d_RD_verify_32 : decode (xcode m_RD_verify) 32 = .ok (.getfield 38, 3) := by decide +kernel
theorem d_RD_verify_35 : decode (xcode m_RD_verify) 35 = .ok (.iconst 0, 1) := by decide +kernel
theorem d_RD_verify_36 : decode (xcode m_RD_verify) 36 = .ok (.invokevirtual 130, 3) := by decide +kernel
theorem d_RD_verify_39 : decode (xcode m_RD_verify) 39 = .ok (.iconst 0, 1) := by decide +kernel
theorem d_RD_verify_40 : decode (xcode m_RD_verify) 40 = .ok (.istore 7, 2) := by decide +kernel
theorem d_RD_verify_42 : decode (xcode m_RD_verify) 42 = .ok (.iload 7, 2) := by decide +kernel
theorem d_RD_verify_44 : decode (xcode m_RD_verify) 44 = .ok (.aload 6, 2) := by decide +kernel
theorem d_RD_verify_46 : decode (xcode m_RD_verify) 46 = .ok (.invokevirtual 46, 3) := by decide +kernel
theorem d_RD_verify_49 : decode (xcode m_RD_verify) 49 = .ok (.if_icmp .ge 25, 3) := by decide +kernel
theorem d_RD_verify_52 : decode (xcode m_RD_verify) 52 = .ok (.aload_n 0, 1) := by decide +kernel
theorem d_RD_verify_53 : decode (xcode m_RD_verify) 53 = .ok (.getfield 38, 3) := by decide +kernel
theorem d_RD_verify_56 : decode (xcode m_RD_verify) 56 = .ok (.aload 6, 2) := by decide +kernel
theorem d_RD_verify_58 : decode (xcode m_RD_verify) 58 = .ok (.iload 7, 2) := by decide +kernel
theorem d_RD_verify_60 : decode (xcode m_RD_verify) 60 = .ok (.iconst (-1), 1) := by decide +kernel
theorem d_RD_verify_61 : decode (xcode m_RD_verify) 61 = .ok (.invokevirtual 64, 3) := by decide +kernel
theorem d_RD_verify_64 : decode (xcode m_RD_verify) 64 = .ok (.iconst 1, 1) := by decide +kernel
theorem d_RD_verify_65 : decode (xcode m_RD_verify) 65 = .ok (.invokevirtual 133, 3) := by decide +kernel
theorem d_RD_verify_68 : decode (xcode m_RD_verify) 68 = .ok (.iinc 7 1, 3) := by decide +kernel
theorem d_RD_verify_71 : decode (xcode m_RD_verify) 71 = .ok (.goto (-29), 3) := by decide +kernel
theorem d_RD_verify_74 : decode (xcode m_RD_verify) 74 = .ok (.iload 4, 2) := by decide +kernel
theorem d_RD_verify_76 : decode (xcode m_RD_verify) 76 = .ok (.ifCond .eq 7, 3) := by decide +kernel
theorem d_RD_verify_79 : decode (xcode m_RD_verify) 79 = .ok (.iconst 0, 1) := by decide +kernel
theorem d_RD_verify_80 : decode (xcode m_RD_verify) 80 = .ok (.goto 4, 3) := by decide +kernel
theorem d_RD_verify_83 : decode (xcode m_RD_verify) 83 = .ok (.iconst 1, 1) := by decide +kernel
theorem d_RD_verify_84 : decode (xcode m_RD_verify) 84 = .ok (.istore 7, 2) := by decide +kernel
theorem d_RD_verify_86 : decode (xcode m_RD_verify) 86 = .ok (.iload_n 3, 1) := by decide +kernel
theorem d_RD_verify_87 : decode (xcode m_RD_verify) 87 = .ok (.iconst 1, 1) := by decide +kernel
theorem d_RD_verify_88 : decode (xcode m_RD_verify) 88 = .ok (.isub, 1) := by decide +kernel
theorem d_RD_verify_89 : decode (xcode m_RD_verify) 89 = .ok (.istore 8, 2) := by decide +kernel
theorem d_RD_verify_91 : decode (xcode m_RD_verify) 91 = .ok (.iload 8, 2) := by decide +kernel
theorem d_RD_verify_93 : decode (xcode m_RD_verify) 93 = .ok (.aload 5, 2) := by decide +kernel
theorem d_RD_verify_95 : decode (xcode m_RD_verify) 95 = .ok (.invokevirtual 46, 3) := by decide +kernel
theorem d_RD_verify_98 : decode (xcode m_RD_verify) 98 = .ok (.if_icmp .ge 34, 3) := by decide +kernel
theorem d_RD_verify_101 : decode (xcode m_RD_verify) 101 = .ok (.aload_n 0, 1) := by decide +kernel
theorem d_RD_verify_102 : decode (xcode m_RD_verify) 102 = .ok (.getfield 38, 3) := by decide +kernel
theorem d_RD_verify_105 : decode (xcode m_RD_verify) 105 = .ok (.aload 5, 2) := by decide +kernel
theorem d_RD_verify_107 : decode (xcode m_RD_verify) 107 = .ok (.iload 8, 2) := by decide +kernel
theorem d_RD_verify_109 : decode (xcode m_RD_verify) 109 = .ok (.iconst (-1), 1) := by decide +kernel
theorem d_RD_verify_110 : decode (xcode m_RD_verify) 110 = .ok (.invokevirtual 64, 3) := by decide +kernel
theorem d_RD_verify_113 : decode (xcode m_RD_verify) 113 = .ok (.invokevirtual 136, 3) := by decide +kernel
theorem d_RD_verify_116 : decode (xcode m_RD_verify) 116 = .ok (.iload 7, 2) := by decide +kernel
theorem d_RD_verify_118 : decode (xcode m_RD_verify) 118 = .ok (.if_icmp .ne 8, 3) := by decide +kernel
theorem d_RD_verify_121 : decode (xcode m_RD_verify) 121 = .ok (.iload 8, 2) := by decide +kernel
theorem d_RD_verify_123 : decode (xcode m_RD_verify) 123 = .ok (.iconst 1, 1) := by decide +kernel
theorem d_RD_verify_124 : decode (xcode m_RD_verify) 124 = .ok (.iadd, 1) := by decide +kernel
theorem d_RD_verify_125 : decode (xcode m_RD_verify) 125 = .ok (.ireturn, 1) := by decide +kernel
theorem d_RD_verify_126 : decode (xcode m_RD_verify) 126 = .ok (.iinc 8 1, 3) := by decide +kernel
theorem d_RD_verify_129 : decode (xcode m_RD_verify) 129 = .ok (.goto (-38), 3) := by decide +kernel
theorem d_RD_verify_132 : decode (xcode m_RD_verify) 132 = .ok (.iconst 0, 1) := by decide +kernel
theorem d_RD_verify_133 : decode (xcode m_RD_verify) 133 = .ok (.ireturn, 1) := by decide +kernel
theorem d_RD_space_0 : decode (xcode m_RD_space) 0 = .ok (.aload_n 0, 1) := by decide +kernel
theorem d_RD_space_1 : decode (xcode m_RD_space) 1 = .ok (.iload_n 1, 1) := by decide +kernel
theorem d_RD_space_2 : decode (xcode m_RD_space) 2 = .ok (.invokevirtual 56, 3) := by decide +kernel
theorem d_RD_space_5 : decode (xcode m_RD_space) 5 = .ok (.astore 4, 2) := by decide +kernel
theorem d_RD_space_7 : decode (xcode m_RD_space) 7 = .ok (.aload_n 0, 1) := by decide +kernel
theorem d_RD_space_8 : decode (xcode m_RD_space) 8 = .ok (.iload_n 3, 1) := by decide +kernel
theorem d_RD_space_9 : decode (xcode m_RD_space) 9 = .ok (.invokevirtual 56, 3) := by decide +kernel
theorem d_RD_space_12 : decode (xcode m_RD_space) 12 = .ok (.astore 5, 2) := by decide +kernel
theorem d_RD_space_14 : decode (xcode m_RD_space) 14 = .ok (.aload 4, 2) := by decide +kernel
theorem d_RD_space_16 : decode (xcode m_RD_space) 16 = .ok (.ifnull 12, 3) := by decide +kernel
theorem d_RD_space_19 : decode (xcode m_RD_space) 19 = .ok (.aload 5, 2) := by decide +kernel
theorem d_RD_space_21 : decode (xcode m_RD_space) 21 = .ok (.ifnull 7, 3) := by decide +kernel
theorem d_RD_space_24 : decode (xcode m_RD_space) 24 = .ok (.iload_n 2, 1) := by decide +kernel
theorem d_RD_space_25 : decode (xcode m_RD_space) 25 = .ok (.ifCond .ge 5, 3) := by decide +kernel
theorem d_RD_space_28 : decode (xcode m_RD_space) 28 = .ok (.iconst (-1), 1) := by decide +kernel
theorem d_RD_space_29 : decode (xcode m_RD_space) 29 = .ok (.ireturn, 1) := by decide +kernel
theorem d_RD_space_30 : decode (xcode m_RD_space) 30 = .ok (.aload_n 0, 1) := by decide +kernel
theorem d_RD_space_31 : decode (xcode m_RD_space) 31 = .ok (.getfield 28, 3) := by decide +kernel
theorem d_RD_space_34 : decode (xcode m_RD_space) 34 = .ok (.aload 4, 2) := by decide +kernel
theorem d_RD_space_36 : decode (xcode m_RD_space) 36 = .ok (.invokevirtual 143, 3) := by decide +kernel
theorem d_RD_space_39 : decode (xcode m_RD_space) 39 = .ok (.aload_n 0, 1) := by decide +kernel
theorem d_RD_space_40 : decode (xcode m_RD_space) 40 = .ok (.getfield 28, 3) := by decide +kernel
theorem d_RD_space_43 : decode (xcode m_RD_space) 43 = .ok (.invokevirtual 146, 3) := by decide +kernel
theorem d_RD_space_46 : decode (xcode m_RD_space) 46 = .ok (.iconst 1, 1) := by decide +kernel
theorem d_RD_space_47 : decode (xcode m_RD_space) 47 = .ok (.isub, 1) := by decide +kernel
theorem d_RD_space_48 : decode (xcode m_RD_space) 48 = .ok (.iconst 0, 1) := by decide +kernel
theorem d_RD_space_49 : decode (xcode m_RD_space) 49 = .ok (.invokestatic 98, 3) := by decide +kernel
theorem d_RD_space_52 : decode (xcode m_RD_space) 52 = .ok (.i2l, 1) := by decide +kernel
theorem d_RD_space_53 : decode (xcode m_RD_space) 53 = .ok (.lstore 6, 2) := by decide +kernel
theorem d_RD_space_55 : decode (xcode m_RD_space) 55 = .ok (.aload_n 0, 1) := by decide +kernel
theorem d_RD_space_56 : decode (xcode m_RD_space) 56 = .ok (.getfield 28, 3) := by decide +kernel
theorem d_RD_space_59 : decode (xcode m_RD_space) 59 = .ok (.invokevirtual 149, 3) := by decide +kernel
theorem d_RD_space_62 : decode (xcode m_RD_space) 62 = .ok (.i2l, 1) := by decide +kernel
theorem d_RD_space_63 : decode (xcode m_RD_space) 63 = .ok (.lload 6, 2) := by decide +kernel
theorem d_RD_space_65 : decode (xcode m_RD_space) 65 = .ok (.iload_n 2, 1) := by decide +kernel
theorem d_RD_space_66 : decode (xcode m_RD_space) 66 = .ok (.i2l, 1) := by decide +kernel
theorem d_RD_space_67 : decode (xcode m_RD_space) 67 = .ok (.lmul, 1) := by decide +kernel
theorem d_RD_space_68 : decode (xcode m_RD_space) 68 = .ok (.ladd, 1) := by decide +kernel
theorem d_RD_space_69 : decode (xcode m_RD_space) 69 = .ok (.ldc2_w 87, 3) := by decide +kernel
theorem d_RD_space_72 : decode (xcode m_RD_space) 72 = .ok (.lcmp, 1) := by decide +kernel
theorem d_RD_space_73 : decode (xcode m_RD_space) 73 = .ok (.ifCond .le 6, 3) := by decide +kernel
theorem d_RD_space_76 : decode (xcode m_RD_space) 76 = .ok (.bipush (-4), 2) := by decide +kernel
theorem d_RD_space_78 : decode (xcode m_RD_space) 78 = .ok (.ireturn, 1) := by decide +kernel
theorem d_RD_space_79 : decode (xcode m_RD_space) 79 = .ok (.aload_n 0, 1) := by decide +kernel
theorem d_RD_space_80 : decode (xcode m_RD_space) 80 = .ok (.getfield 22, 3) := by decide +kernel
theorem d_RD_space_83 : decode (xcode m_RD_space) 83 = .ok (.iconst 0, 1) := by decide +kernel
theorem d_RD_space_84 : decode (xcode m_RD_space) 84 = .ok (.invokevirtual 53, 3) := by decide +kernel
theorem d_RD_space_87 : decode (xcode m_RD_space) 87 = .ok (.iconst 0, 1) := by decide +kernel
theorem d_RD_space_88 : decode (xcode m_RD_space) 88 = .ok (.istore 8, 2) := by decide +kernel
theorem d_RD_space_90 : decode (xcode m_RD_space) 90 = .ok (.iload 8, 2) := by decide +kernel
theorem d_RD_space_92 : decode (xcode m_RD_space) 92 = .ok (.aload_n 0, 1) := by decide +kernel
theorem d_RD_space_93 : decode (xcode m_RD_space) 93 = .ok (.getfield 28, 3) := by decide +kernel
theorem d_RD_space_96 : decode (xcode m_RD_space) 96 = .ok (.invokevirtual 146, 3) := by decide +kernel
theorem d_RD_space_99 : decode (xcode m_RD_space) 99 = .ok (.if_icmp .ge 53, 3) := by decide +kernel
theorem d_RD_space_102 : decode (xcode m_RD_space) 102 = .ok (.iload 8, 2) := by decide +kernel
theorem d_RD_space_104 : decode (xcode m_RD_space) 104 = .ok (.ifCond .le 15, 3) := by decide +kernel
theorem d_RD_space_107 : decode (xcode m_RD_space) 107 = .ok (.aload_n 0, 1) := by decide +kernel
theorem d_RD_space_108 : decode (xcode m_RD_space) 108 = .ok (.getfield 22, 3) := by decide +kernel
theorem d_RD_space_111 : decode (xcode m_RD_space) 111 = .ok (.aload_n 0, 1) := by decide +kernel
theorem d_RD_space_112 : decode (xcode m_RD_space) 112 = .ok (.getfield 42, 3) := by decide +kernel
theorem d_RD_space_115 : decode (xcode m_RD_space) 115 = .ok (.iload_n 2, 1) := by decide +kernel
theorem d_RD_space_116 : decode (xcode m_RD_space) 116 = .ok (.invokevirtual 68, 3) := by decide +kernel
theorem d_RD_space_119 : decode (xcode m_RD_space) 119 = .ok (.aload_n 0, 1) := by decide +kernel
theorem d_RD_space_120 : decode (xcode m_RD_space) 120 = .ok (.getfield 22, 3) := by decide +kernel
theorem d_RD_space_123 : decode (xcode m_RD_space) 123 = .ok (.aload 4, 2) := by decide +kernel
theorem d_RD_space_125 : decode (xcode m_RD_space) 125 = .ok (.aload_n 0, 1) := by decide +kernel
theorem d_RD_space_126 : decode (xcode m_RD_space) 126 = .ok (.getfield 28, 3) := by decide +kernel
theorem d_RD_space_129 : decode (xcode m_RD_space) 129 = .ok (.iload 8, 2) := by decide +kernel
theorem d_RD_space_131 : decode (xcode m_RD_space) 131 = .ok (.invokevirtual 152, 3) := by decide +kernel
theorem d_RD_space_134 : decode (xcode m_RD_space) 134 = .ok (.aload_n 0, 1) := by decide +kernel
theorem d_RD_space_135 : decode (xcode m_RD_space) 135 = .ok (.getfield 28, 3) := by decide +kernel
theorem d_RD_space_138 : decode (xcode m_RD_space) 138 = .ok (.iload 8, 2) := by decide +kernel
theorem d_RD_space_140 : decode (xcode m_RD_space) 140 = .ok (.invokevirtual 155, 3) := by decide +kernel
theorem d_RD_space_143 : decode (xcode m_RD_space) 143 = .ok (.invokevirtual 72, 3) := by decide +kernel
theorem d_RD_space_146 : decode (xcode m_RD_space) 146 = .ok (.iinc 8 1, 3) := by decide +kernel
theorem d_RD_space_149 : decode (xcode m_RD_space) 149 = .ok (.goto (-59), 3) := by decide +kernel
theorem d_RD_space_152 : decode (xcode m_RD_space) 152 = .ok (.aload_n 0, 1) := by decide +kernel
theorem d_RD_space_153 : decode (xcode m_RD_space) 153 = .ok (.aload 5, 2) := by decide +kernel
theorem d_RD_space_155 : decode (xcode m_RD_space) 155 = .ok (.invokevirtual 79, 3) := by decide +kernel
theorem d_RD_space_158 : decode (xcode m_RD_space) 158 = .ok (.ireturn, 1) := by decide +kernel
theorem d_RD_words_0 : decode (xcode m_RD_words) 0 = .ok (.aload_n 0, 1) := by decide +kernel
theorem d_RD_words_1 : decode (xcode m_RD_words) 1 = .ok (.iload_n 1, 1) := by decide +kernel
theorem d_RD_words_2 : decode (xcode m_RD_words) 2 = .ok (.invokevirtual 56, 3) := by decide +kernel
theorem d_RD_words_5 : decode (xcode m_RD_words) 5 = .ok (.astore_n 2, 1) := by decide +kernel
theorem d_RD_words_6 : decode (xcode m_RD_words) 6 = .ok (.aload_n 2, 1) := by decide +kernel
theorem d_RD_words_7 : decode (xcode m_RD_words) 7 = .ok (.ifnonnull 5, 3) := by decide +kernel
theorem d_RD_words_10 : decode (xcode m_RD_words) 10 = .ok (.iconst (-1), 1) := by decide +kernel
theorem d_RD_words_11 : decode (xcode m_RD_words) 11 = .ok (.ireturn, 1) := by decide +kernel
theorem d_RD_words_12 : decode (xcode m_RD_words) 12 = .ok (.aload_n 0, 1) := by decide +kernel
theorem d_RD_words_13 : decode (xcode m_RD_words) 13 = .ok (.getfield 28, 3) := by decide +kernel
theorem d_RD_words_16 : decode (xcode m_RD_words) 16 = .ok (.aload_n 2, 1) := by decide +kernel
theorem d_RD_words_17 : decode (xcode m_RD_words) 17 = .ok (.invokevirtual 143, 3) := by decide +kernel
theorem d_RD_words_20 : decode (xcode m_RD_words) 20 = .ok (.aload_n 0, 1) := by decide +kernel
theorem d_RD_words_21 : decode (xcode m_RD_words) 21 = .ok (.getfield 28, 3) := by decide +kernel
theorem d_RD_words_24 : decode (xcode m_RD_words) 24 = .ok (.invokevirtual 146, 3) := by decide +kernel
theorem d_RD_words_27 : decode (xcode m_RD_words) 27 = .ok (.ireturn, 1) := by decide +kernel
theorem d_RD_word_0 : decode (xcode m_RD_word) 0 = .ok (.aload_n 0, 1) := by decide +kernel
theorem d_RD_word_1 : decode (xcode m_RD_word) 1 = .ok (.iload_n 1, 1) := by decide +kernel
theorem d_RD_word_2 : decode (xcode m_RD_word) 2 = .ok (.invokevirtual 56, 3) := by decide +kernel
theorem d_RD_word_5 : decode (xcode m_RD_word) 5 = .ok (.astore 4, 2) := by decide +kernel
theorem d_RD_word_7 : decode (xcode m_RD_word) 7 = .ok (.aload 4, 2) := by decide +kernel
theorem d_RD_word_9 : decode (xcode m_RD_word) 9 = .ok (.ifnull 17, 3) := by decide +kernel
theorem d_RD_word_12 : decode (xcode m_RD_word) 12 = .ok (.iload_n 2, 1) := by decide +kernel
theorem d_RD_word_13 : decode (xcode m_RD_word) 13 = .ok (.iconst 1, 1) := by decide +kernel
theorem d_RD_word_14 : decode (xcode m_RD_word) 14 = .ok (.if_icmp .lt 12, 3) := by decide +kernel
theorem d_RD_word_17 : decode (xcode m_RD_word) 17 = .ok (.iload_n 3, 1) := by decide +kernel
theorem d_RD_word_18 : decode (xcode m_RD_word) 18 = .ok (.ifCond .lt 8, 3) := by decide +kernel
theorem d_RD_word_21 : decode (xcode m_RD_word) 21 = .ok (.iload_n 3, 1) := by decide +kernel
theorem d_RD_word_22 : decode (xcode m_RD_word) 22 = .ok (.iconst 1, 1) := by decide +kernel
theorem d_RD_word_23 : decode (xcode m_RD_word) 23 = .ok (.if_icmp .le 5, 3) := by decide +kernel
theorem d_RD_word_26 : decode (xcode m_RD_word) 26 = .ok (.iconst (-1), 1) := by decide +kernel
theorem d_RD_word_27 : decode (xcode m_RD_word) 27 = .ok (.ireturn, 1) := by decide +kernel
theorem d_RD_word_28 : decode (xcode m_RD_word) 28 = .ok (.aload_n 0, 1) := by decide +kernel
theorem d_RD_word_29 : decode (xcode m_RD_word) 29 = .ok (.getfield 28, 3) := by decide +kernel
theorem d_RD_word_32 : decode (xcode m_RD_word) 32 = .ok (.aload 4, 2) := by decide +kernel
theorem d_RD_word_34 : decode (xcode m_RD_word) 34 = .ok (.invokevirtual 143, 3) := by decide +kernel
theorem d_RD_word_37 : decode (xcode m_RD_word) 37 = .ok (.iload_n 2, 1) := by decide +kernel
theorem d_RD_word_38 : decode (xcode m_RD_word) 38 = .ok (.aload_n 0, 1) := by decide +kernel
theorem d_RD_word_39 : decode (xcode m_RD_word) 39 = .ok (.getfield 28, 3) := by decide +kernel
theorem d_RD_word_42 : decode (xcode m_RD_word) 42 = .ok (.invokevirtual 146, 3) := by decide +kernel
theorem d_RD_word_45 : decode (xcode m_RD_word) 45 = .ok (.if_icmp .le 5, 3) := by decide +kernel
theorem d_RD_word_48 : decode (xcode m_RD_word) 48 = .ok (.iconst 0, 1) := by decide +kernel
theorem d_RD_word_49 : decode (xcode m_RD_word) 49 = .ok (.ireturn, 1) := by decide +kernel
theorem d_RD_word_50 : decode (xcode m_RD_word) 50 = .ok (.iload_n 3, 1) := by decide +kernel
theorem d_RD_word_51 : decode (xcode m_RD_word) 51 = .ok (.ifCond .ne 18, 3) := by decide +kernel
theorem d_RD_word_54 : decode (xcode m_RD_word) 54 = .ok (.aload_n 0, 1) := by decide +kernel
theorem d_RD_word_55 : decode (xcode m_RD_word) 55 = .ok (.getfield 28, 3) := by decide +kernel
theorem d_RD_word_58 : decode (xcode m_RD_word) 58 = .ok (.iload_n 2, 1) := by decide +kernel
theorem d_RD_word_59 : decode (xcode m_RD_word) 59 = .ok (.iconst 1, 1) := by decide +kernel
theorem d_RD_word_60 : decode (xcode m_RD_word) 60 = .ok (.isub, 1) := by decide +kernel
theorem d_RD_word_61 : decode (xcode m_RD_word) 61 = .ok (.invokevirtual 152, 3) := by decide +kernel
theorem d_RD_word_64 : decode (xcode m_RD_word) 64 = .ok (.iconst 1, 1) := by decide +kernel
theorem d_RD_word_65 : decode (xcode m_RD_word) 65 = .ok (.iadd, 1) := by decide +kernel
theorem d_RD_word_66 : decode (xcode m_RD_word) 66 = .ok (.goto 13, 3) := by decide +kernel
theorem d_RD_word_69 : decode (xcode m_RD_word) 69 = .ok (.aload_n 0, 1) := by decide +kernel
theorem d_RD_word_70 : decode (xcode m_RD_word) 70 = .ok (.getfield 28, 3) := by decide +kernel
theorem d_RD_word_73 : decode (xcode m_RD_word) 73 = .ok (.iload_n 2, 1) := by decide +kernel
theorem d_RD_word_74 : decode (xcode m_RD_word) 74 = .ok (.iconst 1, 1) := by decide +kernel
theorem d_RD_word_75 : decode (xcode m_RD_word) 75 = .ok (.isub, 1) := by decide +kernel
theorem d_RD_word_76 : decode (xcode m_RD_word) 76 = .ok (.invokevirtual 158, 3) := by decide +kernel
theorem d_RD_word_79 : decode (xcode m_RD_word) 79 = .ok (.ireturn, 1) := by decide +kernel
theorem d_RD_some_0 : decode (xcode m_RD_some) 0 = .ok (.aload_n 0, 1) := by decide +kernel
theorem d_RD_some_1 : decode (xcode m_RD_some) 1 = .ok (.iload_n 1, 1) := by decide +kernel
theorem d_RD_some_2 : decode (xcode m_RD_some) 2 = .ok (.invokevirtual 56, 3) := by decide +kernel
theorem d_RD_some_5 : decode (xcode m_RD_some) 5 = .ok (.astore 6, 2) := by decide +kernel
theorem d_RD_some_7 : decode (xcode m_RD_some) 7 = .ok (.aload_n 0, 1) := by decide +kernel
theorem d_RD_some_8 : decode (xcode m_RD_some) 8 = .ok (.iload 5, 2) := by decide +kernel
theorem d_RD_some_10 : decode (xcode m_RD_some) 10 = .ok (.invokevirtual 56, 3) := by decide +kernel
theorem d_RD_some_13 : decode (xcode m_RD_some) 13 = .ok (.astore 7, 2) := by decide +kernel
theorem d_RD_some_15 : decode (xcode m_RD_some) 15 = .ok (.aload 6, 2) := by decide +kernel
theorem d_RD_some_17 : decode (xcode m_RD_some) 17 = .ok (.ifnull 18, 3) := by decide +kernel
theorem d_RD_some_20 : decode (xcode m_RD_some) 20 = .ok (.aload 7, 2) := by decide +kernel
theorem d_RD_some_22 : decode (xcode m_RD_some) 22 = .ok (.ifnull 13, 3) := by decide +kernel
theorem d_RD_some_25 : decode (xcode m_RD_some) 25 = .ok (.iload_n 2, 1) := by decide +kernel
theorem d_RD_some_26 : decode (xcode m_RD_some) 26 = .ok (.iconst 1, 1) := by decide +kernel
theorem d_RD_some_27 : decode (xcode m_RD_some) 27 = .ok (.if_icmp .lt 8, 3) := by decide +kernel
theorem d_RD_some_30 : decode (xcode m_RD_some) 30 = .ok (.iload_n 3, 1) := by decide +kernel
theorem d_RD_some_31 : decode (xcode m_RD_some) 31 = .ok (.iconst (-1), 1) := by decide +kernel
theorem d_RD_some_32 : decode (xcode m_RD_some) 32 = .ok (.if_icmp .ge 5, 3) := by decide +kernel
theorem d_RD_some_35 : decode (xcode m_RD_some) 35 = .ok (.iconst (-1), 1) := by decide +kernel
theorem d_RD_some_36 : decode (xcode m_RD_some) 36 = .ok (.ireturn, 1) := by decide +kernel
theorem d_RD_some_37 : decode (xcode m_RD_some) 37 = .ok (.aload_n 0, 1) := by decide +kernel
theorem d_RD_some_38 : decode (xcode m_RD_some) 38 = .ok (.getfield 28, 3) := by decide +kernel
theorem d_RD_some_41 : decode (xcode m_RD_some) 41 = .ok (.aload 6, 2) := by decide +kernel
theorem d_RD_some_43 : decode (xcode m_RD_some) 43 = .ok (.invokevirtual 143, 3) := by decide +kernel
theorem d_RD_some_46 : decode (xcode m_RD_some) 46 = .ok (.iload_n 2, 1) := by decide +kernel
theorem d_RD_some_47 : decode (xcode m_RD_some) 47 = .ok (.iconst 1, 1) := by decide +kernel
theorem d_RD_some_48 : decode (xcode m_RD_some) 48 = .ok (.isub, 1) := by decide +kernel
theorem d_RD_some_49 : decode (xcode m_RD_some) 49 = .ok (.aload_n 0, 1) := by decide +kernel
theorem d_RD_some_50 : decode (xcode m_RD_some) 50 = .ok (.getfield 28, 3) := by decide +kernel
theorem d_RD_some_53 : decode (xcode m_RD_some) 53 = .ok (.invokevirtual 146, 3) := by decide +kernel
theorem d_RD_some_56 : decode (xcode m_RD_some) 56 = .ok (.invokestatic 100, 3) := by decide +kernel
theorem d_RD_some_59 : decode (xcode m_RD_some) 59 = .ok (.istore 8, 2) := by decide +kernel
theorem d_RD_some_61 : decode (xcode m_RD_some) 61 = .ok (.iload 8, 2) := by decide +kernel
theorem d_RD_some_63 : decode (xcode m_RD_some) 63 = .ok (.iload_n 3, 1) := by decide +kernel
theorem d_RD_some_64 : decode (xcode m_RD_some) 64 = .ok (.aload_n 0, 1) := by decide +kernel
theorem d_RD_some_65 : decode (xcode m_RD_some) 65 = .ok (.getfield 28, 3) := by decide +kernel
theorem d_RD_some_68 : decode (xcode m_RD_some) 68 = .ok (.invokevirtual 146, 3) := by decide +kernel
theorem d_RD_some_71 : decode (xcode m_RD_some) 71 = .ok (.invokestatic 83, 3) := by decide +kernel
theorem d_RD_some_74 : decode (xcode m_RD_some) 74 = .ok (.istore 9, 2) := by decide +kernel
theorem d_RD_some_76 : decode (xcode m_RD_some) 76 = .ok (.aload_n 0, 1) := by decide +kernel
theorem d_RD_some_77 : decode (xcode m_RD_some) 77 = .ok (.getfield 22, 3) := by decide +kernel
theorem d_RD_some_80 : decode (xcode m_RD_some) 80 = .ok (.iconst 0, 1) := by decide +kernel
theorem d_RD_some_81 : decode (xcode m_RD_some) 81 = .ok (.invokevirtual 53, 3) := by decide +kernel
theorem d_RD_some_84 : decode (xcode m_RD_some) 84 = .ok (.iload 4, 2) := by decide +kernel
theorem d_RD_some_86 : decode (xcode m_RD_some) 86 = .ok (.ifCond .eq 48, 3) := by decide +kernel
theorem d_RD_some_89 : decode (xcode m_RD_some) 89 = .ok (.aload_n 0, 1) := by decide +kernel
theorem d_RD_some_90 : decode (xcode m_RD_some) 90 = .ok (.getfield 22, 3) := by decide +kernel
theorem d_RD_some_93 : decode (xcode m_RD_some) 93 = .ok (.aload 6, 2) := by decide +kernel
theorem d_RD_some_95 : decode (xcode m_RD_some) 95 = .ok (.iconst 0, 1) := by decide +kernel
theorem d_RD_some_96 : decode (xcode m_RD_some) 96 = .ok (.aload_n 0, 1) := by decide +kernel
theorem d_RD_some_97 : decode (xcode m_RD_some) 97 = .ok (.getfield 28, 3) := by decide +kernel
theorem d_RD_some_100 : decode (xcode m_RD_some) 100 = .ok (.iload 8, 2) := by decide +kernel
theorem d_RD_some_102 : decode (xcode m_RD_some) 102 = .ok (.invokevirtual 152, 3) := by decide +kernel
theorem d_RD_some_105 : decode (xcode m_RD_some) 105 = .ok (.invokevirtual 72, 3) := by decide +kernel
theorem d_RD_some_108 : decode (xcode m_RD_some) 108 = .ok (.aload_n 0, 1) := by decide +kernel
theorem d_RD_some_109 : decode (xcode m_RD_some) 109 = .ok (.getfield 22, 3) := by decide +kernel
theorem d_RD_some_112 : decode (xcode m_RD_some) 112 = .ok (.aload 6, 2) := by decide +kernel
theorem d_RD_some_114 : decode (xcode m_RD_some) 114 = .ok (.aload_n 0, 1) := by decide +kernel
theorem d_RD_some_115 : decode (xcode m_RD_some) 115 = .ok (.getfield 28, 3) := by decide +kernel
theorem d_RD_some_118 : decode (xcode m_RD_some) 118 = .ok (.iload 9, 2) := by decide +kernel
theorem d_RD_some_120 : decode (xcode m_RD_some) 120 = .ok (.invokevirtual 152, 3) := by decide +kernel
theorem d_RD_some_123 : decode (xcode m_RD_some) 123 = .ok (.aload 6, 2) := by decide +kernel
theorem d_RD_some_125 : decode (xcode m_RD_some) 125 = .ok (.invokevirtual 46, 3) := by decide +kernel
theorem d_RD_some_128 : decode (xcode m_RD_some) 128 = .ok (.invokevirtual 72, 3) := by decide +kernel
theorem d_RD_some_131 : decode (xcode m_RD_some) 131 = .ok (.goto 39, 3) := by decide +kernel
theorem d_RD_some_134 : decode (xcode m_RD_some) 134 = .ok (.iload 8, 2) := by decide +kernel
theorem d_RD_some_136 : decode (xcode m_RD_some) 136 = .ok (.iload 9, 2) := by decide +kernel
theorem d_RD_some_138 : decode (xcode m_RD_some) 138 = .ok (.if_icmp .ge 32, 3) := by decide +kernel
theorem d_RD_some_141 : decode (xcode m_RD_some) 141 = .ok (.aload_n 0, 1) := by decide +kernel
theorem d_RD_some_142 : decode (xcode m_RD_some) 142 = .ok (.getfield 22, 3) := by decide +kernel
theorem d_RD_some_145 : decode (xcode m_RD_some) 145 = .ok (.aload 6, 2) := by decide +kernel
theorem d_RD_some_147 : decode (xcode m_RD_some) 147 = .ok (.aload_n 0, 1) := by decide +kernel
theorem d_RD_some_148 : decode (xcode m_RD_some) 148 = .ok (.getfield 28, 3) := by decide +kernel
theorem d_RD_some_151 : decode (xcode m_RD_some) 151 = .ok (.iload 8, 2) := by decide +kernel
theorem d_RD_some_153 : decode (xcode m_RD_some) 153 = .ok (.invokevirtual 152, 3) := by decide +kernel
theorem d_RD_some_156 : decode (xcode m_RD_some) 156 = .ok (.aload_n 0, 1) := by decide +kernel
theorem d_RD_some_157 : decode (xcode m_RD_some) 157 = .ok (.getfield 28, 3) := by decide +kernel
theorem d_RD_some_160 : decode (xcode m_RD_some) 160 = .ok (.iload 9, 2) := by decide +kernel
theorem d_RD_some_162 : decode (xcode m_RD_some) 162 = .ok (.iconst 1, 1) := by decide +kernel
theorem d_RD_some_163 : decode (xcode m_RD_some) 163 = .ok (.isub, 1) := by decide +kernel
theorem d_RD_some_164 : decode (xcode m_RD_some) 164 = .ok (.invokevirtual 155, 3) := by decide +kernel
theorem d_RD_some_167 : decode (xcode m_RD_some) 167 = .ok (.invokevirtual 72, 3) := by decide +kernel
theorem d_RD_some_170 : decode (xcode m_RD_some) 170 = .ok (.aload_n 0, 1) := by decide +kernel
theorem d_RD_some_171 : decode (xcode m_RD_some) 171 = .ok (.aload 7, 2) := by decide +kernel
theorem d_RD_some_173 : decode (xcode m_RD_some) 173 = .ok (.invokevirtual 79, 3) := by decide +kernel
theorem d_RD_some_176 : decode (xcode m_RD_some) 176 = .ok (.ireturn, 1) := by decide +kernel
theorem d_RD_order_0 : decode (xcode m_RD_order) 0 = .ok (.aload_n 0, 1) := by decide +kernel
theorem d_RD_order_1 : decode (xcode m_RD_order) 1 = .ok (.iload_n 1, 1) := by decide +kernel
theorem d_RD_order_2 : decode (xcode m_RD_order) 2 = .ok (.invokevirtual 56, 3) := by decide +kernel
theorem d_RD_order_5 : decode (xcode m_RD_order) 5 = .ok (.astore 4, 2) := by decide +kernel
theorem d_RD_order_7 : decode (xcode m_RD_order) 7 = .ok (.aload_n 0, 1) := by decide +kernel
theorem d_RD_order_8 : decode (xcode m_RD_order) 8 = .ok (.iload_n 3, 1) := by decide +kernel
theorem d_RD_order_9 : decode (xcode m_RD_order) 9 = .ok (.invokevirtual 56, 3) := by decide +kernel
theorem d_RD_order_12 : decode (xcode m_RD_order) 12 = .ok (.astore 5, 2) := by decide +kernel
theorem d_RD_order_14 : decode (xcode m_RD_order) 14 = .ok (.aload 4, 2) := by decide +kernel
theorem d_RD_order_16 : decode (xcode m_RD_order) 16 = .ok (.ifnull 17, 3) := by decide +kernel
theorem d_RD_order_19 : decode (xcode m_RD_order) 19 = .ok (.aload 5, 2) := by decide +kernel
theorem d_RD_order_21 : decode (xcode m_RD_order) 21 = .ok (.ifnull 12, 3) := by decide +kernel
theorem d_RD_order_24 : decode (xcode m_RD_order) 24 = .ok (.iload_n 2, 1) := by decide +kernel
theorem d_RD_order_25 : decode (xcode m_RD_order) 25 = .ok (.ifCond .lt 8, 3) := by decide +kernel
theorem d_RD_order_28 : decode (xcode m_RD_order) 28 = .ok (.iload_n 2, 1) := by decide +kernel
theorem d_RD_order_29 : decode (xcode m_RD_order) 29 = .ok (.iconst 1, 1) := by decide +kernel
theorem d_RD_order_30 : decode (xcode m_RD_order) 30 = .ok (.if_icmp .le 5, 3) := by decide +kernel
theorem d_RD_order_33 : decode (xcode m_RD_order) 33 = .ok (.iconst (-1), 1) := by decide +kernel
theorem d_RD_order_34 : decode (xcode m_RD_order) 34 = .ok (.ireturn, 1) := by decide +kernel
theorem d_RD_order_35 : decode (xcode m_RD_order) 35 = .ok (.aload_n 0, 1) := by decide +kernel
theorem d_RD_order_36 : decode (xcode m_RD_order) 36 = .ok (.getfield 28, 3) := by decide +kernel
theorem d_RD_order_39 : decode (xcode m_RD_order) 39 = .ok (.aload 4, 2) := by decide +kernel
theorem d_RD_order_41 : decode (xcode m_RD_order) 41 = .ok (.invokevirtual 143, 3) := by decide +kernel
theorem d_RD_order_44 : decode (xcode m_RD_order) 44 = .ok (.iload_n 2, 1) := by decide +kernel
theorem d_RD_order_45 : decode (xcode m_RD_order) 45 = .ok (.ifCond .ne 13, 3) := by decide +kernel
theorem d_RD_order_48 : decode (xcode m_RD_order) 48 = .ok (.aload_n 0, 1) := by decide +kernel
theorem d_RD_order_49 : decode (xcode m_RD_order) 49 = .ok (.getfield 28, 3) := by decide +kernel
theorem d_RD_order_52 : decode (xcode m_RD_order) 52 = .ok (.invokevirtual 161, 3) := by decide +kernel
theorem d_RD_order_55 : decode (xcode m_RD_order) 55 = .ok (.goto 12, 3) := by decide +kernel
theorem d_RD_order_58 : decode (xcode m_RD_order) 58 = .ok (.aload_n 0, 1) := by decide +kernel
theorem d_RD_order_59 : decode (xcode m_RD_order) 59 = .ok (.getfield 28, 3) := by decide +kernel
theorem d_RD_order_62 : decode (xcode m_RD_order) 62 = .ok (.aload 4, 2) := by decide +kernel
theorem d_RD_order_64 : decode (xcode m_RD_order) 64 = .ok (.invokevirtual 164, 3) := by decide +kernel
theorem d_RD_order_67 : decode (xcode m_RD_order) 67 = .ok (.aload_n 0, 1) := by decide +kernel
theorem d_RD_order_68 : decode (xcode m_RD_order) 68 = .ok (.aload 4, 2) := by decide +kernel
theorem d_RD_order_70 : decode (xcode m_RD_order) 70 = .ok (.invokevirtual 167, 3) := by decide +kernel
theorem d_RD_order_73 : decode (xcode m_RD_order) 73 = .ok (.aload_n 0, 1) := by decide +kernel
theorem d_RD_order_74 : decode (xcode m_RD_order) 74 = .ok (.aload 5, 2) := by decide +kernel
theorem d_RD_order_76 : decode (xcode m_RD_order) 76 = .ok (.invokevirtual 79, 3) := by decide +kernel
theorem d_RD_order_79 : decode (xcode m_RD_order) 79 = .ok (.ireturn, 1) := by decide +kernel
theorem d_RD_makeRanked_0 : decode (xcode m_RD_makeRanked) 0 = .ok (.aload_n 0, 1) := by decide +kernel
theorem d_RD_makeRanked_1 : decode (xcode m_RD_makeRanked) 1 = .ok (.getfield 22, 3) := by decide +kernel
theorem d_RD_makeRanked_4 : decode (xcode m_RD_makeRanked) 4 = .ok (.iconst 0, 1) := by decide +kernel
theorem d_RD_makeRanked_5 : decode (xcode m_RD_makeRanked) 5 = .ok (.invokevirtual 53, 3) := by decide +kernel
theorem d_RD_makeRanked_8 : decode (xcode m_RD_makeRanked) 8 = .ok (.iconst 0, 1) := by decide +kernel
theorem d_RD_makeRanked_9 : decode (xcode m_RD_makeRanked) 9 = .ok (.istore_n 2, 1) := by decide +kernel
theorem d_RD_makeRanked_10 : decode (xcode m_RD_makeRanked) 10 = .ok (.iconst 0, 1) := by decide +kernel
theorem d_RD_makeRanked_11 : decode (xcode m_RD_makeRanked) 11 = .ok (.istore_n 3, 1) := by decide +kernel
theorem d_RD_makeRanked_12 : decode (xcode m_RD_makeRanked) 12 = .ok (.iload_n 3, 1) := by decide +kernel
theorem d_RD_makeRanked_13 : decode (xcode m_RD_makeRanked) 13 = .ok (.aload_n 0, 1) := by decide +kernel
theorem d_RD_makeRanked_14 : decode (xcode m_RD_makeRanked) 14 = .ok (.getfield 28, 3) := by decide +kernel
theorem d_RD_makeRanked_17 : decode (xcode m_RD_makeRanked) 17 = .ok (.invokevirtual 146, 3) := by decide +kernel
theorem d_RD_makeRanked_20 : decode (xcode m_RD_makeRanked) 20 = .ok (.if_icmp .ge 71, 3) := by decide +kernel
theorem d_RD_makeRanked_23 : decode (xcode m_RD_makeRanked) 23 = .ok (.aload_n 0, 1) := by decide +kernel
theorem d_RD_makeRanked_24 : decode (xcode m_RD_makeRanked) 24 = .ok (.getfield 28, 3) := by decide +kernel
theorem d_RD_makeRanked_27 : decode (xcode m_RD_makeRanked) 27 = .ok (.iload_n 3, 1) := by decide +kernel
theorem d_RD_makeRanked_28 : decode (xcode m_RD_makeRanked) 28 = .ok (.invokevirtual 180, 3) := by decide +kernel
theorem d_RD_makeRanked_31 : decode (xcode m_RD_makeRanked) 31 = .ok (.istore 4, 2) := by decide +kernel
theorem d_RD_makeRanked_33 : decode (xcode m_RD_makeRanked) 33 = .ok (.aload_n 0, 1) := by decide +kernel
theorem d_RD_makeRanked_34 : decode (xcode m_RD_makeRanked) 34 = .ok (.getfield 22, 3) := by decide +kernel
theorem d_RD_makeRanked_37 : decode (xcode m_RD_makeRanked) 37 = .ok (.aload_n 1, 1) := by decide +kernel
theorem d_RD_makeRanked_38 : decode (xcode m_RD_makeRanked) 38 = .ok (.iload_n 2, 1) := by decide +kernel
theorem d_RD_makeRanked_39 : decode (xcode m_RD_makeRanked) 39 = .ok (.aload_n 0, 1) := by decide +kernel
theorem d_RD_makeRanked_40 : decode (xcode m_RD_makeRanked) 40 = .ok (.getfield 28, 3) := by decide +kernel
theorem d_RD_makeRanked_43 : decode (xcode m_RD_makeRanked) 43 = .ok (.iload_n 3, 1) := by decide +kernel
theorem d_RD_makeRanked_44 : decode (xcode m_RD_makeRanked) 44 = .ok (.invokevirtual 152, 3) := by decide +kernel
theorem d_RD_makeRanked_47 : decode (xcode m_RD_makeRanked) 47 = .ok (.invokevirtual 72, 3) := by decide +kernel
theorem d_RD_makeRanked_50 : decode (xcode m_RD_makeRanked) 50 = .ok (.aload_n 0, 1) := by decide +kernel
theorem d_RD_makeRanked_51 : decode (xcode m_RD_makeRanked) 51 = .ok (.getfield 22, 3) := by decide +kernel
theorem d_RD_makeRanked_54 : decode (xcode m_RD_makeRanked) 54 = .ok (.aload_n 1, 1) := by decide +kernel
theorem d_RD_makeRanked_55 : decode (xcode m_RD_makeRanked) 55 = .ok (.aload_n 0, 1) := by decide +kernel
theorem d_RD_makeRanked_56 : decode (xcode m_RD_makeRanked) 56 = .ok (.getfield 28, 3) := by decide +kernel
theorem d_RD_makeRanked_59 : decode (xcode m_RD_makeRanked) 59 = .ok (.iload 4, 2) := by decide +kernel
theorem d_RD_makeRanked_61 : decode (xcode m_RD_makeRanked) 61 = .ok (.invokevirtual 152, 3) := by decide +kernel
theorem d_RD_makeRanked_64 : decode (xcode m_RD_makeRanked) 64 = .ok (.aload_n 0, 1) := by decide +kernel
theorem d_RD_makeRanked_65 : decode (xcode m_RD_makeRanked) 65 = .ok (.getfield 28, 3) := by decide +kernel
theorem d_RD_makeRanked_68 : decode (xcode m_RD_makeRanked) 68 = .ok (.iload 4, 2) := by decide +kernel
theorem d_RD_makeRanked_70 : decode (xcode m_RD_makeRanked) 70 = .ok (.invokevirtual 155, 3) := by decide +kernel
theorem d_RD_makeRanked_73 : decode (xcode m_RD_makeRanked) 73 = .ok (.invokevirtual 72, 3) := by decide +kernel
theorem d_RD_makeRanked_76 : decode (xcode m_RD_makeRanked) 76 = .ok (.aload_n 0, 1) := by decide +kernel
theorem d_RD_makeRanked_77 : decode (xcode m_RD_makeRanked) 77 = .ok (.getfield 28, 3) := by decide +kernel
theorem d_RD_makeRanked_80 : decode (xcode m_RD_makeRanked) 80 = .ok (.iload_n 3, 1) := by decide +kernel
theorem d_RD_makeRanked_81 : decode (xcode m_RD_makeRanked) 81 = .ok (.invokevirtual 155, 3) := by decide +kernel
theorem d_RD_makeRanked_84 : decode (xcode m_RD_makeRanked) 84 = .ok (.istore_n 2, 1) := by decide +kernel
theorem d_RD_makeRanked_85 : decode (xcode m_RD_makeRanked) 85 = .ok (.iinc 3 1, 3) := by decide +kernel
theorem d_RD_makeRanked_88 : decode (xcode m_RD_makeRanked) 88 = .ok (.goto (-76), 3) := by decide +kernel
theorem d_RD_makeRanked_91 : decode (xcode m_RD_makeRanked) 91 = .ok (.aload_n 0, 1) := by decide +kernel
theorem d_RD_makeRanked_92 : decode (xcode m_RD_makeRanked) 92 = .ok (.getfield 22, 3) := by decide +kernel
theorem d_RD_makeRanked_95 : decode (xcode m_RD_makeRanked) 95 = .ok (.aload_n 1, 1) := by decide +kernel
theorem d_RD_makeRanked_96 : decode (xcode m_RD_makeRanked) 96 = .ok (.iload_n 2, 1) := by decide +kernel
theorem d_RD_makeRanked_97 : decode (xcode m_RD_makeRanked) 97 = .ok (.aload_n 1, 1) := by decide +kernel
theorem d_RD_makeRanked_98 : decode (xcode m_RD_makeRanked) 98 = .ok (.invokevirtual 46, 3) := by decide +kernel
theorem d_RD_makeRanked_101 : decode (xcode m_RD_makeRanked) 101 = .ok (.invokevirtual 72, 3) := by decide +kernel
theorem d_RD_makeRanked_104 : decode (xcode m_RD_makeRanked) 104 = .ok (.return_, 1) := by decide +kernel
theorem d_RD_place_0 : decode (xcode m_RD_place) 0 = .ok (.aload_n 0, 1) := by decide +kernel
theorem d_RD_place_1 : decode (xcode m_RD_place) 1 = .ok (.iload_n 1, 1) := by decide +kernel
theorem d_RD_place_2 : decode (xcode m_RD_place) 2 = .ok (.invokevirtual 56, 3) := by decide +kernel
theorem d_RD_place_5 : decode (xcode m_RD_place) 5 = .ok (.astore 4, 2) := by decide +kernel
theorem d_RD_place_7 : decode (xcode m_RD_place) 7 = .ok (.aload_n 0, 1) := by decide +kernel
theorem d_RD_place_8 : decode (xcode m_RD_place) 8 = .ok (.iload_n 2, 1) := by decide +kernel
theorem d_RD_place_9 : decode (xcode m_RD_place) 9 = .ok (.invokevirtual 56, 3) := by decide +kernel
theorem d_RD_place_12 : decode (xcode m_RD_place) 12 = .ok (.astore 5, 2) := by decide +kernel
theorem d_RD_place_14 : decode (xcode m_RD_place) 14 = .ok (.aload 4, 2) := by decide +kernel
theorem d_RD_place_16 : decode (xcode m_RD_place) 16 = .ok (.ifnull 13, 3) := by decide +kernel
theorem d_RD_place_19 : decode (xcode m_RD_place) 19 = .ok (.aload 5, 2) := by decide +kernel
theorem d_RD_place_21 : decode (xcode m_RD_place) 21 = .ok (.ifnull 8, 3) := by decide +kernel
theorem d_RD_place_24 : decode (xcode m_RD_place) 24 = .ok (.iload_n 3, 1) := by decide +kernel
theorem d_RD_place_25 : decode (xcode m_RD_place) 25 = .ok (.iconst 1, 1) := by decide +kernel
theorem d_RD_place_26 : decode (xcode m_RD_place) 26 = .ok (.if_icmp .ge 5, 3) := by decide +kernel
theorem d_RD_place_29 : decode (xcode m_RD_place) 29 = .ok (.iconst (-1), 1) := by decide +kernel
theorem d_RD_place_30 : decode (xcode m_RD_place) 30 = .ok (.ireturn, 1) := by decide +kernel
theorem d_RD_place_31 : decode (xcode m_RD_place) 31 = .ok (.aload_n 0, 1) := by decide +kernel
theorem d_RD_place_32 : decode (xcode m_RD_place) 32 = .ok (.getfield 32, 3) := by decide +kernel
theorem d_RD_place_35 : decode (xcode m_RD_place) 35 = .ok (.aload 4, 2) := by decide +kernel
theorem d_RD_place_37 : decode (xcode m_RD_place) 37 = .ok (.invokevirtual 143, 3) := by decide +kernel
theorem d_RD_place_40 : decode (xcode m_RD_place) 40 = .ok (.aload_n 0, 1) := by decide +kernel
theorem d_RD_place_41 : decode (xcode m_RD_place) 41 = .ok (.getfield 28, 3) := by decide +kernel
theorem d_RD_place_44 : decode (xcode m_RD_place) 44 = .ok (.aload 5, 2) := by decide +kernel
theorem d_RD_place_46 : decode (xcode m_RD_place) 46 = .ok (.invokevirtual 143, 3) := by decide +kernel
theorem d_RD_place_49 : decode (xcode m_RD_place) 49 = .ok (.aload_n 0, 1) := by decide +kernel
theorem d_RD_place_50 : decode (xcode m_RD_place) 50 = .ok (.getfield 32, 3) := by decide +kernel
theorem d_RD_place_53 : decode (xcode m_RD_place) 53 = .ok (.invokevirtual 146, 3) := by decide +kernel
theorem d_RD_place_56 : decode (xcode m_RD_place) 56 = .ok (.ifCond .ne 5, 3) := by decide +kernel
theorem d_RD_place_59 : decode (xcode m_RD_place) 59 = .ok (.iconst 0, 1) := by decide +kernel
theorem d_RD_place_60 : decode (xcode m_RD_place) 60 = .ok (.ireturn, 1) := by decide +kernel
theorem d_RD_place_61 : decode (xcode m_RD_place) 61 = .ok (.iload_n 3, 1) := by decide +kernel
theorem d_RD_place_62 : decode (xcode m_RD_place) 62 = .ok (.iconst 1, 1) := by decide +kernel
theorem d_RD_place_63 : decode (xcode m_RD_place) 63 = .ok (.isub, 1) := by decide +kernel
theorem d_RD_place_64 : decode (xcode m_RD_place) 64 = .ok (.istore 6, 2) := by decide +kernel
theorem d_RD_place_66 : decode (xcode m_RD_place) 66 = .ok (.iload 6, 2) := by decide +kernel
theorem d_RD_place_68 : decode (xcode m_RD_place) 68 = .ok (.aload_n 0, 1) := by decide +kernel
theorem d_RD_place_69 : decode (xcode m_RD_place) 69 = .ok (.getfield 28, 3) := by decide +kernel
theorem d_RD_place_72 : decode (xcode m_RD_place) 72 = .ok (.invokevirtual 146, 3) := by decide +kernel
theorem d_RD_place_75 : decode (xcode m_RD_place) 75 = .ok (.aload_n 0, 1) := by decide +kernel
theorem d_RD_place_76 : decode (xcode m_RD_place) 76 = .ok (.getfield 32, 3) := by decide +kernel
theorem d_RD_place_79 : decode (xcode m_RD_place) 79 = .ok (.invokevirtual 146, 3) := by decide +kernel
theorem d_RD_place_82 : decode (xcode m_RD_place) 82 = .ok (.isub, 1) := by decide +kernel
theorem d_RD_place_83 : decode (xcode m_RD_place) 83 = .ok (.if_icmp .gt 27, 3) := by decide +kernel
theorem d_RD_place_86 : decode (xcode m_RD_place) 86 = .ok (.aload_n 0, 1) := by decide +kernel
theorem d_RD_place_87 : decode (xcode m_RD_place) 87 = .ok (.iload 6, 2) := by decide +kernel
theorem d_RD_place_89 : decode (xcode m_RD_place) 89 = .ok (.aload 4, 2) := by decide +kernel
theorem d_RD_place_91 : decode (xcode m_RD_place) 91 = .ok (.aload 5, 2) := by decide +kernel
theorem d_RD_place_93 : decode (xcode m_RD_place) 93 = .ok (.invokevirtual 170, 3) := by decide +kernel
theorem d_RD_place_96 : decode (xcode m_RD_place) 96 = .ok (.ifCond .eq 8, 3) := by decide +kernel
theorem d_RD_place_99 : decode (xcode m_RD_place) 99 = .ok (.iload 6, 2) := by decide +kernel
theorem d_RD_place_101 : decode (xcode m_RD_place) 101 = .ok (.iconst 1, 1) := by decide +kernel
theorem d_RD_place_102 : decode (xcode m_RD_place) 102 = .ok (.iadd, 1) := by decide +kernel
theorem d_RD_place_103 : decode (xcode m_RD_place) 103 = .ok (.ireturn, 1) := by decide +kernel
theorem d_RD_place_104 : decode (xcode m_RD_place) 104 = .ok (.iinc 6 1, 3) := by decide +kernel
theorem d_RD_place_107 : decode (xcode m_RD_place) 107 = .ok (.goto (-41), 3) := by decide +kernel
theorem d_RD_place_110 : decode (xcode m_RD_place) 110 = .ok (.iconst 0, 1) := by decide +kernel
theorem d_RD_place_111 : decode (xcode m_RD_place) 111 = .ok (.ireturn, 1) := by decide +kernel
theorem d_RD_soughtWordsStandAt_0 : decode (xcode m_RD_soughtWordsStandAt) 0 = .ok (.iconst 0, 1) := by decide +kernel
theorem d_RD_soughtWordsStandAt_1 : decode (xcode m_RD_soughtWordsStandAt) 1 = .ok (.istore 4, 2) := by decide +kernel
theorem d_RD_soughtWordsStandAt_3 : decode (xcode m_RD_soughtWordsStandAt) 3 = .ok (.iload 4, 2) := by decide +kernel
theorem d_RD_soughtWordsStandAt_5 : decode (xcode m_RD_soughtWordsStandAt) 5 = .ok (.aload_n 0, 1) := by decide +kernel
theorem d_RD_soughtWordsStandAt_6 : decode (xcode m_RD_soughtWordsStandAt) 6 = .ok (.getfield 32, 3) := by decide +kernel
theorem d_RD_soughtWordsStandAt_9 : decode (xcode m_RD_soughtWordsStandAt) 9 = .ok (.invokevirtual 146, 3) := by decide +kernel
theorem d_RD_soughtWordsStandAt_12 : decode (xcode m_RD_soughtWordsStandAt) 12 = .ok (.if_icmp .ge 70, 3) := by decide +kernel
theorem d_RD_soughtWordsStandAt_15 : decode (xcode m_RD_soughtWordsStandAt) 15 = .ok (.aload_n 0, 1) := by decide +kernel
theorem d_RD_soughtWordsStandAt_16 : decode (xcode m_RD_soughtWordsStandAt) 16 = .ok (.getfield 32, 3) := by decide +kernel
theorem d_RD_soughtWordsStandAt_19 : decode (xcode m_RD_soughtWordsStandAt) 19 = .ok (.iload 4, 2) := by decide +kernel
theorem d_RD_soughtWordsStandAt_21 : decode (xcode m_RD_soughtWordsStandAt) 21 = .ok (.invokevirtual 158, 3) := by decide +kernel
theorem d_RD_soughtWordsStandAt_24 : decode (xcode m_RD_soughtWordsStandAt) 24 = .ok (.istore 5, 2) := by decide +kernel
theorem d_RD_soughtWordsStandAt_26 : decode (xcode m_RD_soughtWordsStandAt) 26 = .ok (.aload_n 0, 1) := by decide +kernel
theorem d_RD_soughtWordsStandAt_27 : decode (xcode m_RD_soughtWordsStandAt) 27 = .ok (.getfield 28, 3) := by decide +kernel
theorem d_RD_soughtWordsStandAt_30 : decode (xcode m_RD_soughtWordsStandAt) 30 = .ok (.iload_n 1, 1) := by decide +kernel
theorem d_RD_soughtWordsStandAt_31 : decode (xcode m_RD_soughtWordsStandAt) 31 = .ok (.iload 4, 2) := by decide +kernel
theorem d_RD_soughtWordsStandAt_33 : decode (xcode m_RD_soughtWordsStandAt) 33 = .ok (.iadd, 1) := by decide +kernel
theorem d_RD_soughtWordsStandAt_34 : decode (xcode m_RD_soughtWordsStandAt) 34 = .ok (.invokevirtual 158, 3) := by decide +kernel
theorem d_RD_soughtWordsStandAt_37 : decode (xcode m_RD_soughtWordsStandAt) 37 = .ok (.iload 5, 2) := by decide +kernel
theorem d_RD_soughtWordsStandAt_39 : decode (xcode m_RD_soughtWordsStandAt) 39 = .ok (.if_icmp .eq 5, 3) := by decide +kernel
theorem d_RD_soughtWordsStandAt_42 : decode (xcode m_RD_soughtWordsStandAt) 42 = .ok (.iconst 0, 1) := by decide +kernel
theorem d_RD_soughtWordsStandAt_43 : decode (xcode m_RD_soughtWordsStandAt) 43 = .ok (.ireturn, 1) := by decide +kernel
theorem d_RD_soughtWordsStandAt_44 : decode (xcode m_RD_soughtWordsStandAt) 44 = .ok (.aload_n 3, 1) := by decide +kernel
theorem d_RD_soughtWordsStandAt_45 : decode (xcode m_RD_soughtWordsStandAt) 45 = .ok (.aload_n 0, 1) := by decide +kernel
theorem d_RD_soughtWordsStandAt_46 : decode (xcode m_RD_soughtWordsStandAt) 46 = .ok (.getfield 28, 3) := by decide +kernel
theorem d_RD_soughtWordsStandAt_49 : decode (xcode m_RD_soughtWordsStandAt) 49 = .ok (.iload_n 1, 1) := by decide +kernel
theorem d_RD_soughtWordsStandAt_50 : decode (xcode m_RD_soughtWordsStandAt) 50 = .ok (.iload 4, 2) := by decide +kernel
theorem d_RD_soughtWordsStandAt_52 : decode (xcode m_RD_soughtWordsStandAt) 52 = .ok (.iadd, 1) := by decide +kernel
theorem d_RD_soughtWordsStandAt_53 : decode (xcode m_RD_soughtWordsStandAt) 53 = .ok (.invokevirtual 152, 3) := by decide +kernel
theorem d_RD_soughtWordsStandAt_56 : decode (xcode m_RD_soughtWordsStandAt) 56 = .ok (.aload_n 2, 1) := by decide +kernel
theorem d_RD_soughtWordsStandAt_57 : decode (xcode m_RD_soughtWordsStandAt) 57 = .ok (.aload_n 0, 1) := by decide +kernel
theorem d_RD_soughtWordsStandAt_58 : decode (xcode m_RD_soughtWordsStandAt) 58 = .ok (.getfield 32, 3) := by decide +kernel
theorem d_RD_soughtWordsStandAt_61 : decode (xcode m_RD_soughtWordsStandAt) 61 = .ok (.iload 4, 2) := by decide +kernel
theorem d_RD_soughtWordsStandAt_63 : decode (xcode m_RD_soughtWordsStandAt) 63 = .ok (.invokevirtual 152, 3) := by decide +kernel
theorem d_RD_soughtWordsStandAt_66 : decode (xcode m_RD_soughtWordsStandAt) 66 = .ok (.iload 5, 2) := by decide +kernel
theorem d_RD_soughtWordsStandAt_68 : decode (xcode m_RD_soughtWordsStandAt) 68 = .ok (.invokevirtual 183, 3) := by decide +kernel
theorem d_RD_soughtWordsStandAt_71 : decode (xcode m_RD_soughtWordsStandAt) 71 = .ok (.ifCond .ne 5, 3) := by decide +kernel
theorem d_RD_soughtWordsStandAt_74 : decode (xcode m_RD_soughtWordsStandAt) 74 = .ok (.iconst 0, 1) := by decide +kernel
theorem d_RD_soughtWordsStandAt_75 : decode (xcode m_RD_soughtWordsStandAt) 75 = .ok (.ireturn, 1) := by decide +kernel
theorem d_RD_soughtWordsStandAt_76 : decode (xcode m_RD_soughtWordsStandAt) 76 = .ok (.iinc 4 1, 3) := by decide +kernel
theorem d_RD_soughtWordsStandAt_79 : decode (xcode m_RD_soughtWordsStandAt) 79 = .ok (.goto (-76), 3) := by decide +kernel
theorem d_RD_soughtWordsStandAt_82 : decode (xcode m_RD_soughtWordsStandAt) 82 = .ok (.iconst 1, 1) := by decide +kernel
theorem d_RD_soughtWordsStandAt_83 : decode (xcode m_RD_soughtWordsStandAt) 83 = .ok (.ireturn, 1) := by decide +kernel
