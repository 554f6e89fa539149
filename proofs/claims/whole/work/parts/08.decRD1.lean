theorem d_RD_find_0 : decode (xcode m_RD_find) 0 = .ok (.aload_n 0, 1) := by decide +kernel
theorem d_RD_find_1 : decode (xcode m_RD_find) 1 = .ok (.iload_n 1, 1) := by decide +kernel
theorem d_RD_find_2 : decode (xcode m_RD_find) 2 = .ok (.invokevirtual 56, 3) := by decide +kernel
theorem d_RD_find_5 : decode (xcode m_RD_find) 5 = .ok (.astore 5, 2) := by decide +kernel
theorem d_RD_find_7 : decode (xcode m_RD_find) 7 = .ok (.aload_n 0, 1) := by decide +kernel
theorem d_RD_find_8 : decode (xcode m_RD_find) 8 = .ok (.iload_n 2, 1) := by decide +kernel
theorem d_RD_find_9 : decode (xcode m_RD_find) 9 = .ok (.invokevirtual 56, 3) := by decide +kernel
theorem d_RD_find_12 : decode (xcode m_RD_find) 12 = .ok (.astore 6, 2) := by decide +kernel
theorem d_RD_find_14 : decode (xcode m_RD_find) 14 = .ok (.iload 4, 2) := by decide +kernel
theorem d_RD_find_16 : decode (xcode m_RD_find) 16 = .ok (.ifCond .eq 12, 3) := by decide +kernel
theorem d_RD_find_19 : decode (xcode m_RD_find) 19 = .ok (.iload_n 3, 1) := by decide +kernel
theorem d_RD_find_20 : decode (xcode m_RD_find) 20 = .ok (.iconst (-1), 1) := by decide +kernel
theorem d_RD_find_21 : decode (xcode m_RD_find) 21 = .ok (.if_icmp .ne 7, 3) := by decide +kernel
theorem d_RD_find_24 : decode (xcode m_RD_find) 24 = .ok (.iconst 1, 1) := by decide +kernel
theorem d_RD_find_25 : decode (xcode m_RD_find) 25 = .ok (.goto 4, 3) := by decide +kernel
theorem d_RD_find_28 : decode (xcode m_RD_find) 28 = .ok (.iconst 0, 1) := by decide +kernel
theorem d_RD_find_29 : decode (xcode m_RD_find) 29 = .ok (.istore 7, 2) := by decide +kernel
theorem d_RD_find_31 : decode (xcode m_RD_find) 31 = .ok (.aload 5, 2) := by decide +kernel
theorem d_RD_find_33 : decode (xcode m_RD_find) 33 = .ok (.ifnull 18, 3) := by decide +kernel
theorem d_RD_find_36 : decode (xcode m_RD_find) 36 = .ok (.aload 6, 2) := by decide +kernel
theorem d_RD_find_38 : decode (xcode m_RD_find) 38 = .ok (.ifnull 13, 3) := by decide +kernel
theorem d_RD_find_41 : decode (xcode m_RD_find) 41 = .ok (.iload_n 3, 1) := by decide +kernel
theorem d_RD_find_42 : decode (xcode m_RD_find) 42 = .ok (.iconst 1, 1) := by decide +kernel
theorem d_RD_find_43 : decode (xcode m_RD_find) 43 = .ok (.if_icmp .ge 10, 3) := by decide +kernel
theorem d_RD_find_46 : decode (xcode m_RD_find) 46 = .ok (.iload 7, 2) := by decide +kernel
theorem d_RD_find_48 : decode (xcode m_RD_find) 48 = .ok (.ifCond .ne 5, 3) := by decide +kernel
theorem d_RD_find_51 : decode (xcode m_RD_find) 51 = .ok (.iconst (-1), 1) := by decide +kernel
theorem d_RD_find_52 : decode (xcode m_RD_find) 52 = .ok (.ireturn, 1) := by decide +kernel
theorem d_RD_find_53 : decode (xcode m_RD_find) 53 = .ok (.iload 4, 2) := by decide +kernel
theorem d_RD_find_55 : decode (xcode m_RD_find) 55 = .ok (.ifCond .eq 33, 3) := by decide +kernel
theorem d_RD_find_58 : decode (xcode m_RD_find) 58 = .ok (.aload 5, 2) := by decide +kernel
theorem d_RD_find_60 : decode (xcode m_RD_find) 60 = .ok (.aload 6, 2) := by decide +kernel
theorem d_RD_find_62 : decode (xcode m_RD_find) 62 = .ok (.iload 7, 2) := by decide +kernel
theorem d_RD_find_64 : decode (xcode m_RD_find) 64 = .ok (.ifCond .eq 11, 3) := by decide +kernel
theorem d_RD_find_67 : decode (xcode m_RD_find) 67 = .ok (.aload 6, 2) := by decide +kernel
theorem d_RD_find_69 : decode (xcode m_RD_find) 69 = .ok (.invokevirtual 46, 3) := by decide +kernel
theorem d_RD_find_72 : decode (xcode m_RD_find) 72 = .ok (.goto 12, 3) := by decide +kernel
theorem d_RD_find_75 : decode (xcode m_RD_find) 75 = .ok (.iload_n 3, 1) := by decide +kernel
theorem d_RD_find_76 : decode (xcode m_RD_find) 76 = .ok (.aload 6, 2) := by decide +kernel
theorem d_RD_find_78 : decode (xcode m_RD_find) 78 = .ok (.invokevirtual 46, 3) := by decide +kernel
theorem d_RD_find_81 : decode (xcode m_RD_find) 81 = .ok (.invokestatic 100, 3) := by decide +kernel
theorem d_RD_find_84 : decode (xcode m_RD_find) 84 = .ok (.invokestatic 103, 3) := by decide +kernel
theorem d_RD_find_87 : decode (xcode m_RD_find) 87 = .ok (.ireturn, 1) := by decide +kernel
theorem d_RD_find_88 : decode (xcode m_RD_find) 88 = .ok (.aload 5, 2) := by decide +kernel
theorem d_RD_find_90 : decode (xcode m_RD_find) 90 = .ok (.aload 6, 2) := by decide +kernel
theorem d_RD_find_92 : decode (xcode m_RD_find) 92 = .ok (.iload_n 3, 1) := by decide +kernel
theorem d_RD_find_93 : decode (xcode m_RD_find) 93 = .ok (.invokestatic 107, 3) := by decide +kernel
theorem d_RD_find_96 : decode (xcode m_RD_find) 96 = .ok (.ireturn, 1) := by decide +kernel
theorem d_RD_lastPlace_0 : decode (xcode m_RD_lastPlace) 0 = .ok (.iload_n 2, 1) := by decide +kernel
theorem d_RD_lastPlace_1 : decode (xcode m_RD_lastPlace) 1 = .ok (.aload_n 0, 1) := by decide +kernel
theorem d_RD_lastPlace_2 : decode (xcode m_RD_lastPlace) 2 = .ok (.invokevirtual 46, 3) := by decide +kernel
theorem d_RD_lastPlace_5 : decode (xcode m_RD_lastPlace) 5 = .ok (.isub, 1) := by decide +kernel
theorem d_RD_lastPlace_6 : decode (xcode m_RD_lastPlace) 6 = .ok (.istore_n 3, 1) := by decide +kernel
theorem d_RD_lastPlace_7 : decode (xcode m_RD_lastPlace) 7 = .ok (.iload_n 3, 1) := by decide +kernel
theorem d_RD_lastPlace_8 : decode (xcode m_RD_lastPlace) 8 = .ok (.ifCond .lt 22, 3) := by decide +kernel
theorem d_RD_lastPlace_11 : decode (xcode m_RD_lastPlace) 11 = .ok (.aload_n 1, 1) := by decide +kernel
theorem d_RD_lastPlace_12 : decode (xcode m_RD_lastPlace) 12 = .ok (.iload_n 3, 1) := by decide +kernel
theorem d_RD_lastPlace_13 : decode (xcode m_RD_lastPlace) 13 = .ok (.aload_n 0, 1) := by decide +kernel
theorem d_RD_lastPlace_14 : decode (xcode m_RD_lastPlace) 14 = .ok (.invokevirtual 176, 3) := by decide +kernel
theorem d_RD_lastPlace_17 : decode (xcode m_RD_lastPlace) 17 = .ok (.ifCond .eq 7, 3) := by decide +kernel
theorem d_RD_lastPlace_20 : decode (xcode m_RD_lastPlace) 20 = .ok (.iload_n 3, 1) := by decide +kernel
theorem d_RD_lastPlace_21 : decode (xcode m_RD_lastPlace) 21 = .ok (.iconst 1, 1) := by decide +kernel
theorem d_RD_lastPlace_22 : decode (xcode m_RD_lastPlace) 22 = .ok (.iadd, 1) := by decide +kernel
theorem d_RD_lastPlace_23 : decode (xcode m_RD_lastPlace) 23 = .ok (.ireturn, 1) := by decide +kernel
theorem d_RD_lastPlace_24 : decode (xcode m_RD_lastPlace) 24 = .ok (.iinc 3 (-1), 3) := by decide +kernel
theorem d_RD_lastPlace_27 : decode (xcode m_RD_lastPlace) 27 = .ok (.goto (-20), 3) := by decide +kernel
theorem d_RD_lastPlace_30 : decode (xcode m_RD_lastPlace) 30 = .ok (.iconst 0, 1) := by decide +kernel
theorem d_RD_lastPlace_31 : decode (xcode m_RD_lastPlace) 31 = .ok (.ireturn, 1) := by decide +kernel
theorem d_RD_firstPlace_0 : decode (xcode m_RD_firstPlace) 0 = .ok (.iload_n 2, 1) := by decide +kernel
theorem d_RD_firstPlace_1 : decode (xcode m_RD_firstPlace) 1 = .ok (.iconst 1, 1) := by decide +kernel
theorem d_RD_firstPlace_2 : decode (xcode m_RD_firstPlace) 2 = .ok (.isub, 1) := by decide +kernel
theorem d_RD_firstPlace_3 : decode (xcode m_RD_firstPlace) 3 = .ok (.istore_n 3, 1) := by decide +kernel
theorem d_RD_firstPlace_4 : decode (xcode m_RD_firstPlace) 4 = .ok (.iload_n 3, 1) := by decide +kernel
theorem d_RD_firstPlace_5 : decode (xcode m_RD_firstPlace) 5 = .ok (.aload_n 1, 1) := by decide +kernel
theorem d_RD_firstPlace_6 : decode (xcode m_RD_firstPlace) 6 = .ok (.invokevirtual 46, 3) := by decide +kernel
theorem d_RD_firstPlace_9 : decode (xcode m_RD_firstPlace) 9 = .ok (.if_icmp .ge 22, 3) := by decide +kernel
theorem d_RD_firstPlace_12 : decode (xcode m_RD_firstPlace) 12 = .ok (.aload_n 1, 1) := by decide +kernel
theorem d_RD_firstPlace_13 : decode (xcode m_RD_firstPlace) 13 = .ok (.iload_n 3, 1) := by decide +kernel
theorem d_RD_firstPlace_14 : decode (xcode m_RD_firstPlace) 14 = .ok (.aload_n 0, 1) := by decide +kernel
theorem d_RD_firstPlace_15 : decode (xcode m_RD_firstPlace) 15 = .ok (.invokevirtual 176, 3) := by decide +kernel
theorem d_RD_firstPlace_18 : decode (xcode m_RD_firstPlace) 18 = .ok (.ifCond .eq 7, 3) := by decide +kernel
theorem d_RD_firstPlace_21 : decode (xcode m_RD_firstPlace) 21 = .ok (.iload_n 3, 1) := by decide +kernel
theorem d_RD_firstPlace_22 : decode (xcode m_RD_firstPlace) 22 = .ok (.iconst 1, 1) := by decide +kernel
theorem d_RD_firstPlace_23 : decode (xcode m_RD_firstPlace) 23 = .ok (.iadd, 1) := by decide +kernel
theorem d_RD_firstPlace_24 : decode (xcode m_RD_firstPlace) 24 = .ok (.ireturn, 1) := by decide +kernel
theorem d_RD_firstPlace_25 : decode (xcode m_RD_firstPlace) 25 = .ok (.iinc 3 1, 3) := by decide +kernel
theorem d_RD_firstPlace_28 : decode (xcode m_RD_firstPlace) 28 = .ok (.goto (-24), 3) := by decide +kernel
theorem d_RD_firstPlace_31 : decode (xcode m_RD_firstPlace) 31 = .ok (.iconst 0, 1) := by decide +kernel
theorem d_RD_firstPlace_32 : decode (xcode m_RD_firstPlace) 32 = .ok (.ireturn, 1) := by decide +kernel
theorem d_RD_change_0 : decode (xcode m_RD_change) 0 = .ok (.aload_n 0, 1) := by decide +kernel
theorem d_RD_change_1 : decode (xcode m_RD_change) 1 = .ok (.iload_n 1, 1) := by decide +kernel
theorem d_RD_change_2 : decode (xcode m_RD_change) 2 = .ok (.invokevirtual 56, 3) := by decide +kernel
theorem d_RD_change_5 : decode (xcode m_RD_change) 5 = .ok (.astore 5, 2) := by decide +kernel
theorem d_RD_change_7 : decode (xcode m_RD_change) 7 = .ok (.aload_n 0, 1) := by decide +kernel
theorem d_RD_change_8 : decode (xcode m_RD_change) 8 = .ok (.iload_n 2, 1) := by decide +kernel
theorem d_RD_change_9 : decode (xcode m_RD_change) 9 = .ok (.invokevirtual 56, 3) := by decide +kernel
theorem d_RD_change_12 : decode (xcode m_RD_change) 12 = .ok (.astore 6, 2) := by decide +kernel
theorem d_RD_change_14 : decode (xcode m_RD_change) 14 = .ok (.aload_n 0, 1) := by decide +kernel
theorem d_RD_change_15 : decode (xcode m_RD_change) 15 = .ok (.iload_n 3, 1) := by decide +kernel
theorem d_RD_change_16 : decode (xcode m_RD_change) 16 = .ok (.invokevirtual 56, 3) := by decide +kernel
theorem d_RD_change_19 : decode (xcode m_RD_change) 19 = .ok (.astore 7, 2) := by decide +kernel
theorem d_RD_change_21 : decode (xcode m_RD_change) 21 = .ok (.aload_n 0, 1) := by decide +kernel
theorem d_RD_change_22 : decode (xcode m_RD_change) 22 = .ok (.iload 4, 2) := by decide +kernel
theorem d_RD_change_24 : decode (xcode m_RD_change) 24 = .ok (.invokevirtual 56, 3) := by decide +kernel
theorem d_RD_change_27 : decode (xcode m_RD_change) 27 = .ok (.astore 8, 2) := by decide +kernel
theorem d_RD_change_29 : decode (xcode m_RD_change) 29 = .ok (.aload 5, 2) := by decide +kernel
theorem d_RD_change_31 : decode (xcode m_RD_change) 31 = .ok (.ifnull 18, 3) := by decide +kernel
theorem d_RD_change_34 : decode (xcode m_RD_change) 34 = .ok (.aload 6, 2) := by decide +kernel
theorem d_RD_change_36 : decode (xcode m_RD_change) 36 = .ok (.ifnull 13, 3) := by decide +kernel
theorem d_RD_change_39 : decode (xcode m_RD_change) 39 = .ok (.aload 7, 2) := by decide +kernel
theorem d_RD_change_41 : decode (xcode m_RD_change) 41 = .ok (.ifnull 8, 3) := by decide +kernel
theorem d_RD_change_44 : decode (xcode m_RD_change) 44 = .ok (.aload 8, 2) := by decide +kernel
theorem d_RD_change_46 : decode (xcode m_RD_change) 46 = .ok (.ifnonnull 5, 3) := by decide +kernel
theorem d_RD_change_49 : decode (xcode m_RD_change) 49 = .ok (.iconst (-1), 1) := by decide +kernel
theorem d_RD_change_50 : decode (xcode m_RD_change) 50 = .ok (.ireturn, 1) := by decide +kernel
theorem d_RD_change_51 : decode (xcode m_RD_change) 51 = .ok (.aload 6, 2) := by decide +kernel
theorem d_RD_change_53 : decode (xcode m_RD_change) 53 = .ok (.invokevirtual 46, 3) := by decide +kernel
theorem d_RD_change_56 : decode (xcode m_RD_change) 56 = .ok (.aload 5, 2) := by decide +kernel
theorem d_RD_change_58 : decode (xcode m_RD_change) 58 = .ok (.aload 6, 2) := by decide +kernel
theorem d_RD_change_60 : decode (xcode m_RD_change) 60 = .ok (.invokestatic 110, 3) := by decide +kernel
theorem d_RD_change_63 : decode (xcode m_RD_change) 63 = .ok (.aload 7, 2) := by decide +kernel
theorem d_RD_change_65 : decode (xcode m_RD_change) 65 = .ok (.invokevirtual 46, 3) := by decide +kernel
theorem d_RD_change_68 : decode (xcode m_RD_change) 68 = .ok (.aload 5, 2) := by decide +kernel
theorem d_RD_change_70 : decode (xcode m_RD_change) 70 = .ok (.invokevirtual 46, 3) := by decide +kernel
theorem d_RD_change_73 : decode (xcode m_RD_change) 73 = .ok (.isub, 1) := by decide +kernel
theorem d_RD_change_74 : decode (xcode m_RD_change) 74 = .ok (.imul, 1) := by decide +kernel
theorem d_RD_change_75 : decode (xcode m_RD_change) 75 = .ok (.iadd, 1) := by decide +kernel
theorem d_RD_change_76 : decode (xcode m_RD_change) 76 = .ok (.sipush 200, 3) := by decide +kernel
theorem d_RD_change_79 : decode (xcode m_RD_change) 79 = .ok (.if_icmp .le 6, 3) := by decide +kernel
theorem d_RD_change_82 : decode (xcode m_RD_change) 82 = .ok (.bipush (-4), 2) := by decide +kernel
theorem d_RD_change_84 : decode (xcode m_RD_change) 84 = .ok (.ireturn, 1) := by decide +kernel
theorem d_RD_change_85 : decode (xcode m_RD_change) 85 = .ok (.aload_n 0, 1) := by decide +kernel
theorem d_RD_change_86 : decode (xcode m_RD_change) 86 = .ok (.aload 5, 2) := by decide +kernel
theorem d_RD_change_88 : decode (xcode m_RD_change) 88 = .ok (.aload 6, 2) := by decide +kernel
theorem d_RD_change_90 : decode (xcode m_RD_change) 90 = .ok (.aload 7, 2) := by decide +kernel
theorem d_RD_change_92 : decode (xcode m_RD_change) 92 = .ok (.invokevirtual 114, 3) := by decide +kernel
theorem d_RD_change_95 : decode (xcode m_RD_change) 95 = .ok (.aload_n 0, 1) := by decide +kernel
theorem d_RD_change_96 : decode (xcode m_RD_change) 96 = .ok (.aload 8, 2) := by decide +kernel
theorem d_RD_change_98 : decode (xcode m_RD_change) 98 = .ok (.invokevirtual 79, 3) := by decide +kernel
theorem d_RD_change_101 : decode (xcode m_RD_change) 101 = .ok (.ireturn, 1) := by decide +kernel
theorem d_RD_countOf_0 : decode (xcode m_RD_countOf) 0 = .ok (.iconst 0, 1) := by decide +kernel
theorem d_RD_countOf_1 : decode (xcode m_RD_countOf) 1 = .ok (.istore_n 2, 1) := by decide +kernel
theorem d_RD_countOf_2 : decode (xcode m_RD_countOf) 2 = .ok (.iconst 0, 1) := by decide +kernel
theorem d_RD_countOf_3 : decode (xcode m_RD_countOf) 3 = .ok (.istore_n 3, 1) := by decide +kernel
theorem d_RD_countOf_4 : decode (xcode m_RD_countOf) 4 = .ok (.iconst 0, 1) := by decide +kernel
theorem d_RD_countOf_5 : decode (xcode m_RD_countOf) 5 = .ok (.istore 4, 2) := by decide +kernel
theorem d_RD_countOf_7 : decode (xcode m_RD_countOf) 7 = .ok (.iload 4, 2) := by decide +kernel
theorem d_RD_countOf_9 : decode (xcode m_RD_countOf) 9 = .ok (.aload_n 1, 1) := by decide +kernel
theorem d_RD_countOf_10 : decode (xcode m_RD_countOf) 10 = .ok (.invokevirtual 46, 3) := by decide +kernel
theorem d_RD_countOf_13 : decode (xcode m_RD_countOf) 13 = .ok (.if_icmp .ge 36, 3) := by decide +kernel
theorem d_RD_countOf_16 : decode (xcode m_RD_countOf) 16 = .ok (.iload 4, 2) := by decide +kernel
theorem d_RD_countOf_18 : decode (xcode m_RD_countOf) 18 = .ok (.iload_n 3, 1) := by decide +kernel
theorem d_RD_countOf_19 : decode (xcode m_RD_countOf) 19 = .ok (.if_icmp .lt 24, 3) := by decide +kernel
theorem d_RD_countOf_22 : decode (xcode m_RD_countOf) 22 = .ok (.aload_n 1, 1) := by decide +kernel
theorem d_RD_countOf_23 : decode (xcode m_RD_countOf) 23 = .ok (.iload 4, 2) := by decide +kernel
theorem d_RD_countOf_25 : decode (xcode m_RD_countOf) 25 = .ok (.aload_n 0, 1) := by decide +kernel
theorem d_RD_countOf_26 : decode (xcode m_RD_countOf) 26 = .ok (.invokevirtual 176, 3) := by decide +kernel
theorem d_RD_countOf_29 : decode (xcode m_RD_countOf) 29 = .ok (.ifCond .eq 14, 3) := by decide +kernel
theorem d_RD_countOf_32 : decode (xcode m_RD_countOf) 32 = .ok (.iinc 2 1, 3) := by decide +kernel
theorem d_RD_countOf_35 : decode (xcode m_RD_countOf) 35 = .ok (.iload 4, 2) := by decide +kernel
theorem d_RD_countOf_37 : decode (xcode m_RD_countOf) 37 = .ok (.aload_n 0, 1) := by decide +kernel
theorem d_RD_countOf_38 : decode (xcode m_RD_countOf) 38 = .ok (.invokevirtual 46, 3) := by decide +kernel
theorem d_RD_countOf_41 : decode (xcode m_RD_countOf) 41 = .ok (.iadd, 1) := by decide +kernel
theorem d_RD_countOf_42 : decode (xcode m_RD_countOf) 42 = .ok (.istore_n 3, 1) := by decide +kernel
theorem d_RD_countOf_43 : decode (xcode m_RD_countOf) 43 = .ok (.iinc 4 1, 3) := by decide +kernel
theorem d_RD_countOf_46 : decode (xcode m_RD_countOf) 46 = .ok (.goto (-39), 3) := by decide +kernel
theorem d_RD_countOf_49 : decode (xcode m_RD_countOf) 49 = .ok (.iload_n 2, 1) := by decide +kernel
theorem d_RD_countOf_50 : decode (xcode m_RD_countOf) 50 = .ok (.ireturn, 1) := by decide +kernel
theorem d_RD_makeChanged_0 : decode (xcode m_RD_makeChanged) 0 = .ok (.aload_n 0, 1) := by decide +kernel
theorem d_RD_makeChanged_1 : decode (xcode m_RD_makeChanged) 1 = .ok (.getfield 22, 3) := by decide +kernel
theorem d_RD_makeChanged_4 : decode (xcode m_RD_makeChanged) 4 = .ok (.iconst 0, 1) := by decide +kernel
theorem d_RD_makeChanged_5 : decode (xcode m_RD_makeChanged) 5 = .ok (.invokevirtual 53, 3) := by decide +kernel
theorem d_RD_makeChanged_8 : decode (xcode m_RD_makeChanged) 8 = .ok (.iconst 0, 1) := by decide +kernel
theorem d_RD_makeChanged_9 : decode (xcode m_RD_makeChanged) 9 = .ok (.istore 4, 2) := by decide +kernel
theorem d_RD_makeChanged_11 : decode (xcode m_RD_makeChanged) 11 = .ok (.iconst 0, 1) := by decide +kernel
theorem d_RD_makeChanged_12 : decode (xcode m_RD_makeChanged) 12 = .ok (.istore 5, 2) := by decide +kernel
theorem d_RD_makeChanged_14 : decode (xcode m_RD_makeChanged) 14 = .ok (.iload 5, 2) := by decide +kernel
theorem d_RD_makeChanged_16 : decode (xcode m_RD_makeChanged) 16 = .ok (.aload_n 2, 1) := by decide +kernel
theorem d_RD_makeChanged_17 : decode (xcode m_RD_makeChanged) 17 = .ok (.invokevirtual 46, 3) := by decide +kernel
theorem d_RD_makeChanged_20 : decode (xcode m_RD_makeChanged) 20 = .ok (.if_icmp .ge 63, 3) := by decide +kernel
theorem d_RD_makeChanged_23 : decode (xcode m_RD_makeChanged) 23 = .ok (.iload 5, 2) := by decide +kernel
theorem d_RD_makeChanged_25 : decode (xcode m_RD_makeChanged) 25 = .ok (.iload 4, 2) := by decide +kernel
theorem d_RD_makeChanged_27 : decode (xcode m_RD_makeChanged) 27 = .ok (.if_icmp .ge 6, 3) := by decide +kernel
theorem d_RD_makeChanged_30 : decode (xcode m_RD_makeChanged) 30 = .ok (.goto 47, 3) := by decide +kernel
theorem d_RD_makeChanged_33 : decode (xcode m_RD_makeChanged) 33 = .ok (.aload_n 2, 1) := by decide +kernel
theorem d_RD_makeChanged_34 : decode (xcode m_RD_makeChanged) 34 = .ok (.iload 5, 2) := by decide +kernel
theorem d_RD_makeChanged_36 : decode (xcode m_RD_makeChanged) 36 = .ok (.aload_n 1, 1) := by decide +kernel
theorem d_RD_makeChanged_37 : decode (xcode m_RD_makeChanged) 37 = .ok (.invokevirtual 176, 3) := by decide +kernel
theorem d_RD_makeChanged_40 : decode (xcode m_RD_makeChanged) 40 = .ok (.ifCond .eq 23, 3) := by decide +kernel
theorem d_RD_makeChanged_43 : decode (xcode m_RD_makeChanged) 43 = .ok (.aload_n 0, 1) := by decide +kernel
theorem d_RD_makeChanged_44 : decode (xcode m_RD_makeChanged) 44 = .ok (.getfield 22, 3) := by decide +kernel
theorem d_RD_makeChanged_47 : decode (xcode m_RD_makeChanged) 47 = .ok (.aload_n 3, 1) := by decide +kernel
theorem d_RD_makeChanged_48 : decode (xcode m_RD_makeChanged) 48 = .ok (.invokevirtual 89, 3) := by decide +kernel
theorem d_RD_makeChanged_51 : decode (xcode m_RD_makeChanged) 51 = .ok (.iload 5, 2) := by decide +kernel
theorem d_RD_makeChanged_53 : decode (xcode m_RD_makeChanged) 53 = .ok (.aload_n 1, 1) := by decide +kernel
theorem d_RD_makeChanged_54 : decode (xcode m_RD_makeChanged) 54 = .ok (.invokevirtual 46, 3) := by decide +kernel
theorem d_RD_makeChanged_57 : decode (xcode m_RD_makeChanged) 57 = .ok (.iadd, 1) := by decide +kernel
theorem d_RD_makeChanged_58 : decode (xcode m_RD_makeChanged) 58 = .ok (.istore 4, 2) := by decide +kernel
theorem d_RD_makeChanged_60 : decode (xcode m_RD_makeChanged) 60 = .ok (.goto 17, 3) := by decide +kernel
theorem d_RD_makeChanged_63 : decode (xcode m_RD_makeChanged) 63 = .ok (.aload_n 0, 1) := by decide +kernel
theorem d_RD_makeChanged_64 : decode (xcode m_RD_makeChanged) 64 = .ok (.getfield 22, 3) := by decide +kernel
theorem d_RD_makeChanged_67 : decode (xcode m_RD_makeChanged) 67 = .ok (.aload_n 2, 1) := by decide +kernel
theorem d_RD_makeChanged_68 : decode (xcode m_RD_makeChanged) 68 = .ok (.iload 5, 2) := by decide +kernel
theorem d_RD_makeChanged_70 : decode (xcode m_RD_makeChanged) 70 = .ok (.iconst (-1), 1) := by decide +kernel
theorem d_RD_makeChanged_71 : decode (xcode m_RD_makeChanged) 71 = .ok (.invokevirtual 64, 3) := by decide +kernel
theorem d_RD_makeChanged_74 : decode (xcode m_RD_makeChanged) 74 = .ok (.invokevirtual 140, 3) := by decide +kernel
theorem d_RD_makeChanged_77 : decode (xcode m_RD_makeChanged) 77 = .ok (.iinc 5 1, 3) := by decide +kernel
theorem d_RD_makeChanged_80 : decode (xcode m_RD_makeChanged) 80 = .ok (.goto (-66), 3) := by decide +kernel
theorem d_RD_makeChanged_83 : decode (xcode m_RD_makeChanged) 83 = .ok (.return_, 1) := by decide +kernel
theorem d_RD_often_0 : decode (xcode m_RD_often) 0 = .ok (.aload_n 0, 1) := by decide +kernel
theorem d_RD_often_1 : decode (xcode m_RD_often) 1 = .ok (.iload_n 1, 1) := by decide +kernel
theorem d_RD_often_2 : decode (xcode m_RD_often) 2 = .ok (.invokevirtual 56, 3) := by decide +kernel
theorem d_RD_often_5 : decode (xcode m_RD_often) 5 = .ok (.astore_n 3, 1) := by decide +kernel
theorem d_RD_often_6 : decode (xcode m_RD_often) 6 = .ok (.aload_n 0, 1) := by decide +kernel
theorem d_RD_often_7 : decode (xcode m_RD_often) 7 = .ok (.iload_n 2, 1) := by decide +kernel
theorem d_RD_often_8 : decode (xcode m_RD_often) 8 = .ok (.invokevirtual 56, 3) := by decide +kernel
theorem d_RD_often_11 : decode (xcode m_RD_often) 11 = .ok (.astore 4, 2) := by decide +kernel
theorem d_RD_often_13 : decode (xcode m_RD_often) 13 = .ok (.aload_n 3, 1) := by decide +kernel
theorem d_RD_often_14 : decode (xcode m_RD_often) 14 = .ok (.ifnull 8, 3) := by decide +kernel
theorem d_RD_often_17 : decode (xcode m_RD_often) 17 = .ok (.aload 4, 2) := by decide +kernel
theorem d_RD_often_19 : decode (xcode m_RD_often) 19 = .ok (.ifnonnull 7, 3) := by decide +kernel
theorem d_RD_often_22 : decode (xcode m_RD_often) 22 = .ok (.iconst (-1), 1) := by decide +kernel
theorem d_RD_often_23 : decode (xcode m_RD_often) 23 = .ok (.goto 9, 3) := by decide +kernel
theorem d_RD_often_26 : decode (xcode m_RD_often) 26 = .ok (.aload_n 3, 1) := by decide +kernel
theorem d_RD_often_27 : decode (xcode m_RD_often) 27 = .ok (.aload 4, 2) := by decide +kernel
theorem d_RD_often_29 : decode (xcode m_RD_often) 29 = .ok (.invokestatic 110, 3) := by decide +kernel
theorem d_RD_often_32 : decode (xcode m_RD_often) 32 = .ok (.ireturn, 1) := by decide +kernel
theorem d_RD_unlike_0 : decode (xcode m_RD_unlike) 0 = .ok (.aload_n 0, 1) := by decide +kernel
theorem d_RD_unlike_1 : decode (xcode m_RD_unlike) 1 = .ok (.iload_n 1, 1) := by decide +kernel
theorem d_RD_unlike_2 : decode (xcode m_RD_unlike) 2 = .ok (.invokevirtual 56, 3) := by decide +kernel
theorem d_RD_unlike_5 : decode (xcode m_RD_unlike) 5 = .ok (.astore_n 3, 1) := by decide +kernel
theorem d_RD_unlike_6 : decode (xcode m_RD_unlike) 6 = .ok (.aload_n 0, 1) := by decide +kernel
theorem d_RD_unlike_7 : decode (xcode m_RD_unlike) 7 = .ok (.iload_n 2, 1) := by decide +kernel
theorem d_RD_unlike_8 : decode (xcode m_RD_unlike) 8 = .ok (.invokevirtual 56, 3) := by decide +kernel
theorem d_RD_unlike_11 : decode (xcode m_RD_unlike) 11 = .ok (.astore 4, 2) := by decide +kernel
theorem d_RD_unlike_13 : decode (xcode m_RD_unlike) 13 = .ok (.aload_n 3, 1) := by decide +kernel
theorem d_RD_unlike_14 : decode (xcode m_RD_unlike) 14 = .ok (.ifnull 8, 3) := by decide +kernel
theorem d_RD_unlike_17 : decode (xcode m_RD_unlike) 17 = .ok (.aload 4, 2) := by decide +kernel
theorem d_RD_unlike_19 : decode (xcode m_RD_unlike) 19 = .ok (.ifnonnull 5, 3) := by decide +kernel
theorem d_RD_unlike_22 : decode (xcode m_RD_unlike) 22 = .ok (.iconst (-1), 1) := by decide +kernel
theorem d_RD_unlike_23 : decode (xcode m_RD_unlike) 23 = .ok (.ireturn, 1) := by decide +kernel
theorem d_RD_unlike_24 : decode (xcode m_RD_unlike) 24 = .ok (.aload_n 3, 1) := by decide +kernel
theorem d_RD_unlike_25 : decode (xcode m_RD_unlike) 25 = .ok (.invokevirtual 46, 3) := by decide +kernel
theorem d_RD_unlike_28 : decode (xcode m_RD_unlike) 28 = .ok (.aload 4, 2) := by decide +kernel
theorem d_RD_unlike_30 : decode (xcode m_RD_unlike) 30 = .ok (.invokevirtual 46, 3) := by decide +kernel
theorem d_RD_unlike_33 : decode (xcode m_RD_unlike) 33 = .ok (.invokestatic 98, 3) := by decide +kernel
theorem d_RD_unlike_36 : decode (xcode m_RD_unlike) 36 = .ok (.istore 5, 2) := by decide +kernel
theorem d_RD_unlike_38 : decode (xcode m_RD_unlike) 38 = .ok (.iconst 0, 1) := by decide +kernel
theorem d_RD_unlike_39 : decode (xcode m_RD_unlike) 39 = .ok (.istore 6, 2) := by decide +kernel
theorem d_RD_unlike_41 : decode (xcode m_RD_unlike) 41 = .ok (.iload 6, 2) := by decide +kernel
theorem d_RD_unlike_43 : decode (xcode m_RD_unlike) 43 = .ok (.iload 5, 2) := by decide +kernel
theorem d_RD_unlike_45 : decode (xcode m_RD_unlike) 45 = .ok (.if_icmp .ge 38, 3) := by decide +kernel
theorem d_RD_unlike_48 : decode (xcode m_RD_unlike) 48 = .ok (.aload_n 3, 1) := by decide +kernel
theorem d_RD_unlike_49 : decode (xcode m_RD_unlike) 49 = .ok (.iload 6, 2) := by decide +kernel
theorem d_RD_unlike_51 : decode (xcode m_RD_unlike) 51 = .ok (.aload_n 0, 1) := by decide +kernel
theorem d_RD_unlike_52 : decode (xcode m_RD_unlike) 52 = .ok (.getfield 42, 3) := by decide +kernel
theorem d_RD_unlike_55 : decode (xcode m_RD_unlike) 55 = .ok (.invokevirtual 64, 3) := by decide +kernel
theorem d_RD_unlike_58 : decode (xcode m_RD_unlike) 58 = .ok (.aload 4, 2) := by decide +kernel
theorem d_RD_unlike_60 : decode (xcode m_RD_unlike) 60 = .ok (.iload 6, 2) := by decide +kernel
theorem d_RD_unlike_62 : decode (xcode m_RD_unlike) 62 = .ok (.aload_n 0, 1) := by decide +kernel
theorem d_RD_unlike_63 : decode (xcode m_RD_unlike) 63 = .ok (.getfield 42, 3) := by decide +kernel
theorem d_RD_unlike_66 : decode (xcode m_RD_unlike) 66 = .ok (.invokevirtual 64, 3) := by decide +kernel
theorem d_RD_unlike_69 : decode (xcode m_RD_unlike) 69 = .ok (.if_icmp .eq 8, 3) := by decide +kernel
theorem d_RD_unlike_72 : decode (xcode m_RD_unlike) 72 = .ok (.iload 6, 2) := by decide +kernel
theorem d_RD_unlike_74 : decode (xcode m_RD_unlike) 74 = .ok (.iconst 1, 1) := by decide +kernel
theorem d_RD_unlike_75 : decode (xcode m_RD_unlike) 75 = .ok (.iadd, 1) := by decide +kernel
theorem d_RD_unlike_76 : decode (xcode m_RD_unlike) 76 = .ok (.ireturn, 1) := by decide +kernel
theorem d_RD_unlike_77 : decode (xcode m_RD_unlike) 77 = .ok (.iinc 6 1, 3) := by decide +kernel
theorem d_RD_unlike_80 : decode (xcode m_RD_unlike) 80 = .ok (.goto (-39), 3) := by decide +kernel
theorem d_RD_unlike_83 : decode (xcode m_RD_unlike) 83 = .ok (.iconst 0, 1) := by decide +kernel
theorem d_RD_unlike_84 : decode (xcode m_RD_unlike) 84 = .ok (.ireturn, 1) := by decide +kernel
theorem d_RD_strip_0 : decode (xcode m_RD_strip) 0 = .ok (.aload_n 0, 1) := by decide +kernel
theorem d_RD_strip_1 : decode (xcode m_RD_strip) 1 = .ok (.iload_n 1, 1) := by decide +kernel
theorem d_RD_strip_2 : decode (xcode m_RD_strip) 2 = .ok (.invokevirtual 56, 3) := by decide +kernel
theorem d_RD_strip_5 : decode (xcode m_RD_strip) 5 = .ok (.astore 4, 2) := by decide +kernel
theorem d_RD_strip_7 : decode (xcode m_RD_strip) 7 = .ok (.aload_n 0, 1) := by decide +kernel
theorem d_RD_strip_8 : decode (xcode m_RD_strip) 8 = .ok (.iload_n 3, 1) := by decide +kernel
theorem d_RD_strip_9 : decode (xcode m_RD_strip) 9 = .ok (.invokevirtual 56, 3) := by decide +kernel
theorem d_RD_strip_12 : decode (xcode m_RD_strip) 12 = .ok (.astore 5, 2) := by decide +kernel
theorem d_RD_strip_14 : decode (xcode m_RD_strip) 14 = .ok (.aload 4, 2) := by decide +kernel
theorem d_RD_strip_16 : decode (xcode m_RD_strip) 16 = .ok (.ifnull 17, 3) := by decide +kernel
theorem d_RD_strip_19 : decode (xcode m_RD_strip) 19 = .ok (.aload 5, 2) := by decide +kernel
theorem d_RD_strip_21 : decode (xcode m_RD_strip) 21 = .ok (.ifnull 12, 3) := by decide +kernel
theorem d_RD_strip_24 : decode (xcode m_RD_strip) 24 = .ok (.iload_n 2, 1) := by decide +kernel
theorem d_RD_strip_25 : decode (xcode m_RD_strip) 25 = .ok (.ifCond .lt 8, 3) := by decide +kernel
theorem d_RD_strip_28 : decode (xcode m_RD_strip) 28 = .ok (.iload_n 2, 1) := by decide +kernel
theorem d_RD_strip_29 : decode (xcode m_RD_strip) 29 = .ok (.iconst 2, 1) := by decide +kernel
theorem d_RD_strip_30 : decode (xcode m_RD_strip) 30 = .ok (.if_icmp .le 5, 3) := by decide +kernel
theorem d_RD_strip_33 : decode (xcode m_RD_strip) 33 = .ok (.iconst (-1), 1) := by decide +kernel
theorem d_RD_strip_34 : decode (xcode m_RD_strip) 34 = .ok (.ireturn, 1) := by decide +kernel
theorem d_RD_strip_35 : decode (xcode m_RD_strip) 35 = .ok (.iconst 0, 1) := by decide +kernel
theorem d_RD_strip_36 : decode (xcode m_RD_strip) 36 = .ok (.istore 6, 2) := by decide +kernel
theorem d_RD_strip_38 : decode (xcode m_RD_strip) 38 = .ok (.aload 4, 2) := by decide +kernel
theorem d_RD_strip_40 : decode (xcode m_RD_strip) 40 = .ok (.invokevirtual 46, 3) := by decide +kernel
theorem d_RD_strip_43 : decode (xcode m_RD_strip) 43 = .ok (.istore 7, 2) := by decide +kernel
theorem d_RD_strip_45 : decode (xcode m_RD_strip) 45 = .ok (.iload_n 2, 1) := by decide +kernel
theorem d_RD_strip_46 : decode (xcode m_RD_strip) 46 = .ok (.iconst 2, 1) := by decide +kernel
theorem d_RD_strip_47 : decode (xcode m_RD_strip) 47 = .ok (.if_icmp .eq 31, 3) := by decide +kernel
theorem d_RD_strip_50 : decode (xcode m_RD_strip) 50 = .ok (.iload 6, 2) := by decide +kernel
theorem d_RD_strip_52 : decode (xcode m_RD_strip) 52 = .ok (.iload 7, 2) := by decide +kernel
theorem d_RD_strip_54 : decode (xcode m_RD_strip) 54 = .ok (.if_icmp .ge 24, 3) := by decide +kernel
theorem d_RD_strip_57 : decode (xcode m_RD_strip) 57 = .ok (.aload 4, 2) := by decide +kernel
theorem d_RD_strip_59 : decode (xcode m_RD_strip) 59 = .ok (.iload 6, 2) := by decide +kernel
theorem d_RD_strip_61 : decode (xcode m_RD_strip) 61 = .ok (.iconst (-1), 1) := by decide +kernel
theorem d_RD_strip_62 : decode (xcode m_RD_strip) 62 = .ok (.invokevirtual 64, 3) := by decide +kernel
theorem d_RD_strip_65 : decode (xcode m_RD_strip) 65 = .ok (.aload_n 0, 1) := by decide +kernel
theorem d_RD_strip_66 : decode (xcode m_RD_strip) 66 = .ok (.getfield 42, 3) := by decide +kernel
theorem d_RD_strip_69 : decode (xcode m_RD_strip) 69 = .ok (.if_icmp .ne 9, 3) := by decide +kernel
theorem d_RD_strip_72 : decode (xcode m_RD_strip) 72 = .ok (.iinc 6 1, 3) := by decide +kernel
theorem d_RD_strip_75 : decode (xcode m_RD_strip) 75 = .ok (.goto (-30), 3) := by decide +kernel
theorem d_RD_strip_78 : decode (xcode m_RD_strip) 78 = .ok (.iload_n 2, 1) := by decide +kernel
theorem d_RD_strip_79 : decode (xcode m_RD_strip) 79 = .ok (.iconst 1, 1) := by decide +kernel
theorem d_RD_strip_80 : decode (xcode m_RD_strip) 80 = .ok (.if_icmp .eq 33, 3) := by decide +kernel
theorem d_RD_strip_83 : decode (xcode m_RD_strip) 83 = .ok (.iload 7, 2) := by decide +kernel
theorem d_RD_strip_85 : decode (xcode m_RD_strip) 85 = .ok (.iload 6, 2) := by decide +kernel
theorem d_RD_strip_87 : decode (xcode m_RD_strip) 87 = .ok (.if_icmp .le 26, 3) := by decide +kernel
theorem d_RD_strip_90 : decode (xcode m_RD_strip) 90 = .ok (.aload 4, 2) := by decide +kernel
theorem d_RD_strip_92 : decode (xcode m_RD_strip) 92 = .ok (.iload 7, 2) := by decide +kernel
theorem d_RD_strip_94 : decode (xcode m_RD_strip) 94 = .ok (.iconst 1, 1) := by decide +kernel
theorem d_RD_strip_95 : decode (xcode m_RD_strip) 95 = .ok (.isub, 1) := by decide +kernel
theorem d_RD_strip_96 : decode (xcode m_RD_strip) 96 = .ok (.iconst (-1), 1) := by decide +kernel
theorem d_RD_strip_97 : decode (xcode m_RD_strip) 97 = .ok (.invokevirtual 64, 3) := by decide +kernel
theorem d_RD_strip_100 : decode (xcode m_RD_strip) 100 = .ok (.aload_n 0, 1) := by decide +kernel
theorem d_RD_strip_101 : decode (xcode m_RD_strip) 101 = .ok (.getfield 42, 3) := by decide +kernel
theorem d_RD_strip_104 : decode (xcode m_RD_strip) 104 = .ok (.if_icmp .ne 9, 3) := by decide +kernel
theorem d_RD_strip_107 : decode (xcode m_RD_strip) 107 = .ok (.iinc 7 (-1), 3) := by decide +kernel
theorem d_RD_strip_110 : decode (xcode m_RD_strip) 110 = .ok (.goto (-32), 3) := by decide +kernel
theorem d_RD_strip_113 : decode (xcode m_RD_strip) 113 = .ok (.aload_n 0, 1) := by decide +kernel
theorem d_RD_strip_114 : decode (xcode m_RD_strip) 114 = .ok (.getfield 22, 3) := by decide +kernel
theorem d_RD_strip_117 : decode (xcode m_RD_strip) 117 = .ok (.iconst 0, 1) := by decide +kernel
theorem d_RD_strip_118 : decode (xcode m_RD_strip) 118 = .ok (.invokevirtual 53, 3) := by decide +kernel
theorem d_RD_strip_121 : decode (xcode m_RD_strip) 121 = .ok (.aload_n 0, 1) := by decide +kernel
theorem d_RD_strip_122 : decode (xcode m_RD_strip) 122 = .ok (.getfield 22, 3) := by decide +kernel
theorem d_RD_strip_125 : decode (xcode m_RD_strip) 125 = .ok (.aload 4, 2) := by decide +kernel
theorem d_RD_strip_127 : decode (xcode m_RD_strip) 127 = .ok (.iload 6, 2) := by decide +kernel
theorem d_RD_strip_129 : decode (xcode m_RD_strip) 129 = .ok (.iload 7, 2) := by decide +kernel
theorem d_RD_strip_131 : decode (xcode m_RD_strip) 131 = .ok (.invokevirtual 72, 3) := by decide +kernel
theorem d_RD_strip_134 : decode (xcode m_RD_strip) 134 = .ok (.aload_n 0, 1) := by decide +kernel
theorem d_RD_strip_135 : decode (xcode m_RD_strip) 135 = .ok (.aload 5, 2) := by decide +kernel
theorem d_RD_strip_137 : decode (xcode m_RD_strip) 137 = .ok (.invokevirtual 79, 3) := by decide +kernel
theorem d_RD_strip_140 : decode (xcode m_RD_strip) 140 = .ok (.ireturn, 1) := by decide +kernel
theorem d_RD_turn_0 : decode (xcode m_RD_turn) 0 = .ok (.aload_n 0, 1) := by decide +kernel
theorem d_RD_turn_1 : decode (xcode m_RD_turn) 1 = .ok (.iload_n 2, 1) := by decide +kernel
theorem d_RD_turn_2 : decode (xcode m_RD_turn) 2 = .ok (.invokevirtual 56, 3) := by decide +kernel
theorem d_RD_turn_5 : decode (xcode m_RD_turn) 5 = .ok (.astore 4, 2) := by decide +kernel
theorem d_RD_turn_7 : decode (xcode m_RD_turn) 7 = .ok (.aload_n 0, 1) := by decide +kernel
theorem d_RD_turn_8 : decode (xcode m_RD_turn) 8 = .ok (.iload_n 3, 1) := by decide +kernel
theorem d_RD_turn_9 : decode (xcode m_RD_turn) 9 = .ok (.invokevirtual 56, 3) := by decide +kernel
theorem d_RD_turn_12 : decode (xcode m_RD_turn) 12 = .ok (.astore 5, 2) := by decide +kernel
theorem d_RD_turn_14 : decode (xcode m_RD_turn) 14 = .ok (.aload 4, 2) := by decide +kernel
theorem d_RD_turn_16 : decode (xcode m_RD_turn) 16 = .ok (.ifnull 17, 3) := by decide +kernel
theorem d_RD_turn_19 : decode (xcode m_RD_turn) 19 = .ok (.aload 5, 2) := by decide +kernel
theorem d_RD_turn_21 : decode (xcode m_RD_turn) 21 = .ok (.ifnull 12, 3) := by decide +kernel
theorem d_RD_turn_24 : decode (xcode m_RD_turn) 24 = .ok (.iload_n 1, 1) := by decide +kernel
theorem d_RD_turn_25 : decode (xcode m_RD_turn) 25 = .ok (.ifCond .lt 8, 3) := by decide +kernel
theorem d_RD_turn_28 : decode (xcode m_RD_turn) 28 = .ok (.iload_n 1, 1) := by decide +kernel
theorem d_RD_turn_29 : decode (xcode m_RD_turn) 29 = .ok (.iconst 4, 1) := by decide +kernel
theorem d_RD_turn_30 : decode (xcode m_RD_turn) 30 = .ok (.if_icmp .le 5, 3) := by decide +kernel
theorem d_RD_turn_33 : decode (xcode m_RD_turn) 33 = .ok (.iconst (-1), 1) := by decide +kernel
theorem d_RD_turn_34 : decode (xcode m_RD_turn) 34 = .ok (.ireturn, 1) := by decide +kernel
theorem d_RD_turn_35 : decode (xcode m_RD_turn) 35 = .ok (.aload_n 0, 1) := by decide +kernel
theorem d_RD_turn_36 : decode (xcode m_RD_turn) 36 = .ok (.getfield 22, 3) := by decide +kernel
theorem d_RD_turn_39 : decode (xcode m_RD_turn) 39 = .ok (.iconst 0, 1) := by decide +kernel
theorem d_RD_turn_40 : decode (xcode m_RD_turn) 40 = .ok (.invokevirtual 53, 3) := by decide +kernel
theorem d_RD_turn_43 : decode (xcode m_RD_turn) 43 = .ok (.iload_n 1, 1) := by decide +kernel
theorem d_RD_turn_44 : decode (xcode m_RD_turn) 44 = .ok (.tableswitch 76 0 3 #[32, 41, 54, 67], 32) := by decide +kernel
theorem d_RD_turn_76 : decode (xcode m_RD_turn) 76 = .ok (.aload_n 0, 1) := by decide +kernel
theorem d_RD_turn_77 : decode (xcode m_RD_turn) 77 = .ok (.aload 4, 2) := by decide +kernel
theorem d_RD_turn_79 : decode (xcode m_RD_turn) 79 = .ok (.invokevirtual 118, 3) := by decide +kernel
theorem d_RD_turn_82 : decode (xcode m_RD_turn) 82 = .ok (.goto 44, 3) := by decide +kernel
theorem d_RD_turn_85 : decode (xcode m_RD_turn) 85 = .ok (.aload_n 0, 1) := by decide +kernel
theorem d_RD_turn_86 : decode (xcode m_RD_turn) 86 = .ok (.aload 4, 2) := by decide +kernel
theorem d_RD_turn_88 : decode (xcode m_RD_turn) 88 = .ok (.bipush 97, 2) := by decide +kernel
theorem d_RD_turn_90 : decode (xcode m_RD_turn) 90 = .ok (.bipush (-32), 2) := by decide +kernel
theorem d_RD_turn_92 : decode (xcode m_RD_turn) 92 = .ok (.invokevirtual 121, 3) := by decide +kernel
theorem d_RD_turn_95 : decode (xcode m_RD_turn) 95 = .ok (.goto 31, 3) := by decide +kernel
theorem d_RD_turn_98 : decode (xcode m_RD_turn) 98 = .ok (.aload_n 0, 1) := by decide +kernel
theorem d_RD_turn_99 : decode (xcode m_RD_turn) 99 = .ok (.aload 4, 2) := by decide +kernel
theorem d_RD_turn_101 : decode (xcode m_RD_turn) 101 = .ok (.bipush 65, 2) := by decide +kernel
theorem d_RD_turn_103 : decode (xcode m_RD_turn) 103 = .ok (.bipush 32, 2) := by decide +kernel
theorem d_RD_turn_105 : decode (xcode m_RD_turn) 105 = .ok (.invokevirtual 121, 3) := by decide +kernel
theorem d_RD_turn_108 : decode (xcode m_RD_turn) 108 = .ok (.goto 18, 3) := by decide +kernel
theorem d_RD_turn_111 : decode (xcode m_RD_turn) 111 = .ok (.aload_n 0, 1) := by decide +kernel
theorem d_RD_turn_112 : decode (xcode m_RD_turn) 112 = .ok (.aload 4, 2) := by decide +kernel
theorem d_RD_turn_114 : decode (xcode m_RD_turn) 114 = .ok (.invokevirtual 124, 3) := by decide +kernel
theorem d_RD_turn_117 : decode (xcode m_RD_turn) 117 = .ok (.goto 9, 3) := by decide +kernel
theorem d_RD_turn_120 : decode (xcode m_RD_turn) 120 = .ok (.aload_n 0, 1) := by decide +kernel
theorem d_RD_turn_121 : decode (xcode m_RD_turn) 121 = .ok (.aload 4, 2) := by decide +kernel
theorem d_RD_turn_123 : decode (xcode m_RD_turn) 123 = .ok (.invokevirtual 127, 3) := by decide +kernel
theorem d_RD_turn_126 : decode (xcode m_RD_turn) 126 = .ok (.aload_n 0, 1) := by decide +kernel
theorem d_RD_turn_127 : decode (xcode m_RD_turn) 127 = .ok (.aload 5, 2) := by decide +kernel
theorem d_RD_turn_129 : decode (xcode m_RD_turn) 129 = .ok (.invokevirtual 79, 3) := by decide +kernel
theorem d_RD_turn_132 : decode (xcode m_RD_turn) 132 = .ok (.ireturn, 1) := by decide +kernel
theorem d_RD_makeTurnedAbout_0 : decode (xcode m_RD_makeTurnedAbout) 0 = .ok (.aload_n 1, 1) := by decide +kernel
theorem d_RD_makeTurnedAbout_1 : decode (xcode m_RD_makeTurnedAbout) 1 = .ok (.invokevirtual 46, 3) := by decide +kernel
theorem d_RD_makeTurnedAbout_4 : decode (xcode m_RD_makeTurnedAbout) 4 = .ok (.iconst 1, 1) := by decide +kernel
theorem d_RD_makeTurnedAbout_5 : decode (xcode m_RD_makeTurnedAbout) 5 = .ok (.isub, 1) := by decide +kernel
theorem d_RD_makeTurnedAbout_6 : decode (xcode m_RD_makeTurnedAbout) 6 = .ok (.istore_n 2, 1) := by decide +kernel
theorem d_RD_makeTurnedAbout_7 : decode (xcode m_RD_makeTurnedAbout) 7 = .ok (.iload_n 2, 1) := by decide +kernel
theorem d_RD_makeTurnedAbout_8 : decode (xcode m_RD_makeTurnedAbout) 8 = .ok (.ifCond .lt 22, 3) := by decide +kernel
theorem d_RD_makeTurnedAbout_11 : decode (xcode m_RD_makeTurnedAbout) 11 = .ok (.aload_n 0, 1) := by decide +kernel
theorem d_RD_makeTurnedAbout_12 : decode (xcode m_RD_makeTurnedAbout) 12 = .ok (.getfield 22, 3) := by decide +kernel
theorem d_RD_makeTurnedAbout_15 : decode (xcode m_RD_makeTurnedAbout) 15 = .ok (.aload_n 1, 1) := by decide +kernel
theorem d_RD_makeTurnedAbout_16 : decode (xcode m_RD_makeTurnedAbout) 16 = .ok (.iload_n 2, 1) := by decide +kernel
theorem d_RD_makeTurnedAbout_17 : decode (xcode m_RD_makeTurnedAbout) 17 = .ok (.iconst (-1), 1) := by decide +kernel
theorem d_RD_makeTurnedAbout_18 : decode (xcode m_RD_makeTurnedAbout) 18 = .ok (.invokevirtual 64, 3) := by decide +kernel
theorem d_RD_makeTurnedAbout_21 : decode (xcode m_RD_makeTurnedAbout) 21 = .ok (.invokevirtual 140, 3) := by decide +kernel
theorem d_RD_makeTurnedAbout_24 : decode (xcode m_RD_makeTurnedAbout) 24 = .ok (.iinc 2 (-1), 3) := by decide +kernel
theorem d_RD_makeTurnedAbout_27 : decode (xcode m_RD_makeTurnedAbout) 27 = .ok (.goto (-20), 3) := by decide +kernel
theorem d_RD_makeTurnedAbout_30 : decode (xcode m_RD_makeTurnedAbout) 30 = .ok (.return_, 1) := by decide +kernel
theorem d_RD_makeWithLettersMoved_0 : decode (xcode m_RD_makeWithLettersMoved) 0 = .ok (.iconst 0, 1) := by decide +kernel
theorem d_RD_makeWithLettersMoved_1 : decode (xcode m_RD_makeWithLettersMoved) 1 = .ok (.istore 4, 2) := by decide +kernel
theorem d_RD_makeWithLettersMoved_3 : decode (xcode m_RD_makeWithLettersMoved) 3 = .ok (.iload 4, 2) := by decide +kernel
theorem d_RD_makeWithLettersMoved_5 : decode (xcode m_RD_makeWithLettersMoved) 5 = .ok (.aload_n 1, 1) := by decide +kernel
theorem d_RD_makeWithLettersMoved_6 : decode (xcode m_RD_makeWithLettersMoved) 6 = .ok (.invokevirtual 46, 3) := by decide +kernel
theorem d_RD_makeWithLettersMoved_9 : decode (xcode m_RD_makeWithLettersMoved) 9 = .ok (.if_icmp .ge 61, 3) := by decide +kernel
theorem d_RD_makeWithLettersMoved_12 : decode (xcode m_RD_makeWithLettersMoved) 12 = .ok (.aload_n 1, 1) := by decide +kernel
theorem d_RD_makeWithLettersMoved_13 : decode (xcode m_RD_makeWithLettersMoved) 13 = .ok (.iload 4, 2) := by decide +kernel
theorem d_RD_makeWithLettersMoved_15 : decode (xcode m_RD_makeWithLettersMoved) 15 = .ok (.iconst (-1), 1) := by decide +kernel
theorem d_RD_makeWithLettersMoved_16 : decode (xcode m_RD_makeWithLettersMoved) 16 = .ok (.invokevirtual 64, 3) := by decide +kernel
theorem d_RD_makeWithLettersMoved_19 : decode (xcode m_RD_makeWithLettersMoved) 19 = .ok (.istore 5, 2) := by decide +kernel
theorem d_RD_makeWithLettersMoved_21 : decode (xcode m_RD_makeWithLettersMoved) 21 = .ok (.iload 5, 2) := by decide +kernel
theorem d_RD_makeWithLettersMoved_23 : decode (xcode m_RD_makeWithLettersMoved) 23 = .ok (.iload_n 2, 1) := by decide +kernel
theorem d_RD_makeWithLettersMoved_24 : decode (xcode m_RD_makeWithLettersMoved) 24 = .ok (.if_icmp .lt 16, 3) := by decide +kernel
theorem d_RD_makeWithLettersMoved_27 : decode (xcode m_RD_makeWithLettersMoved) 27 = .ok (.iload 5, 2) := by decide +kernel
theorem d_RD_makeWithLettersMoved_29 : decode (xcode m_RD_makeWithLettersMoved) 29 = .ok (.iload_n 2, 1) := by decide +kernel
theorem d_RD_makeWithLettersMoved_30 : decode (xcode m_RD_makeWithLettersMoved) 30 = .ok (.bipush 25, 2) := by decide +kernel
theorem d_RD_makeWithLettersMoved_32 : decode (xcode m_RD_makeWithLettersMoved) 32 = .ok (.iadd, 1) := by decide +kernel
theorem d_RD_makeWithLettersMoved_33 : decode (xcode m_RD_makeWithLettersMoved) 33 = .ok (.if_icmp .gt 7, 3) := by decide +kernel
theorem d_RD_makeWithLettersMoved_36 : decode (xcode m_RD_makeWithLettersMoved) 36 = .ok (.iconst 1, 1) := by decide +kernel
theorem d_RD_makeWithLettersMoved_37 : decode (xcode m_RD_makeWithLettersMoved) 37 = .ok (.goto 4, 3) := by decide +kernel
theorem d_RD_makeWithLettersMoved_40 : decode (xcode m_RD_makeWithLettersMoved) 40 = .ok (.iconst 0, 1) := by decide +kernel
theorem d_RD_makeWithLettersMoved_41 : decode (xcode m_RD_makeWithLettersMoved) 41 = .ok (.istore 6, 2) := by decide +kernel
theorem d_RD_makeWithLettersMoved_43 : decode (xcode m_RD_makeWithLettersMoved) 43 = .ok (.aload_n 0, 1) := by decide +kernel
theorem d_RD_makeWithLettersMoved_44 : decode (xcode m_RD_makeWithLettersMoved) 44 = .ok (.getfield 22, 3) := by decide +kernel
theorem d_RD_makeWithLettersMoved_47 : decode (xcode m_RD_makeWithLettersMoved) 47 = .ok (.iload 6, 2) := by decide +kernel
theorem d_RD_makeWithLettersMoved_49 : decode (xcode m_RD_makeWithLettersMoved) 49 = .ok (.ifCond .eq 10, 3) := by decide +kernel
theorem d_RD_makeWithLettersMoved_52 : decode (xcode m_RD_makeWithLettersMoved) 52 = .ok (.iload 5, 2) := by decide +kernel
theorem d_RD_makeWithLettersMoved_54 : decode (xcode m_RD_makeWithLettersMoved) 54 = .ok (.iload_n 3, 1) := by decide +kernel
theorem d_RD_makeWithLettersMoved_55 : decode (xcode m_RD_makeWithLettersMoved) 55 = .ok (.iadd, 1) := by decide +kernel
theorem d_RD_makeWithLettersMoved_56 : decode (xcode m_RD_makeWithLettersMoved) 56 = .ok (.goto 5, 3) := by decide +kernel
theorem d_RD_makeWithLettersMoved_59 : decode (xcode m_RD_makeWithLettersMoved) 59 = .ok (.iload 5, 2) := by decide +kernel
theorem d_RD_makeWithLettersMoved_61 : decode (xcode m_RD_makeWithLettersMoved) 61 = .ok (.invokevirtual 140, 3) := by decide +kernel
theorem d_RD_makeWithLettersMoved_64 : decode (xcode m_RD_makeWithLettersMoved) 64 = .ok (.iinc 4 1, 3) := by decide +kernel
theorem d_RD_makeWithLettersMoved_67 : decode (xcode m_RD_makeWithLettersMoved) 67 = .ok (.goto (-64), 3) := by decide +kernel
theorem d_RD_makeWithLettersMoved_70 : decode (xcode m_RD_makeWithLettersMoved) 70 = .ok (.return_, 1) := by decide +kernel
theorem d_RD_makeInOrder_0 : decode (xcode m_RD_makeInOrder) 0 = .ok (.aload_n 0, 1) := by decide +kernel
theorem d_RD_makeInOrder_1 : decode (xcode m_RD_makeInOrder) 1 = .ok (.getfield 38, 3) := by decide +kernel
theorem d_RD_makeInOrder_4 : decode (xcode m_RD_makeInOrder) 4 = .ok (.iconst 0, 1) := by decide +kernel
theorem d_RD_makeInOrder_5 : decode (xcode m_RD_makeInOrder) 5 = .ok (.invokevirtual 130, 3) := by decide +kernel
theorem d_RD_makeInOrder_8 : decode (xcode m_RD_makeInOrder) 8 = .ok (.iconst 0, 1) := by decide +kernel
theorem d_RD_makeInOrder_9 : decode (xcode m_RD_makeInOrder) 9 = .ok (.istore_n 2, 1) := by decide +kernel
theorem d_RD_makeInOrder_10 : decode (xcode m_RD_makeInOrder) 10 = .ok (.iload_n 2, 1) := by decide +kernel
theorem d_RD_makeInOrder_11 : decode (xcode m_RD_makeInOrder) 11 = .ok (.aload_n 1, 1) := by decide +kernel
theorem d_RD_makeInOrder_12 : decode (xcode m_RD_makeInOrder) 12 = .ok (.invokevirtual 46, 3) := by decide +kernel
theorem d_RD_makeInOrder_15 : decode (xcode m_RD_makeInOrder) 15 = .ok (.if_icmp .ge 34, 3) := by decide +kernel
theorem d_RD_makeInOrder_18 : decode (xcode m_RD_makeInOrder) 18 = .ok (.aload_n 1, 1) := by decide +kernel
theorem d_RD_makeInOrder_19 : decode (xcode m_RD_makeInOrder) 19 = .ok (.iload_n 2, 1) := by decide +kernel
theorem d_RD_makeInOrder_20 : decode (xcode m_RD_makeInOrder) 20 = .ok (.iconst (-1), 1) := by decide +kernel
theorem d_RD_makeInOrder_21 : decode (xcode m_RD_makeInOrder) 21 = .ok (.invokevirtual 64, 3) := by decide +kernel
theorem d_RD_makeInOrder_24 : decode (xcode m_RD_makeInOrder) 24 = .ok (.istore_n 3, 1) := by decide +kernel
theorem d_RD_makeInOrder_25 : decode (xcode m_RD_makeInOrder) 25 = .ok (.aload_n 0, 1) := by decide +kernel
theorem d_RD_makeInOrder_26 : decode (xcode m_RD_makeInOrder) 26 = .ok (.getfield 38, 3) := by decide +kernel
theorem d_RD_makeInOrder_29 : decode (xcode m_RD_makeInOrder) 29 = .ok (.iload_n 3, 1) := by decide +kernel
theorem d_RD_makeInOrder_30 : decode (xcode m_RD_makeInOrder) 30 = .ok (.aload_n 0, 1) := by decide +kernel
theorem d_RD_makeInOrder_31 : decode (xcode m_RD_makeInOrder) 31 = .ok (.getfield 38, 3) := by decide +kernel
theorem d_RD_makeInOrder_34 : decode (xcode m_RD_makeInOrder) 34 = .ok (.iload_n 3, 1) := by decide +kernel
theorem d_RD_makeInOrder_35 : decode (xcode m_RD_makeInOrder) 35 = .ok (.invokevirtual 136, 3) := by decide +kernel
theorem d_RD_makeInOrder_38 : decode (xcode m_RD_makeInOrder) 38 = .ok (.iconst 1, 1) := by decide +kernel
theorem d_RD_makeInOrder_39 : decode (xcode m_RD_makeInOrder) 39 = .ok (.iadd, 1) := by decide +kernel
theorem d_RD_makeInOrder_40 : decode (xcode m_RD_makeInOrder) 40 = .ok (.invokevirtual 133, 3) := by decide +kernel
theorem d_RD_makeInOrder_43 : decode (xcode m_RD_makeInOrder) 43 = .ok (.iinc 2 1, 3) := by decide +kernel
theorem d_RD_makeInOrder_46 : decode (xcode m_RD_makeInOrder) 46 = .ok (.goto (-36), 3) := by decide +kernel
theorem d_RD_makeInOrder_49 : decode (xcode m_RD_makeInOrder) 49 = .ok (.iconst 0, 1) := by decide +kernel
theorem d_RD_makeInOrder_50 : decode (xcode m_RD_makeInOrder) 50 = .ok (.istore_n 2, 1) := by decide +kernel
theorem d_RD_makeInOrder_51 : decode (xcode m_RD_makeInOrder) 51 = .ok (.iload_n 2, 1) := by decide +kernel
theorem d_RD_makeInOrder_52 : decode (xcode m_RD_makeInOrder) 52 = .ok (.sipush 256, 3) := by decide +kernel
theorem d_RD_makeInOrder_55 : decode (xcode m_RD_makeInOrder) 55 = .ok (.if_icmp .ge 25, 3) := by decide +kernel
theorem d_RD_makeInOrder_58 : decode (xcode m_RD_makeInOrder) 58 = .ok (.aload_n 0, 1) := by decide +kernel
theorem d_RD_makeInOrder_59 : decode (xcode m_RD_makeInOrder) 59 = .ok (.getfield 22, 3) := by decide +kernel
theorem d_RD_makeInOrder_62 : decode (xcode m_RD_makeInOrder) 62 = .ok (.iload_n 2, 1) := by decide +kernel
theorem d_RD_makeInOrder_63 : decode (xcode m_RD_makeInOrder) 63 = .ok (.aload_n 0, 1) := by decide +kernel
theorem d_RD_makeInOrder_64 : decode (xcode m_RD_makeInOrder) 64 = .ok (.getfield 38, 3) := by decide +kernel
theorem d_RD_makeInOrder_67 : decode (xcode m_RD_makeInOrder) 67 = .ok (.iload_n 2, 1) := by decide +kernel
theorem d_RD_makeInOrder_68 : decode (xcode m_RD_makeInOrder) 68 = .ok (.invokevirtual 136, 3) := by decide +kernel
theorem d_RD_makeInOrder_71 : decode (xcode m_RD_makeInOrder) 71 = .ok (.invokevirtual 68, 3) := by decide +kernel
theorem d_RD_makeInOrder_74 : decode (xcode m_RD_makeInOrder) 74 = .ok (.iinc 2 1, 3) := by decide +kernel
theorem d_RD_makeInOrder_77 : decode (xcode m_RD_makeInOrder) 77 = .ok (.goto (-26), 3) := by decide +kernel
theorem d_RD_makeInOrder_80 : decode (xcode m_RD_makeInOrder) 80 = .ok (.return_, 1) := by decide +kernel
theorem d_RD_makeEachOnce_0 : decode (xcode m_RD_makeEachOnce) 0 = .ok (.aload_n 0, 1) := by decide +kernel
theorem d_RD_makeEachOnce_1 : decode (xcode m_RD_makeEachOnce) 1 = .ok (.getfield 38, 3) := by decide +kernel
theorem d_RD_makeEachOnce_4 : decode (xcode m_RD_makeEachOnce) 4 = .ok (.iconst 0, 1) := by decide +kernel
theorem d_RD_makeEachOnce_5 : decode (xcode m_RD_makeEachOnce) 5 = .ok (.invokevirtual 130, 3) := by decide +kernel
theorem d_RD_makeEachOnce_8 : decode (xcode m_RD_makeEachOnce) 8 = .ok (.iconst 0, 1) := by decide +kernel
theorem d_RD_makeEachOnce_9 : decode (xcode m_RD_makeEachOnce) 9 = .ok (.istore_n 2, 1) := by decide +kernel
theorem d_RD_makeEachOnce_10 : decode (xcode m_RD_makeEachOnce) 10 = .ok (.iload_n 2, 1) := by decide +kernel
theorem d_RD_makeEachOnce_11 : decode (xcode m_RD_makeEachOnce) 11 = .ok (.aload_n 1, 1) := by decide +kernel
theorem d_RD_makeEachOnce_12 : decode (xcode m_RD_makeEachOnce) 12 = .ok (.invokevirtual 46, 3) := by decide +kernel
theorem d_RD_makeEachOnce_15 : decode (xcode m_RD_makeEachOnce) 15 = .ok (.if_icmp .ge 44, 3) := by decide +kernel
theorem d_RD_makeEachOnce_18 : decode (xcode m_RD_makeEachOnce) 18 = .ok (.aload_n 1, 1) := by decide +kernel
theorem d_RD_makeEachOnce_19 : decode (xcode m_RD_makeEachOnce) 19 = .ok (.iload_n 2, 1) := by decide +kernel
theorem d_RD_makeEachOnce_20 : decode (xcode m_RD_makeEachOnce) 20 = .ok (.iconst (-1), 1) := by decide +kernel
theorem d_RD_makeEachOnce_21 : decode (xcode m_RD_makeEachOnce) 21 = .ok (.invokevirtual 64, 3) := by decide +kernel
theorem d_RD_makeEachOnce_24 : decode (xcode m_RD_makeEachOnce) 24 = .ok (.istore_n 3, 1) := by decide +kernel
theorem d_RD_makeEachOnce_25 : decode (xcode m_RD_makeEachOnce) 25 = .ok (.aload_n 0, 1) := by decide +kernel
theorem d_RD_makeEachOnce_26 : decode (xcode m_RD_makeEachOnce) 26 = .ok (.getfield 38, 3) := by decide +kernel
theorem d_RD_makeEachOnce_29 : decode (xcode m_RD_makeEachOnce) 29 = .ok (.iload_n 3, 1) := by decide +kernel
theorem d_RD_makeEachOnce_30 : decode (xcode m_RD_makeEachOnce) 30 = .ok (.invokevirtual 136, 3) := by decide +kernel
theorem d_RD_makeEachOnce_33 : decode (xcode m_RD_makeEachOnce) 33 = .ok (.ifCond .ne 20, 3) := by decide +kernel
theorem d_RD_makeEachOnce_36 : decode (xcode m_RD_makeEachOnce) 36 = .ok (.aload_n 0, 1) := by decide +kernel
theorem d_RD_makeEachOnce_37 : decode (xcode m_RD_makeEachOnce) 37 = .ok (.getfield 38, 3) := by decide +kernel
theorem d_RD_makeEachOnce_40 : decode (xcode m_RD_makeEachOnce) 40 = .ok (.iload_n 3, 1) := by decide +kernel
theorem d_RD_makeEachOnce_41 : decode (xcode m_RD_makeEachOnce) 41 = .ok (.iconst 1, 1) := by decide +kernel
theorem d_RD_makeEachOnce_42 : decode (xcode m_RD_makeEachOnce) 42 = .ok (.invokevirtual 133, 3) := by decide +kernel
theorem d_RD_makeEachOnce_45 : decode (xcode m_RD_makeEachOnce) 45 = .ok (.aload_n 0, 1) := by decide +kernel
theorem d_RD_makeEachOnce_46 : decode (xcode m_RD_makeEachOnce) 46 = .ok (.getfield 22, 3) := by decide +kernel
theorem d_RD_makeEachOnce_49 : decode (xcode m_RD_makeEachOnce) 49 = .ok (.iload_n 3, 1) := by decide +kernel
theorem d_RD_makeEachOnce_50 : decode (xcode m_RD_makeEachOnce) 50 = .ok (.invokevirtual 140, 3) := by decide +kernel
theorem d_RD_makeEachOnce_53 : decode (xcode m_RD_makeEachOnce) 53 = .ok (.iinc 2 1, 3) := by decide +kernel
theorem d_RD_makeEachOnce_56 : decode (xcode m_RD_makeEachOnce) 56 = .ok (.goto (-46), 3) := by decide +kernel
theorem d_RD_makeEachOnce_59 : decode (xcode m_RD_makeEachOnce) 59 = .ok (.return_, 1) := by decide +kernel
theorem d_RD_translate_0 : decode (xcode m_RD_translate) 0 = .ok (.aload_n 0, 1) := by decide +kernel
theorem d_RD_translate_1 : decode (xcode m_RD_translate) 1 = .ok (.iload_n 1, 1) := by decide +kernel
theorem d_RD_translate_2 : decode (xcode m_RD_translate) 2 = .ok (.invokevirtual 56, 3) := by decide +kernel
theorem d_RD_translate_5 : decode (xcode m_RD_translate) 5 = .ok (.astore 5, 2) := by decide +kernel
theorem d_RD_translate_7 : decode (xcode m_RD_translate) 7 = .ok (.aload_n 0, 1) := by decide +kernel
theorem d_RD_translate_8 : decode (xcode m_RD_translate) 8 = .ok (.iload_n 2, 1) := by decide +kernel
theorem d_RD_translate_9 : decode (xcode m_RD_translate) 9 = .ok (.invokevirtual 56, 3) := by decide +kernel
theorem d_RD_translate_12 : decode (xcode m_RD_translate) 12 = .ok (.astore 6, 2) := by decide +kernel
theorem d_RD_translate_14 : decode (xcode m_RD_translate) 14 = .ok (.aload_n 0, 1) := by decide +kernel
theorem d_RD_translate_15 : decode (xcode m_RD_translate) 15 = .ok (.iload_n 3, 1) := by decide +kernel
theorem d_RD_translate_16 : decode (xcode m_RD_translate) 16 = .ok (.invokevirtual 56, 3) := by decide +kernel
theorem d_RD_translate_19 : decode (xcode m_RD_translate) 19 = .ok (.astore 7, 2) := by decide +kernel
theorem d_RD_translate_21 : decode (xcode m_RD_translate) 21 = .ok (.aload_n 0, 1) := by decide +kernel
theorem d_RD_translate_22 : decode (xcode m_RD_translate) 22 = .ok (.iload 4, 2) := by decide +kernel
theorem d_RD_translate_24 : decode (xcode m_RD_translate) 24 = .ok (.invokevirtual 56, 3) := by decide +kernel
theorem d_RD_translate_27 : decode (xcode m_RD_translate) 27 = .ok (.astore 8, 2) := by decide +kernel
theorem d_RD_translate_29 : decode (xcode m_RD_translate) 29 = .ok (.aload 5, 2) := by decide +kernel
theorem d_RD_translate_31 : decode (xcode m_RD_translate) 31 = .ok (.ifnull 18, 3) := by decide +kernel
theorem d_RD_translate_34 : decode (xcode m_RD_translate) 34 = .ok (.aload 6, 2) := by decide +kernel
theorem d_RD_translate_36 : decode (xcode m_RD_translate) 36 = .ok (.ifnull 13, 3) := by decide +kernel
theorem d_RD_translate_39 : decode (xcode m_RD_translate) 39 = .ok (.aload 7, 2) := by decide +kernel
theorem d_RD_translate_41 : decode (xcode m_RD_translate) 41 = .ok (.ifnull 8, 3) := by decide +kernel
theorem d_RD_translate_44 : decode (xcode m_RD_translate) 44 = .ok (.aload 8, 2) := by decide +kernel
theorem d_RD_translate_46 : decode (xcode m_RD_translate) 46 = .ok (.ifnonnull 5, 3) := by decide +kernel
theorem d_RD_translate_49 : decode (xcode m_RD_translate) 49 = .ok (.iconst (-1), 1) := by decide +kernel
theorem d_RD_translate_50 : decode (xcode m_RD_translate) 50 = .ok (.ireturn, 1) := by decide +kernel
theorem d_RD_translate_51 : decode (xcode m_RD_translate) 51 = .ok (.aload_n 0, 1) := by decide +kernel
theorem d_RD_translate_52 : decode (xcode m_RD_translate) 52 = .ok (.getfield 38, 3) := by decide +kernel
theorem d_RD_translate_55 : decode (xcode m_RD_translate) 55 = .ok (.iconst (-1), 1) := by decide +kernel
theorem d_RD_translate_56 : decode (xcode m_RD_translate) 56 = .ok (.invokevirtual 130, 3) := by decide +kernel
theorem d_RD_translate_59 : decode (xcode m_RD_translate) 59 = .ok (.aload 7, 2) := by decide +kernel
theorem d_RD_translate_61 : decode (xcode m_RD_translate) 61 = .ok (.invokevirtual 46, 3) := by decide +kernel
theorem d_RD_translate_64 : decode (xcode m_RD_translate) 64 = .ok (.iconst 1, 1) := by decide +kernel
theorem d_RD_translate_65 : decode (xcode m_RD_translate) 65 = .ok (.isub, 1) := by decide +kernel
theorem d_RD_translate_66 : decode (xcode m_RD_translate) 66 = .ok (.istore 9, 2) := by decide +kernel
theorem d_RD_translate_68 : decode (xcode m_RD_translate) 68 = .ok (.iload 9, 2) := by decide +kernel
theorem d_RD_translate_70 : decode (xcode m_RD_translate) 70 = .ok (.ifCond .lt 35, 3) := by decide +kernel
theorem d_RD_translate_73 : decode (xcode m_RD_translate) 73 = .ok (.aload_n 0, 1) := by decide +kernel
theorem d_RD_translate_74 : decode (xcode m_RD_translate) 74 = .ok (.getfield 38, 3) := by decide +kernel
theorem d_RD_translate_77 : decode (xcode m_RD_translate) 77 = .ok (.aload 7, 2) := by decide +kernel
theorem d_RD_translate_79 : decode (xcode m_RD_translate) 79 = .ok (.iload 9, 2) := by decide +kernel
theorem d_RD_translate_81 : decode (xcode m_RD_translate) 81 = .ok (.iconst (-1), 1) := by decide +kernel
theorem d_RD_translate_82 : decode (xcode m_RD_translate) 82 = .ok (.invokevirtual 64, 3) := by decide +kernel
theorem d_RD_translate_85 : decode (xcode m_RD_translate) 85 = .ok (.aload 6, 2) := by decide +kernel
theorem d_RD_translate_87 : decode (xcode m_RD_translate) 87 = .ok (.iload 9, 2) := by decide +kernel
theorem d_RD_translate_89 : decode (xcode m_RD_translate) 89 = .ok (.aload_n 0, 1) := by decide +kernel
theorem d_RD_translate_90 : decode (xcode m_RD_translate) 90 = .ok (.getfield 42, 3) := by decide +kernel
theorem d_RD_translate_93 : decode (xcode m_RD_translate) 93 = .ok (.invokevirtual 64, 3) := by decide +kernel
theorem d_RD_translate_96 : decode (xcode m_RD_translate) 96 = .ok (.invokevirtual 133, 3) := by decide +kernel
theorem d_RD_translate_99 : decode (xcode m_RD_translate) 99 = .ok (.iinc 9 (-1), 3) := by decide +kernel
theorem d_RD_translate_102 : decode (xcode m_RD_translate) 102 = .ok (.goto (-34), 3) := by decide +kernel
theorem d_RD_translate_105 : decode (xcode m_RD_translate) 105 = .ok (.aload_n 0, 1) := by decide +kernel
theorem d_RD_translate_106 : decode (xcode m_RD_translate) 106 = .ok (.getfield 22, 3) := by decide +kernel
theorem d_RD_translate_109 : decode (xcode m_RD_translate) 109 = .ok (.iconst 0, 1) := by decide +kernel
theorem d_RD_translate_110 : decode (xcode m_RD_translate) 110 = .ok (.invokevirtual 53, 3) := by decide +kernel
theorem d_RD_translate_113 : decode (xcode m_RD_translate) 113 = .ok (.iconst 0, 1) := by decide +kernel
theorem d_RD_translate_114 : decode (xcode m_RD_translate) 114 = .ok (.istore 9, 2) := by decide +kernel
theorem d_RD_translate_116 : decode (xcode m_RD_translate) 116 = .ok (.iload 9, 2) := by decide +kernel
theorem d_RD_translate_118 : decode (xcode m_RD_translate) 118 = .ok (.aload 5, 2) := by decide +kernel
theorem d_RD_translate_120 : decode (xcode m_RD_translate) 120 = .ok (.invokevirtual 46, 3) := by decide +kernel
theorem d_RD_translate_123 : decode (xcode m_RD_translate) 123 = .ok (.if_icmp .ge 50, 3) := by decide +kernel
theorem d_RD_translate_126 : decode (xcode m_RD_translate) 126 = .ok (.aload 5, 2) := by decide +kernel
theorem d_RD_translate_128 : decode (xcode m_RD_translate) 128 = .ok (.iload 9, 2) := by decide +kernel
theorem d_RD_translate_130 : decode (xcode m_RD_translate) 130 = .ok (.iconst (-1), 1) := by decide +kernel
theorem d_RD_translate_131 : decode (xcode m_RD_translate) 131 = .ok (.invokevirtual 64, 3) := by decide +kernel
theorem d_RD_translate_134 : decode (xcode m_RD_translate) 134 = .ok (.istore 10, 2) := by decide +kernel
theorem d_RD_translate_136 : decode (xcode m_RD_translate) 136 = .ok (.aload_n 0, 1) := by decide +kernel
theorem d_RD_translate_137 : decode (xcode m_RD_translate) 137 = .ok (.getfield 38, 3) := by decide +kernel
theorem d_RD_translate_140 : decode (xcode m_RD_translate) 140 = .ok (.iload 10, 2) := by decide +kernel
theorem d_RD_translate_142 : decode (xcode m_RD_translate) 142 = .ok (.invokevirtual 136, 3) := by decide +kernel
theorem d_RD_translate_145 : decode (xcode m_RD_translate) 145 = .ok (.istore 11, 2) := by decide +kernel
theorem d_RD_translate_147 : decode (xcode m_RD_translate) 147 = .ok (.aload_n 0, 1) := by decide +kernel
theorem d_RD_translate_148 : decode (xcode m_RD_translate) 148 = .ok (.getfield 22, 3) := by decide +kernel
theorem d_RD_translate_151 : decode (xcode m_RD_translate) 151 = .ok (.iload 11, 2) := by decide +kernel
theorem d_RD_translate_153 : decode (xcode m_RD_translate) 153 = .ok (.iconst (-1), 1) := by decide +kernel
theorem d_RD_translate_154 : decode (xcode m_RD_translate) 154 = .ok (.if_icmp .ne 8, 3) := by decide +kernel
theorem d_RD_translate_157 : decode (xcode m_RD_translate) 157 = .ok (.iload 10, 2) := by decide +kernel
theorem d_RD_translate_159 : decode (xcode m_RD_translate) 159 = .ok (.goto 5, 3) := by decide +kernel
theorem d_RD_translate_162 : decode (xcode m_RD_translate) 162 = .ok (.iload 11, 2) := by decide +kernel
theorem d_RD_translate_164 : decode (xcode m_RD_translate) 164 = .ok (.invokevirtual 140, 3) := by decide +kernel
theorem d_RD_translate_167 : decode (xcode m_RD_translate) 167 = .ok (.iinc 9 1, 3) := by decide +kernel
theorem d_RD_translate_170 : decode (xcode m_RD_translate) 170 = .ok (.goto (-54), 3) := by decide +kernel
theorem d_RD_translate_173 : decode (xcode m_RD_translate) 173 = .ok (.aload_n 0, 1) := by decide +kernel
theorem d_RD_translate_174 : decode (xcode m_RD_translate) 174 = .ok (.aload 8, 2) := by decide +kernel
theorem d_RD_translate_176 : decode (xcode m_RD_translate) 176 = .ok (.invokevirtual 79, 3) := by decide +kernel
theorem d_RD_translate_179 : decode (xcode m_RD_translate) 179 = .ok (.ireturn, 1) := by decide +kernel
