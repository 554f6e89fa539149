theorem d_MO_join_0 : decode (xcode m_MO_join) 0 = .ok (.iload_n 1, 1) := by decide +kernel
theorem d_MO_join_1 : decode (xcode m_MO_join) 1 = .ok (.invokestatic 42, 3) := by decide +kernel
theorem d_MO_join_4 : decode (xcode m_MO_join) 4 = .ok (.ifCond .eq 22, 3) := by decide +kernel
theorem d_MO_join_7 : decode (xcode m_MO_join) 7 = .ok (.iload_n 2, 1) := by decide +kernel
theorem d_MO_join_8 : decode (xcode m_MO_join) 8 = .ok (.invokestatic 42, 3) := by decide +kernel
theorem d_MO_join_11 : decode (xcode m_MO_join) 11 = .ok (.ifCond .eq 15, 3) := by decide +kernel
theorem d_MO_join_14 : decode (xcode m_MO_join) 14 = .ok (.iload 4, 2) := by decide +kernel
theorem d_MO_join_16 : decode (xcode m_MO_join) 16 = .ok (.invokestatic 42, 3) := by decide +kernel
theorem d_MO_join_19 : decode (xcode m_MO_join) 19 = .ok (.ifCond .eq 7, 3) := by decide +kernel
theorem d_MO_join_22 : decode (xcode m_MO_join) 22 = .ok (.iload_n 3, 1) := by decide +kernel
theorem d_MO_join_23 : decode (xcode m_MO_join) 23 = .ok (.ifCond .ge 5, 3) := by decide +kernel
theorem d_MO_join_26 : decode (xcode m_MO_join) 26 = .ok (.iconst (-1), 1) := by decide +kernel
theorem d_MO_join_27 : decode (xcode m_MO_join) 27 = .ok (.ireturn, 1) := by decide +kernel
theorem d_MO_join_28 : decode (xcode m_MO_join) 28 = .ok (.aload_n 0, 1) := by decide +kernel
theorem d_MO_join_29 : decode (xcode m_MO_join) 29 = .ok (.iconst 0, 1) := by decide +kernel
theorem d_MO_join_30 : decode (xcode m_MO_join) 30 = .ok (.putfield 50, 3) := by decide +kernel
theorem d_MO_join_33 : decode (xcode m_MO_join) 33 = .ok (.aload_n 0, 1) := by decide +kernel
theorem d_MO_join_34 : decode (xcode m_MO_join) 34 = .ok (.iload_n 1, 1) := by decide +kernel
theorem d_MO_join_35 : decode (xcode m_MO_join) 35 = .ok (.lconst 0, 1) := by decide +kernel
theorem d_MO_join_36 : decode (xcode m_MO_join) 36 = .ok (.ldc2_w 68, 3) := by decide +kernel
theorem d_MO_join_39 : decode (xcode m_MO_join) 39 = .ok (.invokevirtual 60, 3) := by decide +kernel
theorem d_MO_join_42 : decode (xcode m_MO_join) 42 = .ok (.aload_n 0, 1) := by decide +kernel
theorem d_MO_join_43 : decode (xcode m_MO_join) 43 = .ok (.iload_n 3, 1) := by decide +kernel
theorem d_MO_join_44 : decode (xcode m_MO_join) 44 = .ok (.i2l, 1) := by decide +kernel
theorem d_MO_join_45 : decode (xcode m_MO_join) 45 = .ok (.invokevirtual 56, 3) := by decide +kernel
theorem d_MO_join_48 : decode (xcode m_MO_join) 48 = .ok (.aload_n 0, 1) := by decide +kernel
theorem d_MO_join_49 : decode (xcode m_MO_join) 49 = .ok (.iload_n 2, 1) := by decide +kernel
theorem d_MO_join_50 : decode (xcode m_MO_join) 50 = .ok (.lconst 0, 1) := by decide +kernel
theorem d_MO_join_51 : decode (xcode m_MO_join) 51 = .ok (.ldc2_w 68, 3) := by decide +kernel
theorem d_MO_join_54 : decode (xcode m_MO_join) 54 = .ok (.invokevirtual 60, 3) := by decide +kernel
theorem d_MO_join_57 : decode (xcode m_MO_join) 57 = .ok (.aload_n 0, 1) := by decide +kernel
theorem d_MO_join_58 : decode (xcode m_MO_join) 58 = .ok (.iload 4, 2) := by decide +kernel
theorem d_MO_join_60 : decode (xcode m_MO_join) 60 = .ok (.invokevirtual 64, 3) := by decide +kernel
theorem d_MO_join_63 : decode (xcode m_MO_join) 63 = .ok (.ireturn, 1) := by decide +kernel
theorem d_MO_copies_0 : decode (xcode m_MO_copies) 0 = .ok (.iload_n 1, 1) := by decide +kernel
theorem d_MO_copies_1 : decode (xcode m_MO_copies) 1 = .ok (.invokestatic 42, 3) := by decide +kernel
theorem d_MO_copies_4 : decode (xcode m_MO_copies) 4 = .ok (.ifCond .eq 14, 3) := by decide +kernel
theorem d_MO_copies_7 : decode (xcode m_MO_copies) 7 = .ok (.iload_n 3, 1) := by decide +kernel
theorem d_MO_copies_8 : decode (xcode m_MO_copies) 8 = .ok (.invokestatic 42, 3) := by decide +kernel
theorem d_MO_copies_11 : decode (xcode m_MO_copies) 11 = .ok (.ifCond .eq 7, 3) := by decide +kernel
theorem d_MO_copies_14 : decode (xcode m_MO_copies) 14 = .ok (.iload_n 2, 1) := by decide +kernel
theorem d_MO_copies_15 : decode (xcode m_MO_copies) 15 = .ok (.ifCond .ge 5, 3) := by decide +kernel
theorem d_MO_copies_18 : decode (xcode m_MO_copies) 18 = .ok (.iconst (-1), 1) := by decide +kernel
theorem d_MO_copies_19 : decode (xcode m_MO_copies) 19 = .ok (.ireturn, 1) := by decide +kernel
theorem d_MO_copies_20 : decode (xcode m_MO_copies) 20 = .ok (.aload_n 0, 1) := by decide +kernel
theorem d_MO_copies_21 : decode (xcode m_MO_copies) 21 = .ok (.iconst 0, 1) := by decide +kernel
theorem d_MO_copies_22 : decode (xcode m_MO_copies) 22 = .ok (.putfield 50, 3) := by decide +kernel
theorem d_MO_copies_25 : decode (xcode m_MO_copies) 25 = .ok (.iconst 0, 1) := by decide +kernel
theorem d_MO_copies_26 : decode (xcode m_MO_copies) 26 = .ok (.istore 4, 2) := by decide +kernel
theorem d_MO_copies_28 : decode (xcode m_MO_copies) 28 = .ok (.iload 4, 2) := by decide +kernel
theorem d_MO_copies_30 : decode (xcode m_MO_copies) 30 = .ok (.iload_n 2, 1) := by decide +kernel
theorem d_MO_copies_31 : decode (xcode m_MO_copies) 31 = .ok (.if_icmp .ge 37, 3) := by decide +kernel
theorem d_MO_copies_34 : decode (xcode m_MO_copies) 34 = .ok (.aload_n 0, 1) := by decide +kernel
theorem d_MO_copies_35 : decode (xcode m_MO_copies) 35 = .ok (.getfield 16, 3) := by decide +kernel
theorem d_MO_copies_38 : decode (xcode m_MO_copies) 38 = .ok (.iload_n 1, 1) := by decide +kernel
theorem d_MO_copies_39 : decode (xcode m_MO_copies) 39 = .ok (.iaload, 1) := by decide +kernel
theorem d_MO_copies_40 : decode (xcode m_MO_copies) 40 = .ok (.ifCond .le 28, 3) := by decide +kernel
theorem d_MO_copies_43 : decode (xcode m_MO_copies) 43 = .ok (.aload_n 0, 1) := by decide +kernel
theorem d_MO_copies_44 : decode (xcode m_MO_copies) 44 = .ok (.getfield 50, 3) := by decide +kernel
theorem d_MO_copies_47 : decode (xcode m_MO_copies) 47 = .ok (.sipush 200, 3) := by decide +kernel
theorem d_MO_copies_50 : decode (xcode m_MO_copies) 50 = .ok (.if_icmp .gt 18, 3) := by decide +kernel
theorem d_MO_copies_53 : decode (xcode m_MO_copies) 53 = .ok (.aload_n 0, 1) := by decide +kernel
theorem d_MO_copies_54 : decode (xcode m_MO_copies) 54 = .ok (.iload_n 1, 1) := by decide +kernel
theorem d_MO_copies_55 : decode (xcode m_MO_copies) 55 = .ok (.lconst 0, 1) := by decide +kernel
theorem d_MO_copies_56 : decode (xcode m_MO_copies) 56 = .ok (.ldc2_w 68, 3) := by decide +kernel
theorem d_MO_copies_59 : decode (xcode m_MO_copies) 59 = .ok (.invokevirtual 60, 3) := by decide +kernel
theorem d_MO_copies_62 : decode (xcode m_MO_copies) 62 = .ok (.iinc 4 1, 3) := by decide +kernel
theorem d_MO_copies_65 : decode (xcode m_MO_copies) 65 = .ok (.goto (-37), 3) := by decide +kernel
theorem d_MO_copies_68 : decode (xcode m_MO_copies) 68 = .ok (.aload_n 0, 1) := by decide +kernel
theorem d_MO_copies_69 : decode (xcode m_MO_copies) 69 = .ok (.iload_n 3, 1) := by decide +kernel
theorem d_MO_copies_70 : decode (xcode m_MO_copies) 70 = .ok (.invokevirtual 64, 3) := by decide +kernel
theorem d_MO_copies_73 : decode (xcode m_MO_copies) 73 = .ok (.ireturn, 1) := by decide +kernel
theorem d_MO_set_0 : decode (xcode m_MO_set) 0 = .ok (.iload_n 1, 1) := by decide +kernel
theorem d_MO_set_1 : decode (xcode m_MO_set) 1 = .ok (.invokestatic 42, 3) := by decide +kernel
theorem d_MO_set_4 : decode (xcode m_MO_set) 4 = .ok (.ifCond .eq 22, 3) := by decide +kernel
theorem d_MO_set_7 : decode (xcode m_MO_set) 7 = .ok (.iload_n 2, 1) := by decide +kernel
theorem d_MO_set_8 : decode (xcode m_MO_set) 8 = .ok (.invokestatic 42, 3) := by decide +kernel
theorem d_MO_set_11 : decode (xcode m_MO_set) 11 = .ok (.ifCond .eq 15, 3) := by decide +kernel
theorem d_MO_set_14 : decode (xcode m_MO_set) 14 = .ok (.iload 5, 2) := by decide +kernel
theorem d_MO_set_16 : decode (xcode m_MO_set) 16 = .ok (.invokestatic 42, 3) := by decide +kernel
theorem d_MO_set_19 : decode (xcode m_MO_set) 19 = .ok (.ifCond .eq 7, 3) := by decide +kernel
theorem d_MO_set_22 : decode (xcode m_MO_set) 22 = .ok (.iload_n 3, 1) := by decide +kernel
theorem d_MO_set_23 : decode (xcode m_MO_set) 23 = .ok (.ifCond .ge 5, 3) := by decide +kernel
theorem d_MO_set_26 : decode (xcode m_MO_set) 26 = .ok (.iconst (-1), 1) := by decide +kernel
theorem d_MO_set_27 : decode (xcode m_MO_set) 27 = .ok (.ireturn, 1) := by decide +kernel
theorem d_MO_set_28 : decode (xcode m_MO_set) 28 = .ok (.aload_n 0, 1) := by decide +kernel
theorem d_MO_set_29 : decode (xcode m_MO_set) 29 = .ok (.iconst 0, 1) := by decide +kernel
theorem d_MO_set_30 : decode (xcode m_MO_set) 30 = .ok (.putfield 50, 3) := by decide +kernel
theorem d_MO_set_33 : decode (xcode m_MO_set) 33 = .ok (.aload_n 0, 1) := by decide +kernel
theorem d_MO_set_34 : decode (xcode m_MO_set) 34 = .ok (.iload_n 2, 1) := by decide +kernel
theorem d_MO_set_35 : decode (xcode m_MO_set) 35 = .ok (.lconst 0, 1) := by decide +kernel
theorem d_MO_set_36 : decode (xcode m_MO_set) 36 = .ok (.iload_n 3, 1) := by decide +kernel
theorem d_MO_set_37 : decode (xcode m_MO_set) 37 = .ok (.i2l, 1) := by decide +kernel
theorem d_MO_set_38 : decode (xcode m_MO_set) 38 = .ok (.invokevirtual 60, 3) := by decide +kernel
theorem d_MO_set_41 : decode (xcode m_MO_set) 41 = .ok (.aload_n 0, 1) := by decide +kernel
theorem d_MO_set_42 : decode (xcode m_MO_set) 42 = .ok (.iload_n 3, 1) := by decide +kernel
theorem d_MO_set_43 : decode (xcode m_MO_set) 43 = .ok (.i2l, 1) := by decide +kernel
theorem d_MO_set_44 : decode (xcode m_MO_set) 44 = .ok (.aload_n 0, 1) := by decide +kernel
theorem d_MO_set_45 : decode (xcode m_MO_set) 45 = .ok (.getfield 50, 3) := by decide +kernel
theorem d_MO_set_48 : decode (xcode m_MO_set) 48 = .ok (.i2l, 1) := by decide +kernel
theorem d_MO_set_49 : decode (xcode m_MO_set) 49 = .ok (.lsub, 1) := by decide +kernel
theorem d_MO_set_50 : decode (xcode m_MO_set) 50 = .ok (.invokevirtual 56, 3) := by decide +kernel
theorem d_MO_set_53 : decode (xcode m_MO_set) 53 = .ok (.aload_n 0, 1) := by decide +kernel
theorem d_MO_set_54 : decode (xcode m_MO_set) 54 = .ok (.iload_n 1, 1) := by decide +kernel
theorem d_MO_set_55 : decode (xcode m_MO_set) 55 = .ok (.lconst 0, 1) := by decide +kernel
theorem d_MO_set_56 : decode (xcode m_MO_set) 56 = .ok (.ldc2_w 68, 3) := by decide +kernel
theorem d_MO_set_59 : decode (xcode m_MO_set) 59 = .ok (.invokevirtual 60, 3) := by decide +kernel
theorem d_MO_set_62 : decode (xcode m_MO_set) 62 = .ok (.aload_n 0, 1) := by decide +kernel
theorem d_MO_set_63 : decode (xcode m_MO_set) 63 = .ok (.iload_n 2, 1) := by decide +kernel
theorem d_MO_set_64 : decode (xcode m_MO_set) 64 = .ok (.iload 4, 2) := by decide +kernel
theorem d_MO_set_66 : decode (xcode m_MO_set) 66 = .ok (.ifCond .eq 16, 3) := by decide +kernel
theorem d_MO_set_69 : decode (xcode m_MO_set) 69 = .ok (.iload_n 3, 1) := by decide +kernel
theorem d_MO_set_70 : decode (xcode m_MO_set) 70 = .ok (.i2l, 1) := by decide +kernel
theorem d_MO_set_71 : decode (xcode m_MO_set) 71 = .ok (.aload_n 0, 1) := by decide +kernel
theorem d_MO_set_72 : decode (xcode m_MO_set) 72 = .ok (.getfield 16, 3) := by decide +kernel
theorem d_MO_set_75 : decode (xcode m_MO_set) 75 = .ok (.iload_n 1, 1) := by decide +kernel
theorem d_MO_set_76 : decode (xcode m_MO_set) 76 = .ok (.iaload, 1) := by decide +kernel
theorem d_MO_set_77 : decode (xcode m_MO_set) 77 = .ok (.i2l, 1) := by decide +kernel
theorem d_MO_set_78 : decode (xcode m_MO_set) 78 = .ok (.ladd, 1) := by decide +kernel
theorem d_MO_set_79 : decode (xcode m_MO_set) 79 = .ok (.goto 5, 3) := by decide +kernel
theorem d_MO_set_82 : decode (xcode m_MO_set) 82 = .ok (.iload_n 3, 1) := by decide +kernel
theorem d_MO_set_83 : decode (xcode m_MO_set) 83 = .ok (.i2l, 1) := by decide +kernel
theorem d_MO_set_84 : decode (xcode m_MO_set) 84 = .ok (.ldc2_w 68, 3) := by decide +kernel
theorem d_MO_set_87 : decode (xcode m_MO_set) 87 = .ok (.invokevirtual 60, 3) := by decide +kernel
theorem d_MO_set_90 : decode (xcode m_MO_set) 90 = .ok (.aload_n 0, 1) := by decide +kernel
theorem d_MO_set_91 : decode (xcode m_MO_set) 91 = .ok (.iload 5, 2) := by decide +kernel
theorem d_MO_set_93 : decode (xcode m_MO_set) 93 = .ok (.invokevirtual 64, 3) := by decide +kernel
theorem d_MO_set_96 : decode (xcode m_MO_set) 96 = .ok (.ireturn, 1) := by decide +kernel
theorem d_MO_find_0 : decode (xcode m_MO_find) 0 = .ok (.iload_n 1, 1) := by decide +kernel
theorem d_MO_find_1 : decode (xcode m_MO_find) 1 = .ok (.invokestatic 42, 3) := by decide +kernel
theorem d_MO_find_4 : decode (xcode m_MO_find) 4 = .ok (.ifCond .eq 25, 3) := by decide +kernel
theorem d_MO_find_7 : decode (xcode m_MO_find) 7 = .ok (.iload_n 2, 1) := by decide +kernel
theorem d_MO_find_8 : decode (xcode m_MO_find) 8 = .ok (.invokestatic 42, 3) := by decide +kernel
theorem d_MO_find_11 : decode (xcode m_MO_find) 11 = .ok (.ifCond .eq 18, 3) := by decide +kernel
theorem d_MO_find_14 : decode (xcode m_MO_find) 14 = .ok (.iload_n 3, 1) := by decide +kernel
theorem d_MO_find_15 : decode (xcode m_MO_find) 15 = .ok (.iconst 1, 1) := by decide +kernel
theorem d_MO_find_16 : decode (xcode m_MO_find) 16 = .ok (.if_icmp .ge 15, 3) := by decide +kernel
theorem d_MO_find_19 : decode (xcode m_MO_find) 19 = .ok (.iload 4, 2) := by decide +kernel
theorem d_MO_find_21 : decode (xcode m_MO_find) 21 = .ok (.ifCond .eq 8, 3) := by decide +kernel
theorem d_MO_find_24 : decode (xcode m_MO_find) 24 = .ok (.iload_n 3, 1) := by decide +kernel
theorem d_MO_find_25 : decode (xcode m_MO_find) 25 = .ok (.iconst (-1), 1) := by decide +kernel
theorem d_MO_find_26 : decode (xcode m_MO_find) 26 = .ok (.if_icmp .eq 5, 3) := by decide +kernel
theorem d_MO_find_29 : decode (xcode m_MO_find) 29 = .ok (.iconst (-1), 1) := by decide +kernel
theorem d_MO_find_30 : decode (xcode m_MO_find) 30 = .ok (.ireturn, 1) := by decide +kernel
theorem d_MO_find_31 : decode (xcode m_MO_find) 31 = .ok (.iconst 0, 1) := by decide +kernel
theorem d_MO_find_32 : decode (xcode m_MO_find) 32 = .ok (.istore 5, 2) := by decide +kernel
theorem d_MO_find_34 : decode (xcode m_MO_find) 34 = .ok (.iload_n 3, 1) := by decide +kernel
theorem d_MO_find_35 : decode (xcode m_MO_find) 35 = .ok (.iconst (-1), 1) := by decide +kernel
theorem d_MO_find_36 : decode (xcode m_MO_find) 36 = .ok (.if_icmp .eq 13, 3) := by decide +kernel
theorem d_MO_find_39 : decode (xcode m_MO_find) 39 = .ok (.iload_n 3, 1) := by decide +kernel
theorem d_MO_find_40 : decode (xcode m_MO_find) 40 = .ok (.aload_n 0, 1) := by decide +kernel
theorem d_MO_find_41 : decode (xcode m_MO_find) 41 = .ok (.getfield 16, 3) := by decide +kernel
theorem d_MO_find_44 : decode (xcode m_MO_find) 44 = .ok (.iload_n 2, 1) := by decide +kernel
theorem d_MO_find_45 : decode (xcode m_MO_find) 45 = .ok (.iaload, 1) := by decide +kernel
theorem d_MO_find_46 : decode (xcode m_MO_find) 46 = .ok (.if_icmp .le 12, 3) := by decide +kernel
theorem d_MO_find_49 : decode (xcode m_MO_find) 49 = .ok (.aload_n 0, 1) := by decide +kernel
theorem d_MO_find_50 : decode (xcode m_MO_find) 50 = .ok (.getfield 16, 3) := by decide +kernel
theorem d_MO_find_53 : decode (xcode m_MO_find) 53 = .ok (.iload_n 2, 1) := by decide +kernel
theorem d_MO_find_54 : decode (xcode m_MO_find) 54 = .ok (.iaload, 1) := by decide +kernel
theorem d_MO_find_55 : decode (xcode m_MO_find) 55 = .ok (.goto 4, 3) := by decide +kernel
theorem d_MO_find_58 : decode (xcode m_MO_find) 58 = .ok (.iload_n 3, 1) := by decide +kernel
theorem d_MO_find_59 : decode (xcode m_MO_find) 59 = .ok (.istore 6, 2) := by decide +kernel
theorem d_MO_find_61 : decode (xcode m_MO_find) 61 = .ok (.iconst 0, 1) := by decide +kernel
theorem d_MO_find_62 : decode (xcode m_MO_find) 62 = .ok (.istore 7, 2) := by decide +kernel
theorem d_MO_find_64 : decode (xcode m_MO_find) 64 = .ok (.iload 7, 2) := by decide +kernel
theorem d_MO_find_66 : decode (xcode m_MO_find) 66 = .ok (.aload_n 0, 1) := by decide +kernel
theorem d_MO_find_67 : decode (xcode m_MO_find) 67 = .ok (.getfield 16, 3) := by decide +kernel
theorem d_MO_find_70 : decode (xcode m_MO_find) 70 = .ok (.iload_n 2, 1) := by decide +kernel
theorem d_MO_find_71 : decode (xcode m_MO_find) 71 = .ok (.iaload, 1) := by decide +kernel
theorem d_MO_find_72 : decode (xcode m_MO_find) 72 = .ok (.if_icmp .ge 83, 3) := by decide +kernel
theorem d_MO_find_75 : decode (xcode m_MO_find) 75 = .ok (.aload_n 0, 1) := by decide +kernel
theorem d_MO_find_76 : decode (xcode m_MO_find) 76 = .ok (.iload_n 1, 1) := by decide +kernel
theorem d_MO_find_77 : decode (xcode m_MO_find) 77 = .ok (.iload_n 2, 1) := by decide +kernel
theorem d_MO_find_78 : decode (xcode m_MO_find) 78 = .ok (.iload 7, 2) := by decide +kernel
theorem d_MO_find_80 : decode (xcode m_MO_find) 80 = .ok (.invokevirtual 70, 3) := by decide +kernel
theorem d_MO_find_83 : decode (xcode m_MO_find) 83 = .ok (.ifCond .eq 37, 3) := by decide +kernel
theorem d_MO_find_86 : decode (xcode m_MO_find) 86 = .ok (.iload 4, 2) := by decide +kernel
theorem d_MO_find_88 : decode (xcode m_MO_find) 88 = .ok (.ifCond .eq 20, 3) := by decide +kernel
theorem d_MO_find_91 : decode (xcode m_MO_find) 91 = .ok (.iload 7, 2) := by decide +kernel
theorem d_MO_find_93 : decode (xcode m_MO_find) 93 = .ok (.aload_n 0, 1) := by decide +kernel
theorem d_MO_find_94 : decode (xcode m_MO_find) 94 = .ok (.getfield 16, 3) := by decide +kernel
theorem d_MO_find_97 : decode (xcode m_MO_find) 97 = .ok (.iload_n 1, 1) := by decide +kernel
theorem d_MO_find_98 : decode (xcode m_MO_find) 98 = .ok (.iaload, 1) := by decide +kernel
theorem d_MO_find_99 : decode (xcode m_MO_find) 99 = .ok (.iadd, 1) := by decide +kernel
theorem d_MO_find_100 : decode (xcode m_MO_find) 100 = .ok (.iload 6, 2) := by decide +kernel
theorem d_MO_find_102 : decode (xcode m_MO_find) 102 = .ok (.if_icmp .gt 18, 3) := by decide +kernel
theorem d_MO_find_105 : decode (xcode m_MO_find) 105 = .ok (.goto 11, 3) := by decide +kernel
theorem d_MO_find_108 : decode (xcode m_MO_find) 108 = .ok (.iload 7, 2) := by decide +kernel
theorem d_MO_find_110 : decode (xcode m_MO_find) 110 = .ok (.iconst 1, 1) := by decide +kernel
theorem d_MO_find_111 : decode (xcode m_MO_find) 111 = .ok (.iadd, 1) := by decide +kernel
theorem d_MO_find_112 : decode (xcode m_MO_find) 112 = .ok (.iload_n 3, 1) := by decide +kernel
theorem d_MO_find_113 : decode (xcode m_MO_find) 113 = .ok (.if_icmp .lt 7, 3) := by decide +kernel
theorem d_MO_find_116 : decode (xcode m_MO_find) 116 = .ok (.iconst 1, 1) := by decide +kernel
theorem d_MO_find_117 : decode (xcode m_MO_find) 117 = .ok (.goto 4, 3) := by decide +kernel
theorem d_MO_find_120 : decode (xcode m_MO_find) 120 = .ok (.iconst 0, 1) := by decide +kernel
theorem d_MO_find_121 : decode (xcode m_MO_find) 121 = .ok (.istore 8, 2) := by decide +kernel
theorem d_MO_find_123 : decode (xcode m_MO_find) 123 = .ok (.iload 8, 2) := by decide +kernel
theorem d_MO_find_125 : decode (xcode m_MO_find) 125 = .ok (.ifCond .eq 20, 3) := by decide +kernel
theorem d_MO_find_128 : decode (xcode m_MO_find) 128 = .ok (.iload 4, 2) := by decide +kernel
theorem d_MO_find_130 : decode (xcode m_MO_find) 130 = .ok (.ifCond .ne 8, 3) := by decide +kernel
theorem d_MO_find_133 : decode (xcode m_MO_find) 133 = .ok (.iload 5, 2) := by decide +kernel
theorem d_MO_find_135 : decode (xcode m_MO_find) 135 = .ok (.ifCond .ne 10, 3) := by decide +kernel
theorem d_MO_find_138 : decode (xcode m_MO_find) 138 = .ok (.iload 7, 2) := by decide +kernel
theorem d_MO_find_140 : decode (xcode m_MO_find) 140 = .ok (.iconst 1, 1) := by decide +kernel
theorem d_MO_find_141 : decode (xcode m_MO_find) 141 = .ok (.iadd, 1) := by decide +kernel
theorem d_MO_find_142 : decode (xcode m_MO_find) 142 = .ok (.goto 5, 3) := by decide +kernel
theorem d_MO_find_145 : decode (xcode m_MO_find) 145 = .ok (.iload 5, 2) := by decide +kernel
theorem d_MO_find_147 : decode (xcode m_MO_find) 147 = .ok (.istore 5, 2) := by decide +kernel
theorem d_MO_find_149 : decode (xcode m_MO_find) 149 = .ok (.iinc 7 1, 3) := by decide +kernel
theorem d_MO_find_152 : decode (xcode m_MO_find) 152 = .ok (.goto (-88), 3) := by decide +kernel
theorem d_MO_find_155 : decode (xcode m_MO_find) 155 = .ok (.iload 5, 2) := by decide +kernel
theorem d_MO_find_157 : decode (xcode m_MO_find) 157 = .ok (.ireturn, 1) := by decide +kernel
theorem d_MO_stands_0 : decode (xcode m_MO_stands) 0 = .ok (.iload_n 3, 1) := by decide +kernel
theorem d_MO_stands_1 : decode (xcode m_MO_stands) 1 = .ok (.aload_n 0, 1) := by decide +kernel
theorem d_MO_stands_2 : decode (xcode m_MO_stands) 2 = .ok (.getfield 16, 3) := by decide +kernel
theorem d_MO_stands_5 : decode (xcode m_MO_stands) 5 = .ok (.iload_n 1, 1) := by decide +kernel
theorem d_MO_stands_6 : decode (xcode m_MO_stands) 6 = .ok (.iaload, 1) := by decide +kernel
theorem d_MO_stands_7 : decode (xcode m_MO_stands) 7 = .ok (.iadd, 1) := by decide +kernel
theorem d_MO_stands_8 : decode (xcode m_MO_stands) 8 = .ok (.aload_n 0, 1) := by decide +kernel
theorem d_MO_stands_9 : decode (xcode m_MO_stands) 9 = .ok (.getfield 16, 3) := by decide +kernel
theorem d_MO_stands_12 : decode (xcode m_MO_stands) 12 = .ok (.iload_n 2, 1) := by decide +kernel
theorem d_MO_stands_13 : decode (xcode m_MO_stands) 13 = .ok (.iaload, 1) := by decide +kernel
theorem d_MO_stands_14 : decode (xcode m_MO_stands) 14 = .ok (.if_icmp .le 5, 3) := by decide +kernel
theorem d_MO_stands_17 : decode (xcode m_MO_stands) 17 = .ok (.iconst 0, 1) := by decide +kernel
theorem d_MO_stands_18 : decode (xcode m_MO_stands) 18 = .ok (.ireturn, 1) := by decide +kernel
theorem d_MO_stands_19 : decode (xcode m_MO_stands) 19 = .ok (.iconst 0, 1) := by decide +kernel
theorem d_MO_stands_20 : decode (xcode m_MO_stands) 20 = .ok (.istore 4, 2) := by decide +kernel
theorem d_MO_stands_22 : decode (xcode m_MO_stands) 22 = .ok (.iload 4, 2) := by decide +kernel
theorem d_MO_stands_24 : decode (xcode m_MO_stands) 24 = .ok (.aload_n 0, 1) := by decide +kernel
theorem d_MO_stands_25 : decode (xcode m_MO_stands) 25 = .ok (.getfield 16, 3) := by decide +kernel
theorem d_MO_stands_28 : decode (xcode m_MO_stands) 28 = .ok (.iload_n 1, 1) := by decide +kernel
theorem d_MO_stands_29 : decode (xcode m_MO_stands) 29 = .ok (.iaload, 1) := by decide +kernel
theorem d_MO_stands_30 : decode (xcode m_MO_stands) 30 = .ok (.if_icmp .ge 30, 3) := by decide +kernel
theorem d_MO_stands_33 : decode (xcode m_MO_stands) 33 = .ok (.aload_n 0, 1) := by decide +kernel
theorem d_MO_stands_34 : decode (xcode m_MO_stands) 34 = .ok (.iload_n 1, 1) := by decide +kernel
theorem d_MO_stands_35 : decode (xcode m_MO_stands) 35 = .ok (.iload 4, 2) := by decide +kernel
theorem d_MO_stands_37 : decode (xcode m_MO_stands) 37 = .ok (.invokevirtual 46, 3) := by decide +kernel
theorem d_MO_stands_40 : decode (xcode m_MO_stands) 40 = .ok (.aload_n 0, 1) := by decide +kernel
theorem d_MO_stands_41 : decode (xcode m_MO_stands) 41 = .ok (.iload_n 2, 1) := by decide +kernel
theorem d_MO_stands_42 : decode (xcode m_MO_stands) 42 = .ok (.iload_n 3, 1) := by decide +kernel
theorem d_MO_stands_43 : decode (xcode m_MO_stands) 43 = .ok (.iload 4, 2) := by decide +kernel
theorem d_MO_stands_45 : decode (xcode m_MO_stands) 45 = .ok (.iadd, 1) := by decide +kernel
theorem d_MO_stands_46 : decode (xcode m_MO_stands) 46 = .ok (.invokevirtual 46, 3) := by decide +kernel
theorem d_MO_stands_49 : decode (xcode m_MO_stands) 49 = .ok (.if_icmp .eq 5, 3) := by decide +kernel
theorem d_MO_stands_52 : decode (xcode m_MO_stands) 52 = .ok (.iconst 0, 1) := by decide +kernel
theorem d_MO_stands_53 : decode (xcode m_MO_stands) 53 = .ok (.ireturn, 1) := by decide +kernel
theorem d_MO_stands_54 : decode (xcode m_MO_stands) 54 = .ok (.iinc 4 1, 3) := by decide +kernel
theorem d_MO_stands_57 : decode (xcode m_MO_stands) 57 = .ok (.goto (-35), 3) := by decide +kernel
theorem d_MO_stands_60 : decode (xcode m_MO_stands) 60 = .ok (.aload_n 0, 1) := by decide +kernel
theorem d_MO_stands_61 : decode (xcode m_MO_stands) 61 = .ok (.getfield 16, 3) := by decide +kernel
theorem d_MO_stands_64 : decode (xcode m_MO_stands) 64 = .ok (.iload_n 1, 1) := by decide +kernel
theorem d_MO_stands_65 : decode (xcode m_MO_stands) 65 = .ok (.iaload, 1) := by decide +kernel
theorem d_MO_stands_66 : decode (xcode m_MO_stands) 66 = .ok (.ifCond .le 7, 3) := by decide +kernel
theorem d_MO_stands_69 : decode (xcode m_MO_stands) 69 = .ok (.iconst 1, 1) := by decide +kernel
theorem d_MO_stands_70 : decode (xcode m_MO_stands) 70 = .ok (.goto 4, 3) := by decide +kernel
theorem d_MO_stands_73 : decode (xcode m_MO_stands) 73 = .ok (.iconst 0, 1) := by decide +kernel
theorem d_MO_stands_74 : decode (xcode m_MO_stands) 74 = .ok (.ireturn, 1) := by decide +kernel
theorem d_MO_change_0 : decode (xcode m_MO_change) 0 = .ok (.iload_n 1, 1) := by decide +kernel
theorem d_MO_change_1 : decode (xcode m_MO_change) 1 = .ok (.invokestatic 42, 3) := by decide +kernel
theorem d_MO_change_4 : decode (xcode m_MO_change) 4 = .ok (.ifCond .eq 25, 3) := by decide +kernel
theorem d_MO_change_7 : decode (xcode m_MO_change) 7 = .ok (.iload_n 2, 1) := by decide +kernel
theorem d_MO_change_8 : decode (xcode m_MO_change) 8 = .ok (.invokestatic 42, 3) := by decide +kernel
theorem d_MO_change_11 : decode (xcode m_MO_change) 11 = .ok (.ifCond .eq 18, 3) := by decide +kernel
theorem d_MO_change_14 : decode (xcode m_MO_change) 14 = .ok (.iload_n 3, 1) := by decide +kernel
theorem d_MO_change_15 : decode (xcode m_MO_change) 15 = .ok (.invokestatic 42, 3) := by decide +kernel
theorem d_MO_change_18 : decode (xcode m_MO_change) 18 = .ok (.ifCond .eq 11, 3) := by decide +kernel
theorem d_MO_change_21 : decode (xcode m_MO_change) 21 = .ok (.iload 4, 2) := by decide +kernel
theorem d_MO_change_23 : decode (xcode m_MO_change) 23 = .ok (.invokestatic 42, 3) := by decide +kernel
theorem d_MO_change_26 : decode (xcode m_MO_change) 26 = .ok (.ifCond .ne 5, 3) := by decide +kernel
theorem d_MO_change_29 : decode (xcode m_MO_change) 29 = .ok (.iconst (-1), 1) := by decide +kernel
theorem d_MO_change_30 : decode (xcode m_MO_change) 30 = .ok (.ireturn, 1) := by decide +kernel
theorem d_MO_change_31 : decode (xcode m_MO_change) 31 = .ok (.aload_n 0, 1) := by decide +kernel
theorem d_MO_change_32 : decode (xcode m_MO_change) 32 = .ok (.iconst 0, 1) := by decide +kernel
theorem d_MO_change_33 : decode (xcode m_MO_change) 33 = .ok (.putfield 50, 3) := by decide +kernel
theorem d_MO_change_36 : decode (xcode m_MO_change) 36 = .ok (.iconst 0, 1) := by decide +kernel
theorem d_MO_change_37 : decode (xcode m_MO_change) 37 = .ok (.istore 5, 2) := by decide +kernel
theorem d_MO_change_39 : decode (xcode m_MO_change) 39 = .ok (.iload 5, 2) := by decide +kernel
theorem d_MO_change_41 : decode (xcode m_MO_change) 41 = .ok (.aload_n 0, 1) := by decide +kernel
theorem d_MO_change_42 : decode (xcode m_MO_change) 42 = .ok (.getfield 16, 3) := by decide +kernel
theorem d_MO_change_45 : decode (xcode m_MO_change) 45 = .ok (.iload_n 2, 1) := by decide +kernel
theorem d_MO_change_46 : decode (xcode m_MO_change) 46 = .ok (.iaload, 1) := by decide +kernel
theorem d_MO_change_47 : decode (xcode m_MO_change) 47 = .ok (.if_icmp .ge 54, 3) := by decide +kernel
theorem d_MO_change_50 : decode (xcode m_MO_change) 50 = .ok (.aload_n 0, 1) := by decide +kernel
theorem d_MO_change_51 : decode (xcode m_MO_change) 51 = .ok (.iload_n 1, 1) := by decide +kernel
theorem d_MO_change_52 : decode (xcode m_MO_change) 52 = .ok (.iload_n 2, 1) := by decide +kernel
theorem d_MO_change_53 : decode (xcode m_MO_change) 53 = .ok (.iload 5, 2) := by decide +kernel
theorem d_MO_change_55 : decode (xcode m_MO_change) 55 = .ok (.invokevirtual 70, 3) := by decide +kernel
theorem d_MO_change_58 : decode (xcode m_MO_change) 58 = .ok (.ifCond .eq 26, 3) := by decide +kernel
theorem d_MO_change_61 : decode (xcode m_MO_change) 61 = .ok (.aload_n 0, 1) := by decide +kernel
theorem d_MO_change_62 : decode (xcode m_MO_change) 62 = .ok (.iload_n 3, 1) := by decide +kernel
theorem d_MO_change_63 : decode (xcode m_MO_change) 63 = .ok (.lconst 0, 1) := by decide +kernel
theorem d_MO_change_64 : decode (xcode m_MO_change) 64 = .ok (.ldc2_w 68, 3) := by decide +kernel
theorem d_MO_change_67 : decode (xcode m_MO_change) 67 = .ok (.invokevirtual 60, 3) := by decide +kernel
theorem d_MO_change_70 : decode (xcode m_MO_change) 70 = .ok (.iload 5, 2) := by decide +kernel
theorem d_MO_change_72 : decode (xcode m_MO_change) 72 = .ok (.aload_n 0, 1) := by decide +kernel
theorem d_MO_change_73 : decode (xcode m_MO_change) 73 = .ok (.getfield 16, 3) := by decide +kernel
theorem d_MO_change_76 : decode (xcode m_MO_change) 76 = .ok (.iload_n 1, 1) := by decide +kernel
theorem d_MO_change_77 : decode (xcode m_MO_change) 77 = .ok (.iaload, 1) := by decide +kernel
theorem d_MO_change_78 : decode (xcode m_MO_change) 78 = .ok (.iadd, 1) := by decide +kernel
theorem d_MO_change_79 : decode (xcode m_MO_change) 79 = .ok (.istore 5, 2) := by decide +kernel
theorem d_MO_change_81 : decode (xcode m_MO_change) 81 = .ok (.goto (-42), 3) := by decide +kernel
theorem d_MO_change_84 : decode (xcode m_MO_change) 84 = .ok (.aload_n 0, 1) := by decide +kernel
theorem d_MO_change_85 : decode (xcode m_MO_change) 85 = .ok (.aload_n 0, 1) := by decide +kernel
theorem d_MO_change_86 : decode (xcode m_MO_change) 86 = .ok (.iload_n 2, 1) := by decide +kernel
theorem d_MO_change_87 : decode (xcode m_MO_change) 87 = .ok (.iload 5, 2) := by decide +kernel
theorem d_MO_change_89 : decode (xcode m_MO_change) 89 = .ok (.invokevirtual 46, 3) := by decide +kernel
theorem d_MO_change_92 : decode (xcode m_MO_change) 92 = .ok (.invokevirtual 53, 3) := by decide +kernel
theorem d_MO_change_95 : decode (xcode m_MO_change) 95 = .ok (.iinc 5 1, 3) := by decide +kernel
theorem d_MO_change_98 : decode (xcode m_MO_change) 98 = .ok (.goto (-59), 3) := by decide +kernel
theorem d_MO_change_101 : decode (xcode m_MO_change) 101 = .ok (.aload_n 0, 1) := by decide +kernel
theorem d_MO_change_102 : decode (xcode m_MO_change) 102 = .ok (.iload 4, 2) := by decide +kernel
theorem d_MO_change_104 : decode (xcode m_MO_change) 104 = .ok (.invokevirtual 64, 3) := by decide +kernel
theorem d_MO_change_107 : decode (xcode m_MO_change) 107 = .ok (.ireturn, 1) := by decide +kernel
theorem d_MO_often_0 : decode (xcode m_MO_often) 0 = .ok (.iload_n 1, 1) := by decide +kernel
theorem d_MO_often_1 : decode (xcode m_MO_often) 1 = .ok (.invokestatic 42, 3) := by decide +kernel
theorem d_MO_often_4 : decode (xcode m_MO_often) 4 = .ok (.ifCond .eq 10, 3) := by decide +kernel
theorem d_MO_often_7 : decode (xcode m_MO_often) 7 = .ok (.iload_n 2, 1) := by decide +kernel
theorem d_MO_often_8 : decode (xcode m_MO_often) 8 = .ok (.invokestatic 42, 3) := by decide +kernel
theorem d_MO_often_11 : decode (xcode m_MO_often) 11 = .ok (.ifCond .ne 5, 3) := by decide +kernel
theorem d_MO_often_14 : decode (xcode m_MO_often) 14 = .ok (.iconst (-1), 1) := by decide +kernel
theorem d_MO_often_15 : decode (xcode m_MO_often) 15 = .ok (.ireturn, 1) := by decide +kernel
theorem d_MO_often_16 : decode (xcode m_MO_often) 16 = .ok (.iconst 0, 1) := by decide +kernel
theorem d_MO_often_17 : decode (xcode m_MO_often) 17 = .ok (.istore_n 3, 1) := by decide +kernel
theorem d_MO_often_18 : decode (xcode m_MO_often) 18 = .ok (.iconst 0, 1) := by decide +kernel
theorem d_MO_often_19 : decode (xcode m_MO_often) 19 = .ok (.istore 4, 2) := by decide +kernel
theorem d_MO_often_21 : decode (xcode m_MO_often) 21 = .ok (.iload 4, 2) := by decide +kernel
theorem d_MO_often_23 : decode (xcode m_MO_often) 23 = .ok (.aload_n 0, 1) := by decide +kernel
theorem d_MO_often_24 : decode (xcode m_MO_often) 24 = .ok (.getfield 16, 3) := by decide +kernel
theorem d_MO_often_27 : decode (xcode m_MO_often) 27 = .ok (.iload_n 2, 1) := by decide +kernel
theorem d_MO_often_28 : decode (xcode m_MO_often) 28 = .ok (.iaload, 1) := by decide +kernel
theorem d_MO_often_29 : decode (xcode m_MO_often) 29 = .ok (.if_icmp .ge 49, 3) := by decide +kernel
theorem d_MO_often_32 : decode (xcode m_MO_often) 32 = .ok (.aload_n 0, 1) := by decide +kernel
theorem d_MO_often_33 : decode (xcode m_MO_often) 33 = .ok (.iload_n 1, 1) := by decide +kernel
theorem d_MO_often_34 : decode (xcode m_MO_often) 34 = .ok (.iload_n 2, 1) := by decide +kernel
theorem d_MO_often_35 : decode (xcode m_MO_often) 35 = .ok (.iload 4, 2) := by decide +kernel
theorem d_MO_often_37 : decode (xcode m_MO_often) 37 = .ok (.invokevirtual 70, 3) := by decide +kernel
theorem d_MO_often_40 : decode (xcode m_MO_often) 40 = .ok (.istore 5, 2) := by decide +kernel
theorem d_MO_often_42 : decode (xcode m_MO_often) 42 = .ok (.iload_n 3, 1) := by decide +kernel
theorem d_MO_often_43 : decode (xcode m_MO_often) 43 = .ok (.iload 5, 2) := by decide +kernel
theorem d_MO_often_45 : decode (xcode m_MO_often) 45 = .ok (.ifCond .eq 7, 3) := by decide +kernel
theorem d_MO_often_48 : decode (xcode m_MO_often) 48 = .ok (.iconst 1, 1) := by decide +kernel
theorem d_MO_often_49 : decode (xcode m_MO_often) 49 = .ok (.goto 4, 3) := by decide +kernel
theorem d_MO_often_52 : decode (xcode m_MO_often) 52 = .ok (.iconst 0, 1) := by decide +kernel
theorem d_MO_often_53 : decode (xcode m_MO_often) 53 = .ok (.iadd, 1) := by decide +kernel
theorem d_MO_often_54 : decode (xcode m_MO_often) 54 = .ok (.istore_n 3, 1) := by decide +kernel
theorem d_MO_often_55 : decode (xcode m_MO_often) 55 = .ok (.iload 4, 2) := by decide +kernel
theorem d_MO_often_57 : decode (xcode m_MO_often) 57 = .ok (.iload 5, 2) := by decide +kernel
theorem d_MO_often_59 : decode (xcode m_MO_often) 59 = .ok (.ifCond .eq 12, 3) := by decide +kernel
theorem d_MO_often_62 : decode (xcode m_MO_often) 62 = .ok (.aload_n 0, 1) := by decide +kernel
theorem d_MO_often_63 : decode (xcode m_MO_often) 63 = .ok (.getfield 16, 3) := by decide +kernel
theorem d_MO_often_66 : decode (xcode m_MO_often) 66 = .ok (.iload_n 1, 1) := by decide +kernel
theorem d_MO_often_67 : decode (xcode m_MO_often) 67 = .ok (.iaload, 1) := by decide +kernel
theorem d_MO_often_68 : decode (xcode m_MO_often) 68 = .ok (.goto 4, 3) := by decide +kernel
theorem d_MO_often_71 : decode (xcode m_MO_often) 71 = .ok (.iconst 1, 1) := by decide +kernel
theorem d_MO_often_72 : decode (xcode m_MO_often) 72 = .ok (.iadd, 1) := by decide +kernel
theorem d_MO_often_73 : decode (xcode m_MO_often) 73 = .ok (.istore 4, 2) := by decide +kernel
theorem d_MO_often_75 : decode (xcode m_MO_often) 75 = .ok (.goto (-54), 3) := by decide +kernel
theorem d_MO_often_78 : decode (xcode m_MO_often) 78 = .ok (.iload_n 3, 1) := by decide +kernel
theorem d_MO_often_79 : decode (xcode m_MO_often) 79 = .ok (.ireturn, 1) := by decide +kernel
theorem d_MO_unlike_0 : decode (xcode m_MO_unlike) 0 = .ok (.iload_n 1, 1) := by decide +kernel
theorem d_MO_unlike_1 : decode (xcode m_MO_unlike) 1 = .ok (.invokestatic 42, 3) := by decide +kernel
theorem d_MO_unlike_4 : decode (xcode m_MO_unlike) 4 = .ok (.ifCond .eq 10, 3) := by decide +kernel
theorem d_MO_unlike_7 : decode (xcode m_MO_unlike) 7 = .ok (.iload_n 2, 1) := by decide +kernel
theorem d_MO_unlike_8 : decode (xcode m_MO_unlike) 8 = .ok (.invokestatic 42, 3) := by decide +kernel
theorem d_MO_unlike_11 : decode (xcode m_MO_unlike) 11 = .ok (.ifCond .ne 5, 3) := by decide +kernel
theorem d_MO_unlike_14 : decode (xcode m_MO_unlike) 14 = .ok (.iconst (-1), 1) := by decide +kernel
theorem d_MO_unlike_15 : decode (xcode m_MO_unlike) 15 = .ok (.ireturn, 1) := by decide +kernel
theorem d_MO_unlike_16 : decode (xcode m_MO_unlike) 16 = .ok (.iconst 0, 1) := by decide +kernel
theorem d_MO_unlike_17 : decode (xcode m_MO_unlike) 17 = .ok (.istore_n 3, 1) := by decide +kernel
theorem d_MO_unlike_18 : decode (xcode m_MO_unlike) 18 = .ok (.iload_n 3, 1) := by decide +kernel
theorem d_MO_unlike_19 : decode (xcode m_MO_unlike) 19 = .ok (.aload_n 0, 1) := by decide +kernel
theorem d_MO_unlike_20 : decode (xcode m_MO_unlike) 20 = .ok (.getfield 16, 3) := by decide +kernel
theorem d_MO_unlike_23 : decode (xcode m_MO_unlike) 23 = .ok (.iload_n 1, 1) := by decide +kernel
theorem d_MO_unlike_24 : decode (xcode m_MO_unlike) 24 = .ok (.iaload, 1) := by decide +kernel
theorem d_MO_unlike_25 : decode (xcode m_MO_unlike) 25 = .ok (.if_icmp .lt 13, 3) := by decide +kernel
theorem d_MO_unlike_28 : decode (xcode m_MO_unlike) 28 = .ok (.iload_n 3, 1) := by decide +kernel
theorem d_MO_unlike_29 : decode (xcode m_MO_unlike) 29 = .ok (.aload_n 0, 1) := by decide +kernel
theorem d_MO_unlike_30 : decode (xcode m_MO_unlike) 30 = .ok (.getfield 16, 3) := by decide +kernel
theorem d_MO_unlike_33 : decode (xcode m_MO_unlike) 33 = .ok (.iload_n 2, 1) := by decide +kernel
theorem d_MO_unlike_34 : decode (xcode m_MO_unlike) 34 = .ok (.iaload, 1) := by decide +kernel
theorem d_MO_unlike_35 : decode (xcode m_MO_unlike) 35 = .ok (.if_icmp .ge 70, 3) := by decide +kernel
theorem d_MO_unlike_38 : decode (xcode m_MO_unlike) 38 = .ok (.iload_n 3, 1) := by decide +kernel
theorem d_MO_unlike_39 : decode (xcode m_MO_unlike) 39 = .ok (.aload_n 0, 1) := by decide +kernel
theorem d_MO_unlike_40 : decode (xcode m_MO_unlike) 40 = .ok (.getfield 16, 3) := by decide +kernel
theorem d_MO_unlike_43 : decode (xcode m_MO_unlike) 43 = .ok (.iload_n 1, 1) := by decide +kernel
theorem d_MO_unlike_44 : decode (xcode m_MO_unlike) 44 = .ok (.iaload, 1) := by decide +kernel
theorem d_MO_unlike_45 : decode (xcode m_MO_unlike) 45 = .ok (.if_icmp .ge 12, 3) := by decide +kernel
theorem d_MO_unlike_48 : decode (xcode m_MO_unlike) 48 = .ok (.aload_n 0, 1) := by decide +kernel
theorem d_MO_unlike_49 : decode (xcode m_MO_unlike) 49 = .ok (.iload_n 1, 1) := by decide +kernel
theorem d_MO_unlike_50 : decode (xcode m_MO_unlike) 50 = .ok (.iload_n 3, 1) := by decide +kernel
theorem d_MO_unlike_51 : decode (xcode m_MO_unlike) 51 = .ok (.invokevirtual 46, 3) := by decide +kernel
theorem d_MO_unlike_54 : decode (xcode m_MO_unlike) 54 = .ok (.goto 7, 3) := by decide +kernel
theorem d_MO_unlike_57 : decode (xcode m_MO_unlike) 57 = .ok (.aload_n 0, 1) := by decide +kernel
theorem d_MO_unlike_58 : decode (xcode m_MO_unlike) 58 = .ok (.getfield 25, 3) := by decide +kernel
theorem d_MO_unlike_61 : decode (xcode m_MO_unlike) 61 = .ok (.istore 4, 2) := by decide +kernel
theorem d_MO_unlike_63 : decode (xcode m_MO_unlike) 63 = .ok (.iload_n 3, 1) := by decide +kernel
theorem d_MO_unlike_64 : decode (xcode m_MO_unlike) 64 = .ok (.aload_n 0, 1) := by decide +kernel
theorem d_MO_unlike_65 : decode (xcode m_MO_unlike) 65 = .ok (.getfield 16, 3) := by decide +kernel
theorem d_MO_unlike_68 : decode (xcode m_MO_unlike) 68 = .ok (.iload_n 2, 1) := by decide +kernel
theorem d_MO_unlike_69 : decode (xcode m_MO_unlike) 69 = .ok (.iaload, 1) := by decide +kernel
theorem d_MO_unlike_70 : decode (xcode m_MO_unlike) 70 = .ok (.if_icmp .ge 12, 3) := by decide +kernel
theorem d_MO_unlike_73 : decode (xcode m_MO_unlike) 73 = .ok (.aload_n 0, 1) := by decide +kernel
theorem d_MO_unlike_74 : decode (xcode m_MO_unlike) 74 = .ok (.iload_n 2, 1) := by decide +kernel
theorem d_MO_unlike_75 : decode (xcode m_MO_unlike) 75 = .ok (.iload_n 3, 1) := by decide +kernel
theorem d_MO_unlike_76 : decode (xcode m_MO_unlike) 76 = .ok (.invokevirtual 46, 3) := by decide +kernel
theorem d_MO_unlike_79 : decode (xcode m_MO_unlike) 79 = .ok (.goto 7, 3) := by decide +kernel
theorem d_MO_unlike_82 : decode (xcode m_MO_unlike) 82 = .ok (.aload_n 0, 1) := by decide +kernel
theorem d_MO_unlike_83 : decode (xcode m_MO_unlike) 83 = .ok (.getfield 25, 3) := by decide +kernel
theorem d_MO_unlike_86 : decode (xcode m_MO_unlike) 86 = .ok (.istore 5, 2) := by decide +kernel
theorem d_MO_unlike_88 : decode (xcode m_MO_unlike) 88 = .ok (.iload 4, 2) := by decide +kernel
theorem d_MO_unlike_90 : decode (xcode m_MO_unlike) 90 = .ok (.iload 5, 2) := by decide +kernel
theorem d_MO_unlike_92 : decode (xcode m_MO_unlike) 92 = .ok (.if_icmp .eq 7, 3) := by decide +kernel
theorem d_MO_unlike_95 : decode (xcode m_MO_unlike) 95 = .ok (.iload_n 3, 1) := by decide +kernel
theorem d_MO_unlike_96 : decode (xcode m_MO_unlike) 96 = .ok (.iconst 1, 1) := by decide +kernel
theorem d_MO_unlike_97 : decode (xcode m_MO_unlike) 97 = .ok (.iadd, 1) := by decide +kernel
theorem d_MO_unlike_98 : decode (xcode m_MO_unlike) 98 = .ok (.ireturn, 1) := by decide +kernel
theorem d_MO_unlike_99 : decode (xcode m_MO_unlike) 99 = .ok (.iinc 3 1, 3) := by decide +kernel
theorem d_MO_unlike_102 : decode (xcode m_MO_unlike) 102 = .ok (.goto (-84), 3) := by decide +kernel
theorem d_MO_unlike_105 : decode (xcode m_MO_unlike) 105 = .ok (.iconst 0, 1) := by decide +kernel
theorem d_MO_unlike_106 : decode (xcode m_MO_unlike) 106 = .ok (.ireturn, 1) := by decide +kernel
theorem d_MO_strip_0 : decode (xcode m_MO_strip) 0 = .ok (.iload_n 1, 1) := by decide +kernel
theorem d_MO_strip_1 : decode (xcode m_MO_strip) 1 = .ok (.invokestatic 42, 3) := by decide +kernel
theorem d_MO_strip_4 : decode (xcode m_MO_strip) 4 = .ok (.ifCond .eq 19, 3) := by decide +kernel
theorem d_MO_strip_7 : decode (xcode m_MO_strip) 7 = .ok (.iload_n 3, 1) := by decide +kernel
theorem d_MO_strip_8 : decode (xcode m_MO_strip) 8 = .ok (.invokestatic 42, 3) := by decide +kernel
theorem d_MO_strip_11 : decode (xcode m_MO_strip) 11 = .ok (.ifCond .eq 12, 3) := by decide +kernel
theorem d_MO_strip_14 : decode (xcode m_MO_strip) 14 = .ok (.iload_n 2, 1) := by decide +kernel
theorem d_MO_strip_15 : decode (xcode m_MO_strip) 15 = .ok (.ifCond .lt 8, 3) := by decide +kernel
theorem d_MO_strip_18 : decode (xcode m_MO_strip) 18 = .ok (.iload_n 2, 1) := by decide +kernel
theorem d_MO_strip_19 : decode (xcode m_MO_strip) 19 = .ok (.iconst 2, 1) := by decide +kernel
theorem d_MO_strip_20 : decode (xcode m_MO_strip) 20 = .ok (.if_icmp .le 5, 3) := by decide +kernel
theorem d_MO_strip_23 : decode (xcode m_MO_strip) 23 = .ok (.iconst (-1), 1) := by decide +kernel
theorem d_MO_strip_24 : decode (xcode m_MO_strip) 24 = .ok (.ireturn, 1) := by decide +kernel
theorem d_MO_strip_25 : decode (xcode m_MO_strip) 25 = .ok (.iconst 0, 1) := by decide +kernel
theorem d_MO_strip_26 : decode (xcode m_MO_strip) 26 = .ok (.istore 4, 2) := by decide +kernel
theorem d_MO_strip_28 : decode (xcode m_MO_strip) 28 = .ok (.aload_n 0, 1) := by decide +kernel
theorem d_MO_strip_29 : decode (xcode m_MO_strip) 29 = .ok (.getfield 16, 3) := by decide +kernel
theorem d_MO_strip_32 : decode (xcode m_MO_strip) 32 = .ok (.iload_n 1, 1) := by decide +kernel
theorem d_MO_strip_33 : decode (xcode m_MO_strip) 33 = .ok (.iaload, 1) := by decide +kernel
theorem d_MO_strip_34 : decode (xcode m_MO_strip) 34 = .ok (.istore 5, 2) := by decide +kernel
theorem d_MO_strip_36 : decode (xcode m_MO_strip) 36 = .ok (.iload_n 2, 1) := by decide +kernel
theorem d_MO_strip_37 : decode (xcode m_MO_strip) 37 = .ok (.iconst 2, 1) := by decide +kernel
theorem d_MO_strip_38 : decode (xcode m_MO_strip) 38 = .ok (.if_icmp .eq 30, 3) := by decide +kernel
theorem d_MO_strip_41 : decode (xcode m_MO_strip) 41 = .ok (.iload 4, 2) := by decide +kernel
theorem d_MO_strip_43 : decode (xcode m_MO_strip) 43 = .ok (.iload 5, 2) := by decide +kernel
theorem d_MO_strip_45 : decode (xcode m_MO_strip) 45 = .ok (.if_icmp .ge 23, 3) := by decide +kernel
theorem d_MO_strip_48 : decode (xcode m_MO_strip) 48 = .ok (.aload_n 0, 1) := by decide +kernel
theorem d_MO_strip_49 : decode (xcode m_MO_strip) 49 = .ok (.iload_n 1, 1) := by decide +kernel
theorem d_MO_strip_50 : decode (xcode m_MO_strip) 50 = .ok (.iload 4, 2) := by decide +kernel
theorem d_MO_strip_52 : decode (xcode m_MO_strip) 52 = .ok (.invokevirtual 46, 3) := by decide +kernel
theorem d_MO_strip_55 : decode (xcode m_MO_strip) 55 = .ok (.aload_n 0, 1) := by decide +kernel
theorem d_MO_strip_56 : decode (xcode m_MO_strip) 56 = .ok (.getfield 25, 3) := by decide +kernel
theorem d_MO_strip_59 : decode (xcode m_MO_strip) 59 = .ok (.if_icmp .ne 9, 3) := by decide +kernel
theorem d_MO_strip_62 : decode (xcode m_MO_strip) 62 = .ok (.iinc 4 1, 3) := by decide +kernel
theorem d_MO_strip_65 : decode (xcode m_MO_strip) 65 = .ok (.goto (-29), 3) := by decide +kernel
theorem d_MO_strip_68 : decode (xcode m_MO_strip) 68 = .ok (.iload_n 2, 1) := by decide +kernel
theorem d_MO_strip_69 : decode (xcode m_MO_strip) 69 = .ok (.iconst 1, 1) := by decide +kernel
theorem d_MO_strip_70 : decode (xcode m_MO_strip) 70 = .ok (.if_icmp .eq 32, 3) := by decide +kernel
theorem d_MO_strip_73 : decode (xcode m_MO_strip) 73 = .ok (.iload 5, 2) := by decide +kernel
theorem d_MO_strip_75 : decode (xcode m_MO_strip) 75 = .ok (.iload 4, 2) := by decide +kernel
theorem d_MO_strip_77 : decode (xcode m_MO_strip) 77 = .ok (.if_icmp .le 25, 3) := by decide +kernel
theorem d_MO_strip_80 : decode (xcode m_MO_strip) 80 = .ok (.aload_n 0, 1) := by decide +kernel
theorem d_MO_strip_81 : decode (xcode m_MO_strip) 81 = .ok (.iload_n 1, 1) := by decide +kernel
theorem d_MO_strip_82 : decode (xcode m_MO_strip) 82 = .ok (.iload 5, 2) := by decide +kernel
theorem d_MO_strip_84 : decode (xcode m_MO_strip) 84 = .ok (.iconst 1, 1) := by decide +kernel
theorem d_MO_strip_85 : decode (xcode m_MO_strip) 85 = .ok (.isub, 1) := by decide +kernel
theorem d_MO_strip_86 : decode (xcode m_MO_strip) 86 = .ok (.invokevirtual 46, 3) := by decide +kernel
theorem d_MO_strip_89 : decode (xcode m_MO_strip) 89 = .ok (.aload_n 0, 1) := by decide +kernel
theorem d_MO_strip_90 : decode (xcode m_MO_strip) 90 = .ok (.getfield 25, 3) := by decide +kernel
theorem d_MO_strip_93 : decode (xcode m_MO_strip) 93 = .ok (.if_icmp .ne 9, 3) := by decide +kernel
theorem d_MO_strip_96 : decode (xcode m_MO_strip) 96 = .ok (.iinc 5 (-1), 3) := by decide +kernel
theorem d_MO_strip_99 : decode (xcode m_MO_strip) 99 = .ok (.goto (-31), 3) := by decide +kernel
theorem d_MO_strip_102 : decode (xcode m_MO_strip) 102 = .ok (.aload_n 0, 1) := by decide +kernel
theorem d_MO_strip_103 : decode (xcode m_MO_strip) 103 = .ok (.iconst 0, 1) := by decide +kernel
theorem d_MO_strip_104 : decode (xcode m_MO_strip) 104 = .ok (.putfield 50, 3) := by decide +kernel
theorem d_MO_strip_107 : decode (xcode m_MO_strip) 107 = .ok (.aload_n 0, 1) := by decide +kernel
theorem d_MO_strip_108 : decode (xcode m_MO_strip) 108 = .ok (.iload_n 1, 1) := by decide +kernel
theorem d_MO_strip_109 : decode (xcode m_MO_strip) 109 = .ok (.iload 4, 2) := by decide +kernel
theorem d_MO_strip_111 : decode (xcode m_MO_strip) 111 = .ok (.i2l, 1) := by decide +kernel
theorem d_MO_strip_112 : decode (xcode m_MO_strip) 112 = .ok (.iload 5, 2) := by decide +kernel
theorem d_MO_strip_114 : decode (xcode m_MO_strip) 114 = .ok (.i2l, 1) := by decide +kernel
theorem d_MO_strip_115 : decode (xcode m_MO_strip) 115 = .ok (.invokevirtual 60, 3) := by decide +kernel
theorem d_MO_strip_118 : decode (xcode m_MO_strip) 118 = .ok (.aload_n 0, 1) := by decide +kernel
theorem d_MO_strip_119 : decode (xcode m_MO_strip) 119 = .ok (.iload_n 3, 1) := by decide +kernel
theorem d_MO_strip_120 : decode (xcode m_MO_strip) 120 = .ok (.invokevirtual 64, 3) := by decide +kernel
theorem d_MO_strip_123 : decode (xcode m_MO_strip) 123 = .ok (.ireturn, 1) := by decide +kernel
