theorem d_MO_init_0 : decode (xcode m_MO_init) 0 = .ok (.aload_n 0, 1) := by decide +kernel
theorem d_MO_init_1 : decode (xcode m_MO_init) 1 = .ok (.invokespecial 1, 3) := by decide +kernel
theorem d_MO_init_4 : decode (xcode m_MO_init) 4 = .ok (.aload_n 0, 1) := by decide +kernel
theorem d_MO_init_5 : decode (xcode m_MO_init) 5 = .ok (.sipush 240, 3) := by decide +kernel
theorem d_MO_init_8 : decode (xcode m_MO_init) 8 = .ok (.newarray .int, 2) := by decide +kernel
theorem d_MO_init_10 : decode (xcode m_MO_init) 10 = .ok (.putfield 7, 3) := by decide +kernel
theorem d_MO_init_13 : decode (xcode m_MO_init) 13 = .ok (.aload_n 0, 1) := by decide +kernel
theorem d_MO_init_14 : decode (xcode m_MO_init) 14 = .ok (.sipush 2000, 3) := by decide +kernel
theorem d_MO_init_17 : decode (xcode m_MO_init) 17 = .ok (.newarray .int, 2) := by decide +kernel
theorem d_MO_init_19 : decode (xcode m_MO_init) 19 = .ok (.putfield 13, 3) := by decide +kernel
theorem d_MO_init_22 : decode (xcode m_MO_init) 22 = .ok (.aload_n 0, 1) := by decide +kernel
theorem d_MO_init_23 : decode (xcode m_MO_init) 23 = .ok (.bipush 10, 2) := by decide +kernel
theorem d_MO_init_25 : decode (xcode m_MO_init) 25 = .ok (.newarray .int, 2) := by decide +kernel
theorem d_MO_init_27 : decode (xcode m_MO_init) 27 = .ok (.putfield 16, 3) := by decide +kernel
theorem d_MO_init_30 : decode (xcode m_MO_init) 30 = .ok (.aload_n 0, 1) := by decide +kernel
theorem d_MO_init_31 : decode (xcode m_MO_init) 31 = .ok (.sipush 220, 3) := by decide +kernel
theorem d_MO_init_34 : decode (xcode m_MO_init) 34 = .ok (.newarray .int, 2) := by decide +kernel
theorem d_MO_init_36 : decode (xcode m_MO_init) 36 = .ok (.putfield 19, 3) := by decide +kernel
theorem d_MO_init_39 : decode (xcode m_MO_init) 39 = .ok (.aload_n 0, 1) := by decide +kernel
theorem d_MO_init_40 : decode (xcode m_MO_init) 40 = .ok (.sipush 256, 3) := by decide +kernel
theorem d_MO_init_43 : decode (xcode m_MO_init) 43 = .ok (.newarray .int, 2) := by decide +kernel
theorem d_MO_init_45 : decode (xcode m_MO_init) 45 = .ok (.putfield 22, 3) := by decide +kernel
theorem d_MO_init_48 : decode (xcode m_MO_init) 48 = .ok (.aload_n 0, 1) := by decide +kernel
theorem d_MO_init_49 : decode (xcode m_MO_init) 49 = .ok (.bipush 32, 2) := by decide +kernel
theorem d_MO_init_51 : decode (xcode m_MO_init) 51 = .ok (.putfield 25, 3) := by decide +kernel
theorem d_MO_init_54 : decode (xcode m_MO_init) 54 = .ok (.aload_n 0, 1) := by decide +kernel
theorem d_MO_init_55 : decode (xcode m_MO_init) 55 = .ok (.bipush 102, 2) := by decide +kernel
theorem d_MO_init_57 : decode (xcode m_MO_init) 57 = .ok (.newarray .int, 2) := by decide +kernel
theorem d_MO_init_59 : decode (xcode m_MO_init) 59 = .ok (.putfield 29, 3) := by decide +kernel
theorem d_MO_init_62 : decode (xcode m_MO_init) 62 = .ok (.aload_n 0, 1) := by decide +kernel
theorem d_MO_init_63 : decode (xcode m_MO_init) 63 = .ok (.bipush 102, 2) := by decide +kernel
theorem d_MO_init_65 : decode (xcode m_MO_init) 65 = .ok (.newarray .int, 2) := by decide +kernel
theorem d_MO_init_67 : decode (xcode m_MO_init) 67 = .ok (.putfield 32, 3) := by decide +kernel
theorem d_MO_init_70 : decode (xcode m_MO_init) 70 = .ok (.return_, 1) := by decide +kernel
theorem d_MO_feed_0 : decode (xcode m_MO_feed) 0 = .ok (.aload_n 0, 1) := by decide +kernel
theorem d_MO_feed_1 : decode (xcode m_MO_feed) 1 = .ok (.getfield 35, 3) := by decide +kernel
theorem d_MO_feed_4 : decode (xcode m_MO_feed) 4 = .ok (.bipush 20, 2) := by decide +kernel
theorem d_MO_feed_6 : decode (xcode m_MO_feed) 6 = .ok (.iadd, 1) := by decide +kernel
theorem d_MO_feed_7 : decode (xcode m_MO_feed) 7 = .ok (.sipush 240, 3) := by decide +kernel
theorem d_MO_feed_10 : decode (xcode m_MO_feed) 10 = .ok (.if_icmp .le 6, 3) := by decide +kernel
theorem d_MO_feed_13 : decode (xcode m_MO_feed) 13 = .ok (.bipush (-4), 2) := by decide +kernel
theorem d_MO_feed_15 : decode (xcode m_MO_feed) 15 = .ok (.ireturn, 1) := by decide +kernel
theorem d_MO_feed_16 : decode (xcode m_MO_feed) 16 = .ok (.aload_n 0, 1) := by decide +kernel
theorem d_MO_feed_17 : decode (xcode m_MO_feed) 17 = .ok (.iload_n 1, 1) := by decide +kernel
theorem d_MO_feed_18 : decode (xcode m_MO_feed) 18 = .ok (.invokevirtual 38, 3) := by decide +kernel
theorem d_MO_feed_21 : decode (xcode m_MO_feed) 21 = .ok (.aload_n 0, 1) := by decide +kernel
theorem d_MO_feed_22 : decode (xcode m_MO_feed) 22 = .ok (.iload_n 2, 1) := by decide +kernel
theorem d_MO_feed_23 : decode (xcode m_MO_feed) 23 = .ok (.invokevirtual 38, 3) := by decide +kernel
theorem d_MO_feed_26 : decode (xcode m_MO_feed) 26 = .ok (.aload_n 0, 1) := by decide +kernel
theorem d_MO_feed_27 : decode (xcode m_MO_feed) 27 = .ok (.iload_n 3, 1) := by decide +kernel
theorem d_MO_feed_28 : decode (xcode m_MO_feed) 28 = .ok (.invokevirtual 38, 3) := by decide +kernel
theorem d_MO_feed_31 : decode (xcode m_MO_feed) 31 = .ok (.aload_n 0, 1) := by decide +kernel
theorem d_MO_feed_32 : decode (xcode m_MO_feed) 32 = .ok (.iload 4, 2) := by decide +kernel
theorem d_MO_feed_34 : decode (xcode m_MO_feed) 34 = .ok (.invokevirtual 38, 3) := by decide +kernel
theorem d_MO_feed_37 : decode (xcode m_MO_feed) 37 = .ok (.aload_n 0, 1) := by decide +kernel
theorem d_MO_feed_38 : decode (xcode m_MO_feed) 38 = .ok (.iload 5, 2) := by decide +kernel
theorem d_MO_feed_40 : decode (xcode m_MO_feed) 40 = .ok (.invokevirtual 38, 3) := by decide +kernel
theorem d_MO_feed_43 : decode (xcode m_MO_feed) 43 = .ok (.aload_n 0, 1) := by decide +kernel
theorem d_MO_feed_44 : decode (xcode m_MO_feed) 44 = .ok (.getfield 35, 3) := by decide +kernel
theorem d_MO_feed_47 : decode (xcode m_MO_feed) 47 = .ok (.ireturn, 1) := by decide +kernel
theorem d_MO_four_0 : decode (xcode m_MO_four) 0 = .ok (.bipush 24, 2) := by decide +kernel
theorem d_MO_four_2 : decode (xcode m_MO_four) 2 = .ok (.istore_n 2, 1) := by decide +kernel
theorem d_MO_four_3 : decode (xcode m_MO_four) 3 = .ok (.iload_n 2, 1) := by decide +kernel
theorem d_MO_four_4 : decode (xcode m_MO_four) 4 = .ok (.ifCond .lt 35, 3) := by decide +kernel
theorem d_MO_four_7 : decode (xcode m_MO_four) 7 = .ok (.aload_n 0, 1) := by decide +kernel
theorem d_MO_four_8 : decode (xcode m_MO_four) 8 = .ok (.getfield 7, 3) := by decide +kernel
theorem d_MO_four_11 : decode (xcode m_MO_four) 11 = .ok (.aload_n 0, 1) := by decide +kernel
theorem d_MO_four_12 : decode (xcode m_MO_four) 12 = .ok (.getfield 35, 3) := by decide +kernel
theorem d_MO_four_15 : decode (xcode m_MO_four) 15 = .ok (.iload_n 1, 1) := by decide +kernel
theorem d_MO_four_16 : decode (xcode m_MO_four) 16 = .ok (.iload_n 2, 1) := by decide +kernel
theorem d_MO_four_17 : decode (xcode m_MO_four) 17 = .ok (.ishr, 1) := by decide +kernel
theorem d_MO_four_18 : decode (xcode m_MO_four) 18 = .ok (.sipush 255, 3) := by decide +kernel
theorem d_MO_four_21 : decode (xcode m_MO_four) 21 = .ok (.iand, 1) := by decide +kernel
theorem d_MO_four_22 : decode (xcode m_MO_four) 22 = .ok (.iastore, 1) := by decide +kernel
theorem d_MO_four_23 : decode (xcode m_MO_four) 23 = .ok (.aload_n 0, 1) := by decide +kernel
theorem d_MO_four_24 : decode (xcode m_MO_four) 24 = .ok (.dup, 1) := by decide +kernel
theorem d_MO_four_25 : decode (xcode m_MO_four) 25 = .ok (.getfield 35, 3) := by decide +kernel
theorem d_MO_four_28 : decode (xcode m_MO_four) 28 = .ok (.iconst 1, 1) := by decide +kernel
theorem d_MO_four_29 : decode (xcode m_MO_four) 29 = .ok (.iadd, 1) := by decide +kernel
theorem d_MO_four_30 : decode (xcode m_MO_four) 30 = .ok (.putfield 35, 3) := by decide +kernel
theorem d_MO_four_33 : decode (xcode m_MO_four) 33 = .ok (.iinc 2 (-8), 3) := by decide +kernel
theorem d_MO_four_36 : decode (xcode m_MO_four) 36 = .ok (.goto (-33), 3) := by decide +kernel
theorem d_MO_four_39 : decode (xcode m_MO_four) 39 = .ok (.return_, 1) := by decide +kernel
theorem d_MO_end_0 : decode (xcode m_MO_end) 0 = .ok (.iload_n 1, 1) := by decide +kernel
theorem d_MO_end_1 : decode (xcode m_MO_end) 1 = .ok (.ifCond .lt 11, 3) := by decide +kernel
theorem d_MO_end_4 : decode (xcode m_MO_end) 4 = .ok (.iload_n 1, 1) := by decide +kernel
theorem d_MO_end_5 : decode (xcode m_MO_end) 5 = .ok (.aload_n 0, 1) := by decide +kernel
theorem d_MO_end_6 : decode (xcode m_MO_end) 6 = .ok (.getfield 35, 3) := by decide +kernel
theorem d_MO_end_9 : decode (xcode m_MO_end) 9 = .ok (.if_icmp .le 5, 3) := by decide +kernel
theorem d_MO_end_12 : decode (xcode m_MO_end) 12 = .ok (.iconst (-1), 1) := by decide +kernel
theorem d_MO_end_13 : decode (xcode m_MO_end) 13 = .ok (.ireturn, 1) := by decide +kernel
theorem d_MO_end_14 : decode (xcode m_MO_end) 14 = .ok (.aload_n 0, 1) := by decide +kernel
theorem d_MO_end_15 : decode (xcode m_MO_end) 15 = .ok (.iload_n 1, 1) := by decide +kernel
theorem d_MO_end_16 : decode (xcode m_MO_end) 16 = .ok (.putfield 35, 3) := by decide +kernel
theorem d_MO_end_19 : decode (xcode m_MO_end) 19 = .ok (.iload_n 1, 1) := by decide +kernel
theorem d_MO_end_20 : decode (xcode m_MO_end) 20 = .ok (.ireturn, 1) := by decide +kernel
theorem d_MO_put_0 : decode (xcode m_MO_put) 0 = .ok (.iload_n 1, 1) := by decide +kernel
theorem d_MO_put_1 : decode (xcode m_MO_put) 1 = .ok (.invokestatic 42, 3) := by decide +kernel
theorem d_MO_put_4 : decode (xcode m_MO_put) 4 = .ok (.ifCond .ne 5, 3) := by decide +kernel
theorem d_MO_put_7 : decode (xcode m_MO_put) 7 = .ok (.iconst (-1), 1) := by decide +kernel
theorem d_MO_put_8 : decode (xcode m_MO_put) 8 = .ok (.ireturn, 1) := by decide +kernel
theorem d_MO_put_9 : decode (xcode m_MO_put) 9 = .ok (.aload_n 0, 1) := by decide +kernel
theorem d_MO_put_10 : decode (xcode m_MO_put) 10 = .ok (.getfield 35, 3) := by decide +kernel
theorem d_MO_put_13 : decode (xcode m_MO_put) 13 = .ok (.sipush 200, 3) := by decide +kernel
theorem d_MO_put_16 : decode (xcode m_MO_put) 16 = .ok (.if_icmp .le 6, 3) := by decide +kernel
theorem d_MO_put_19 : decode (xcode m_MO_put) 19 = .ok (.bipush (-4), 2) := by decide +kernel
theorem d_MO_put_21 : decode (xcode m_MO_put) 21 = .ok (.ireturn, 1) := by decide +kernel
theorem d_MO_put_22 : decode (xcode m_MO_put) 22 = .ok (.iconst 0, 1) := by decide +kernel
theorem d_MO_put_23 : decode (xcode m_MO_put) 23 = .ok (.istore_n 2, 1) := by decide +kernel
theorem d_MO_put_24 : decode (xcode m_MO_put) 24 = .ok (.iload_n 2, 1) := by decide +kernel
theorem d_MO_put_25 : decode (xcode m_MO_put) 25 = .ok (.aload_n 0, 1) := by decide +kernel
theorem d_MO_put_26 : decode (xcode m_MO_put) 26 = .ok (.getfield 35, 3) := by decide +kernel
theorem d_MO_put_29 : decode (xcode m_MO_put) 29 = .ok (.if_icmp .ge 27, 3) := by decide +kernel
theorem d_MO_put_32 : decode (xcode m_MO_put) 32 = .ok (.aload_n 0, 1) := by decide +kernel
theorem d_MO_put_33 : decode (xcode m_MO_put) 33 = .ok (.getfield 13, 3) := by decide +kernel
theorem d_MO_put_36 : decode (xcode m_MO_put) 36 = .ok (.sipush 200, 3) := by decide +kernel
theorem d_MO_put_39 : decode (xcode m_MO_put) 39 = .ok (.iload_n 1, 1) := by decide +kernel
theorem d_MO_put_40 : decode (xcode m_MO_put) 40 = .ok (.imul, 1) := by decide +kernel
theorem d_MO_put_41 : decode (xcode m_MO_put) 41 = .ok (.iload_n 2, 1) := by decide +kernel
theorem d_MO_put_42 : decode (xcode m_MO_put) 42 = .ok (.iadd, 1) := by decide +kernel
theorem d_MO_put_43 : decode (xcode m_MO_put) 43 = .ok (.aload_n 0, 1) := by decide +kernel
theorem d_MO_put_44 : decode (xcode m_MO_put) 44 = .ok (.getfield 7, 3) := by decide +kernel
theorem d_MO_put_47 : decode (xcode m_MO_put) 47 = .ok (.iload_n 2, 1) := by decide +kernel
theorem d_MO_put_48 : decode (xcode m_MO_put) 48 = .ok (.iaload, 1) := by decide +kernel
theorem d_MO_put_49 : decode (xcode m_MO_put) 49 = .ok (.iastore, 1) := by decide +kernel
theorem d_MO_put_50 : decode (xcode m_MO_put) 50 = .ok (.iinc 2 1, 3) := by decide +kernel
theorem d_MO_put_53 : decode (xcode m_MO_put) 53 = .ok (.goto (-29), 3) := by decide +kernel
theorem d_MO_put_56 : decode (xcode m_MO_put) 56 = .ok (.aload_n 0, 1) := by decide +kernel
theorem d_MO_put_57 : decode (xcode m_MO_put) 57 = .ok (.getfield 16, 3) := by decide +kernel
theorem d_MO_put_60 : decode (xcode m_MO_put) 60 = .ok (.iload_n 1, 1) := by decide +kernel
theorem d_MO_put_61 : decode (xcode m_MO_put) 61 = .ok (.aload_n 0, 1) := by decide +kernel
theorem d_MO_put_62 : decode (xcode m_MO_put) 62 = .ok (.getfield 35, 3) := by decide +kernel
theorem d_MO_put_65 : decode (xcode m_MO_put) 65 = .ok (.iastore, 1) := by decide +kernel
theorem d_MO_put_66 : decode (xcode m_MO_put) 66 = .ok (.aload_n 0, 1) := by decide +kernel
theorem d_MO_put_67 : decode (xcode m_MO_put) 67 = .ok (.iconst 0, 1) := by decide +kernel
theorem d_MO_put_68 : decode (xcode m_MO_put) 68 = .ok (.putfield 35, 3) := by decide +kernel
theorem d_MO_put_71 : decode (xcode m_MO_put) 71 = .ok (.aload_n 0, 1) := by decide +kernel
theorem d_MO_put_72 : decode (xcode m_MO_put) 72 = .ok (.getfield 16, 3) := by decide +kernel
theorem d_MO_put_75 : decode (xcode m_MO_put) 75 = .ok (.iload_n 1, 1) := by decide +kernel
theorem d_MO_put_76 : decode (xcode m_MO_put) 76 = .ok (.iaload, 1) := by decide +kernel
theorem d_MO_put_77 : decode (xcode m_MO_put) 77 = .ok (.ireturn, 1) := by decide +kernel
theorem d_MO_is_0 : decode (xcode m_MO_is) 0 = .ok (.iload_n 0, 1) := by decide +kernel
theorem d_MO_is_1 : decode (xcode m_MO_is) 1 = .ok (.ifCond .lt 13, 3) := by decide +kernel
theorem d_MO_is_4 : decode (xcode m_MO_is) 4 = .ok (.iload_n 0, 1) := by decide +kernel
theorem d_MO_is_5 : decode (xcode m_MO_is) 5 = .ok (.bipush 10, 2) := by decide +kernel
theorem d_MO_is_7 : decode (xcode m_MO_is) 7 = .ok (.if_icmp .ge 7, 3) := by decide +kernel
theorem d_MO_is_10 : decode (xcode m_MO_is) 10 = .ok (.iconst 1, 1) := by decide +kernel
theorem d_MO_is_11 : decode (xcode m_MO_is) 11 = .ok (.goto 4, 3) := by decide +kernel
theorem d_MO_is_14 : decode (xcode m_MO_is) 14 = .ok (.iconst 0, 1) := by decide +kernel
theorem d_MO_is_15 : decode (xcode m_MO_is) 15 = .ok (.ireturn, 1) := by decide +kernel
theorem d_MO_at_0 : decode (xcode m_MO_at) 0 = .ok (.iload_n 1, 1) := by decide +kernel
theorem d_MO_at_1 : decode (xcode m_MO_at) 1 = .ok (.invokestatic 42, 3) := by decide +kernel
theorem d_MO_at_4 : decode (xcode m_MO_at) 4 = .ok (.ifCond .eq 26, 3) := by decide +kernel
theorem d_MO_at_7 : decode (xcode m_MO_at) 7 = .ok (.iload_n 2, 1) := by decide +kernel
theorem d_MO_at_8 : decode (xcode m_MO_at) 8 = .ok (.ifCond .lt 22, 3) := by decide +kernel
theorem d_MO_at_11 : decode (xcode m_MO_at) 11 = .ok (.iload_n 2, 1) := by decide +kernel
theorem d_MO_at_12 : decode (xcode m_MO_at) 12 = .ok (.aload_n 0, 1) := by decide +kernel
theorem d_MO_at_13 : decode (xcode m_MO_at) 13 = .ok (.getfield 16, 3) := by decide +kernel
theorem d_MO_at_16 : decode (xcode m_MO_at) 16 = .ok (.iload_n 1, 1) := by decide +kernel
theorem d_MO_at_17 : decode (xcode m_MO_at) 17 = .ok (.iaload, 1) := by decide +kernel
theorem d_MO_at_18 : decode (xcode m_MO_at) 18 = .ok (.if_icmp .ge 12, 3) := by decide +kernel
theorem d_MO_at_21 : decode (xcode m_MO_at) 21 = .ok (.aload_n 0, 1) := by decide +kernel
theorem d_MO_at_22 : decode (xcode m_MO_at) 22 = .ok (.iload_n 1, 1) := by decide +kernel
theorem d_MO_at_23 : decode (xcode m_MO_at) 23 = .ok (.iload_n 2, 1) := by decide +kernel
theorem d_MO_at_24 : decode (xcode m_MO_at) 24 = .ok (.invokevirtual 46, 3) := by decide +kernel
theorem d_MO_at_27 : decode (xcode m_MO_at) 27 = .ok (.goto 4, 3) := by decide +kernel
theorem d_MO_at_30 : decode (xcode m_MO_at) 30 = .ok (.iconst (-1), 1) := by decide +kernel
theorem d_MO_at_31 : decode (xcode m_MO_at) 31 = .ok (.ireturn, 1) := by decide +kernel
theorem d_MO_of_0 : decode (xcode m_MO_of) 0 = .ok (.aload_n 0, 1) := by decide +kernel
theorem d_MO_of_1 : decode (xcode m_MO_of) 1 = .ok (.getfield 13, 3) := by decide +kernel
theorem d_MO_of_4 : decode (xcode m_MO_of) 4 = .ok (.sipush 200, 3) := by decide +kernel
theorem d_MO_of_7 : decode (xcode m_MO_of) 7 = .ok (.iload_n 1, 1) := by decide +kernel
theorem d_MO_of_8 : decode (xcode m_MO_of) 8 = .ok (.imul, 1) := by decide +kernel
theorem d_MO_of_9 : decode (xcode m_MO_of) 9 = .ok (.iload_n 2, 1) := by decide +kernel
theorem d_MO_of_10 : decode (xcode m_MO_of) 10 = .ok (.iadd, 1) := by decide +kernel
theorem d_MO_of_11 : decode (xcode m_MO_of) 11 = .ok (.iaload, 1) := by decide +kernel
theorem d_MO_of_12 : decode (xcode m_MO_of) 12 = .ok (.ireturn, 1) := by decide +kernel
theorem d_MO_size_0 : decode (xcode m_MO_size) 0 = .ok (.iload_n 1, 1) := by decide +kernel
theorem d_MO_size_1 : decode (xcode m_MO_size) 1 = .ok (.invokestatic 42, 3) := by decide +kernel
theorem d_MO_size_4 : decode (xcode m_MO_size) 4 = .ok (.ifCond .eq 12, 3) := by decide +kernel
theorem d_MO_size_7 : decode (xcode m_MO_size) 7 = .ok (.aload_n 0, 1) := by decide +kernel
theorem d_MO_size_8 : decode (xcode m_MO_size) 8 = .ok (.getfield 16, 3) := by decide +kernel
theorem d_MO_size_11 : decode (xcode m_MO_size) 11 = .ok (.iload_n 1, 1) := by decide +kernel
theorem d_MO_size_12 : decode (xcode m_MO_size) 12 = .ok (.iaload, 1) := by decide +kernel
theorem d_MO_size_13 : decode (xcode m_MO_size) 13 = .ok (.goto 4, 3) := by decide +kernel
theorem d_MO_size_16 : decode (xcode m_MO_size) 16 = .ok (.iconst (-1), 1) := by decide +kernel
theorem d_MO_size_17 : decode (xcode m_MO_size) 17 = .ok (.ireturn, 1) := by decide +kernel
theorem d_MO_pad_0 : decode (xcode m_MO_pad) 0 = .ok (.iload_n 1, 1) := by decide +kernel
theorem d_MO_pad_1 : decode (xcode m_MO_pad) 1 = .ok (.ifCond .lt 10, 3) := by decide +kernel
theorem d_MO_pad_4 : decode (xcode m_MO_pad) 4 = .ok (.iload_n 1, 1) := by decide +kernel
theorem d_MO_pad_5 : decode (xcode m_MO_pad) 5 = .ok (.sipush 255, 3) := by decide +kernel
theorem d_MO_pad_8 : decode (xcode m_MO_pad) 8 = .ok (.if_icmp .le 5, 3) := by decide +kernel
theorem d_MO_pad_11 : decode (xcode m_MO_pad) 11 = .ok (.iconst (-1), 1) := by decide +kernel
theorem d_MO_pad_12 : decode (xcode m_MO_pad) 12 = .ok (.ireturn, 1) := by decide +kernel
theorem d_MO_pad_13 : decode (xcode m_MO_pad) 13 = .ok (.aload_n 0, 1) := by decide +kernel
theorem d_MO_pad_14 : decode (xcode m_MO_pad) 14 = .ok (.getfield 25, 3) := by decide +kernel
theorem d_MO_pad_17 : decode (xcode m_MO_pad) 17 = .ok (.istore_n 2, 1) := by decide +kernel
theorem d_MO_pad_18 : decode (xcode m_MO_pad) 18 = .ok (.aload_n 0, 1) := by decide +kernel
theorem d_MO_pad_19 : decode (xcode m_MO_pad) 19 = .ok (.iload_n 1, 1) := by decide +kernel
theorem d_MO_pad_20 : decode (xcode m_MO_pad) 20 = .ok (.putfield 25, 3) := by decide +kernel
theorem d_MO_pad_23 : decode (xcode m_MO_pad) 23 = .ok (.iload_n 2, 1) := by decide +kernel
theorem d_MO_pad_24 : decode (xcode m_MO_pad) 24 = .ok (.ireturn, 1) := by decide +kernel
theorem d_MO_fill_0 : decode (xcode m_MO_fill) 0 = .ok (.iload_n 2, 1) := by decide +kernel
theorem d_MO_fill_1 : decode (xcode m_MO_fill) 1 = .ok (.invokestatic 42, 3) := by decide +kernel
theorem d_MO_fill_4 : decode (xcode m_MO_fill) 4 = .ok (.ifCond .eq 24, 3) := by decide +kernel
theorem d_MO_fill_7 : decode (xcode m_MO_fill) 7 = .ok (.iload 4, 2) := by decide +kernel
theorem d_MO_fill_9 : decode (xcode m_MO_fill) 9 = .ok (.invokestatic 42, 3) := by decide +kernel
theorem d_MO_fill_12 : decode (xcode m_MO_fill) 12 = .ok (.ifCond .eq 16, 3) := by decide +kernel
theorem d_MO_fill_15 : decode (xcode m_MO_fill) 15 = .ok (.iload_n 1, 1) := by decide +kernel
theorem d_MO_fill_16 : decode (xcode m_MO_fill) 16 = .ok (.ifCond .lt 12, 3) := by decide +kernel
theorem d_MO_fill_19 : decode (xcode m_MO_fill) 19 = .ok (.iload_n 1, 1) := by decide +kernel
theorem d_MO_fill_20 : decode (xcode m_MO_fill) 20 = .ok (.iconst 2, 1) := by decide +kernel
theorem d_MO_fill_21 : decode (xcode m_MO_fill) 21 = .ok (.if_icmp .gt 7, 3) := by decide +kernel
theorem d_MO_fill_24 : decode (xcode m_MO_fill) 24 = .ok (.iload_n 3, 1) := by decide +kernel
theorem d_MO_fill_25 : decode (xcode m_MO_fill) 25 = .ok (.ifCond .ge 5, 3) := by decide +kernel
theorem d_MO_fill_28 : decode (xcode m_MO_fill) 28 = .ok (.iconst (-1), 1) := by decide +kernel
theorem d_MO_fill_29 : decode (xcode m_MO_fill) 29 = .ok (.ireturn, 1) := by decide +kernel
theorem d_MO_fill_30 : decode (xcode m_MO_fill) 30 = .ok (.aload_n 0, 1) := by decide +kernel
theorem d_MO_fill_31 : decode (xcode m_MO_fill) 31 = .ok (.iconst 0, 1) := by decide +kernel
theorem d_MO_fill_32 : decode (xcode m_MO_fill) 32 = .ok (.putfield 50, 3) := by decide +kernel
theorem d_MO_fill_35 : decode (xcode m_MO_fill) 35 = .ok (.aload_n 0, 1) := by decide +kernel
theorem d_MO_fill_36 : decode (xcode m_MO_fill) 36 = .ok (.getfield 16, 3) := by decide +kernel
theorem d_MO_fill_39 : decode (xcode m_MO_fill) 39 = .ok (.iload_n 2, 1) := by decide +kernel
theorem d_MO_fill_40 : decode (xcode m_MO_fill) 40 = .ok (.iaload, 1) := by decide +kernel
theorem d_MO_fill_41 : decode (xcode m_MO_fill) 41 = .ok (.iload_n 3, 1) := by decide +kernel
theorem d_MO_fill_42 : decode (xcode m_MO_fill) 42 = .ok (.if_icmp .le 14, 3) := by decide +kernel
theorem d_MO_fill_45 : decode (xcode m_MO_fill) 45 = .ok (.aload_n 0, 1) := by decide +kernel
theorem d_MO_fill_46 : decode (xcode m_MO_fill) 46 = .ok (.getfield 16, 3) := by decide +kernel
theorem d_MO_fill_49 : decode (xcode m_MO_fill) 49 = .ok (.iload_n 2, 1) := by decide +kernel
theorem d_MO_fill_50 : decode (xcode m_MO_fill) 50 = .ok (.iaload, 1) := by decide +kernel
theorem d_MO_fill_51 : decode (xcode m_MO_fill) 51 = .ok (.iload_n 3, 1) := by decide +kernel
theorem d_MO_fill_52 : decode (xcode m_MO_fill) 52 = .ok (.isub, 1) := by decide +kernel
theorem d_MO_fill_53 : decode (xcode m_MO_fill) 53 = .ok (.goto 4, 3) := by decide +kernel
theorem d_MO_fill_56 : decode (xcode m_MO_fill) 56 = .ok (.iconst 0, 1) := by decide +kernel
theorem d_MO_fill_57 : decode (xcode m_MO_fill) 57 = .ok (.istore 5, 2) := by decide +kernel
theorem d_MO_fill_59 : decode (xcode m_MO_fill) 59 = .ok (.iload_n 3, 1) := by decide +kernel
theorem d_MO_fill_60 : decode (xcode m_MO_fill) 60 = .ok (.aload_n 0, 1) := by decide +kernel
theorem d_MO_fill_61 : decode (xcode m_MO_fill) 61 = .ok (.getfield 16, 3) := by decide +kernel
theorem d_MO_fill_64 : decode (xcode m_MO_fill) 64 = .ok (.iload_n 2, 1) := by decide +kernel
theorem d_MO_fill_65 : decode (xcode m_MO_fill) 65 = .ok (.iaload, 1) := by decide +kernel
theorem d_MO_fill_66 : decode (xcode m_MO_fill) 66 = .ok (.if_icmp .le 14, 3) := by decide +kernel
theorem d_MO_fill_69 : decode (xcode m_MO_fill) 69 = .ok (.iload_n 3, 1) := by decide +kernel
theorem d_MO_fill_70 : decode (xcode m_MO_fill) 70 = .ok (.aload_n 0, 1) := by decide +kernel
theorem d_MO_fill_71 : decode (xcode m_MO_fill) 71 = .ok (.getfield 16, 3) := by decide +kernel
theorem d_MO_fill_74 : decode (xcode m_MO_fill) 74 = .ok (.iload_n 2, 1) := by decide +kernel
theorem d_MO_fill_75 : decode (xcode m_MO_fill) 75 = .ok (.iaload, 1) := by decide +kernel
theorem d_MO_fill_76 : decode (xcode m_MO_fill) 76 = .ok (.isub, 1) := by decide +kernel
theorem d_MO_fill_77 : decode (xcode m_MO_fill) 77 = .ok (.goto 4, 3) := by decide +kernel
theorem d_MO_fill_80 : decode (xcode m_MO_fill) 80 = .ok (.iconst 0, 1) := by decide +kernel
theorem d_MO_fill_81 : decode (xcode m_MO_fill) 81 = .ok (.istore 6, 2) := by decide +kernel
theorem d_MO_fill_83 : decode (xcode m_MO_fill) 83 = .ok (.iload_n 1, 1) := by decide +kernel
theorem d_MO_fill_84 : decode (xcode m_MO_fill) 84 = .ok (.ifCond .ne 7, 3) := by decide +kernel
theorem d_MO_fill_87 : decode (xcode m_MO_fill) 87 = .ok (.iconst 0, 1) := by decide +kernel
theorem d_MO_fill_88 : decode (xcode m_MO_fill) 88 = .ok (.goto 17, 3) := by decide +kernel
theorem d_MO_fill_91 : decode (xcode m_MO_fill) 91 = .ok (.iload_n 1, 1) := by decide +kernel
theorem d_MO_fill_92 : decode (xcode m_MO_fill) 92 = .ok (.iconst 1, 1) := by decide +kernel
theorem d_MO_fill_93 : decode (xcode m_MO_fill) 93 = .ok (.if_icmp .ne 8, 3) := by decide +kernel
theorem d_MO_fill_96 : decode (xcode m_MO_fill) 96 = .ok (.iload 5, 2) := by decide +kernel
theorem d_MO_fill_98 : decode (xcode m_MO_fill) 98 = .ok (.goto 7, 3) := by decide +kernel
theorem d_MO_fill_101 : decode (xcode m_MO_fill) 101 = .ok (.iload 5, 2) := by decide +kernel
theorem d_MO_fill_103 : decode (xcode m_MO_fill) 103 = .ok (.iconst 2, 1) := by decide +kernel
theorem d_MO_fill_104 : decode (xcode m_MO_fill) 104 = .ok (.idiv, 1) := by decide +kernel
theorem d_MO_fill_105 : decode (xcode m_MO_fill) 105 = .ok (.istore 7, 2) := by decide +kernel
theorem d_MO_fill_107 : decode (xcode m_MO_fill) 107 = .ok (.iload_n 1, 1) := by decide +kernel
theorem d_MO_fill_108 : decode (xcode m_MO_fill) 108 = .ok (.ifCond .ne 7, 3) := by decide +kernel
theorem d_MO_fill_111 : decode (xcode m_MO_fill) 111 = .ok (.iconst 0, 1) := by decide +kernel
theorem d_MO_fill_112 : decode (xcode m_MO_fill) 112 = .ok (.goto 17, 3) := by decide +kernel
theorem d_MO_fill_115 : decode (xcode m_MO_fill) 115 = .ok (.iload_n 1, 1) := by decide +kernel
theorem d_MO_fill_116 : decode (xcode m_MO_fill) 116 = .ok (.iconst 1, 1) := by decide +kernel
theorem d_MO_fill_117 : decode (xcode m_MO_fill) 117 = .ok (.if_icmp .ne 8, 3) := by decide +kernel
theorem d_MO_fill_120 : decode (xcode m_MO_fill) 120 = .ok (.iload 6, 2) := by decide +kernel
theorem d_MO_fill_122 : decode (xcode m_MO_fill) 122 = .ok (.goto 7, 3) := by decide +kernel
theorem d_MO_fill_125 : decode (xcode m_MO_fill) 125 = .ok (.iload 6, 2) := by decide +kernel
theorem d_MO_fill_127 : decode (xcode m_MO_fill) 127 = .ok (.iconst 2, 1) := by decide +kernel
theorem d_MO_fill_128 : decode (xcode m_MO_fill) 128 = .ok (.idiv, 1) := by decide +kernel
theorem d_MO_fill_129 : decode (xcode m_MO_fill) 129 = .ok (.istore 8, 2) := by decide +kernel
theorem d_MO_fill_131 : decode (xcode m_MO_fill) 131 = .ok (.aload_n 0, 1) := by decide +kernel
theorem d_MO_fill_132 : decode (xcode m_MO_fill) 132 = .ok (.iload 8, 2) := by decide +kernel
theorem d_MO_fill_134 : decode (xcode m_MO_fill) 134 = .ok (.i2l, 1) := by decide +kernel
theorem d_MO_fill_135 : decode (xcode m_MO_fill) 135 = .ok (.invokevirtual 56, 3) := by decide +kernel
theorem d_MO_fill_138 : decode (xcode m_MO_fill) 138 = .ok (.aload_n 0, 1) := by decide +kernel
theorem d_MO_fill_139 : decode (xcode m_MO_fill) 139 = .ok (.iload_n 2, 1) := by decide +kernel
theorem d_MO_fill_140 : decode (xcode m_MO_fill) 140 = .ok (.iload 7, 2) := by decide +kernel
theorem d_MO_fill_142 : decode (xcode m_MO_fill) 142 = .ok (.i2l, 1) := by decide +kernel
theorem d_MO_fill_143 : decode (xcode m_MO_fill) 143 = .ok (.iload 7, 2) := by decide +kernel
theorem d_MO_fill_145 : decode (xcode m_MO_fill) 145 = .ok (.i2l, 1) := by decide +kernel
theorem d_MO_fill_146 : decode (xcode m_MO_fill) 146 = .ok (.iload_n 3, 1) := by decide +kernel
theorem d_MO_fill_147 : decode (xcode m_MO_fill) 147 = .ok (.i2l, 1) := by decide +kernel
theorem d_MO_fill_148 : decode (xcode m_MO_fill) 148 = .ok (.ladd, 1) := by decide +kernel
theorem d_MO_fill_149 : decode (xcode m_MO_fill) 149 = .ok (.invokevirtual 60, 3) := by decide +kernel
theorem d_MO_fill_152 : decode (xcode m_MO_fill) 152 = .ok (.aload_n 0, 1) := by decide +kernel
theorem d_MO_fill_153 : decode (xcode m_MO_fill) 153 = .ok (.iload 6, 2) := by decide +kernel
theorem d_MO_fill_155 : decode (xcode m_MO_fill) 155 = .ok (.iload 8, 2) := by decide +kernel
theorem d_MO_fill_157 : decode (xcode m_MO_fill) 157 = .ok (.isub, 1) := by decide +kernel
theorem d_MO_fill_158 : decode (xcode m_MO_fill) 158 = .ok (.i2l, 1) := by decide +kernel
theorem d_MO_fill_159 : decode (xcode m_MO_fill) 159 = .ok (.invokevirtual 56, 3) := by decide +kernel
theorem d_MO_fill_162 : decode (xcode m_MO_fill) 162 = .ok (.aload_n 0, 1) := by decide +kernel
theorem d_MO_fill_163 : decode (xcode m_MO_fill) 163 = .ok (.iload 4, 2) := by decide +kernel
theorem d_MO_fill_165 : decode (xcode m_MO_fill) 165 = .ok (.invokevirtual 64, 3) := by decide +kernel
theorem d_MO_fill_168 : decode (xcode m_MO_fill) 168 = .ok (.ireturn, 1) := by decide +kernel
theorem d_MO_pads_0 : decode (xcode m_MO_pads) 0 = .ok (.lconst 0, 1) := by decide +kernel
theorem d_MO_pads_1 : decode (xcode m_MO_pads) 1 = .ok (.lstore_n 3, 1) := by decide +kernel
theorem d_MO_pads_2 : decode (xcode m_MO_pads) 2 = .ok (.lload_n 3, 1) := by decide +kernel
theorem d_MO_pads_3 : decode (xcode m_MO_pads) 3 = .ok (.lload_n 1, 1) := by decide +kernel
theorem d_MO_pads_4 : decode (xcode m_MO_pads) 4 = .ok (.lcmp, 1) := by decide +kernel
theorem d_MO_pads_5 : decode (xcode m_MO_pads) 5 = .ok (.ifCond .ge 28, 3) := by decide +kernel
theorem d_MO_pads_8 : decode (xcode m_MO_pads) 8 = .ok (.aload_n 0, 1) := by decide +kernel
theorem d_MO_pads_9 : decode (xcode m_MO_pads) 9 = .ok (.getfield 50, 3) := by decide +kernel
theorem d_MO_pads_12 : decode (xcode m_MO_pads) 12 = .ok (.sipush 200, 3) := by decide +kernel
theorem d_MO_pads_15 : decode (xcode m_MO_pads) 15 = .ok (.if_icmp .gt 18, 3) := by decide +kernel
theorem d_MO_pads_18 : decode (xcode m_MO_pads) 18 = .ok (.aload_n 0, 1) := by decide +kernel
theorem d_MO_pads_19 : decode (xcode m_MO_pads) 19 = .ok (.aload_n 0, 1) := by decide +kernel
theorem d_MO_pads_20 : decode (xcode m_MO_pads) 20 = .ok (.getfield 25, 3) := by decide +kernel
theorem d_MO_pads_23 : decode (xcode m_MO_pads) 23 = .ok (.invokevirtual 53, 3) := by decide +kernel
theorem d_MO_pads_26 : decode (xcode m_MO_pads) 26 = .ok (.lload_n 3, 1) := by decide +kernel
theorem d_MO_pads_27 : decode (xcode m_MO_pads) 27 = .ok (.lconst 1, 1) := by decide +kernel
theorem d_MO_pads_28 : decode (xcode m_MO_pads) 28 = .ok (.ladd, 1) := by decide +kernel
theorem d_MO_pads_29 : decode (xcode m_MO_pads) 29 = .ok (.lstore_n 3, 1) := by decide +kernel
theorem d_MO_pads_30 : decode (xcode m_MO_pads) 30 = .ok (.goto (-28), 3) := by decide +kernel
theorem d_MO_pads_33 : decode (xcode m_MO_pads) 33 = .ok (.return_, 1) := by decide +kernel
theorem d_MO_add_0 : decode (xcode m_MO_add) 0 = .ok (.aload_n 0, 1) := by decide +kernel
theorem d_MO_add_1 : decode (xcode m_MO_add) 1 = .ok (.getfield 50, 3) := by decide +kernel
theorem d_MO_add_4 : decode (xcode m_MO_add) 4 = .ok (.sipush 200, 3) := by decide +kernel
theorem d_MO_add_7 : decode (xcode m_MO_add) 7 = .ok (.if_icmp .gt 23, 3) := by decide +kernel
theorem d_MO_add_10 : decode (xcode m_MO_add) 10 = .ok (.aload_n 0, 1) := by decide +kernel
theorem d_MO_add_11 : decode (xcode m_MO_add) 11 = .ok (.getfield 19, 3) := by decide +kernel
theorem d_MO_add_14 : decode (xcode m_MO_add) 14 = .ok (.aload_n 0, 1) := by decide +kernel
theorem d_MO_add_15 : decode (xcode m_MO_add) 15 = .ok (.getfield 50, 3) := by decide +kernel
theorem d_MO_add_18 : decode (xcode m_MO_add) 18 = .ok (.iload_n 1, 1) := by decide +kernel
theorem d_MO_add_19 : decode (xcode m_MO_add) 19 = .ok (.iastore, 1) := by decide +kernel
theorem d_MO_add_20 : decode (xcode m_MO_add) 20 = .ok (.aload_n 0, 1) := by decide +kernel
theorem d_MO_add_21 : decode (xcode m_MO_add) 21 = .ok (.dup, 1) := by decide +kernel
theorem d_MO_add_22 : decode (xcode m_MO_add) 22 = .ok (.getfield 50, 3) := by decide +kernel
theorem d_MO_add_25 : decode (xcode m_MO_add) 25 = .ok (.iconst 1, 1) := by decide +kernel
theorem d_MO_add_26 : decode (xcode m_MO_add) 26 = .ok (.iadd, 1) := by decide +kernel
theorem d_MO_add_27 : decode (xcode m_MO_add) 27 = .ok (.putfield 50, 3) := by decide +kernel
theorem d_MO_add_30 : decode (xcode m_MO_add) 30 = .ok (.return_, 1) := by decide +kernel
theorem d_MO_lay_0 : decode (xcode m_MO_lay) 0 = .ok (.lload_n 2, 1) := by decide +kernel
theorem d_MO_lay_1 : decode (xcode m_MO_lay) 1 = .ok (.lconst 0, 1) := by decide +kernel
theorem d_MO_lay_2 : decode (xcode m_MO_lay) 2 = .ok (.lcmp, 1) := by decide +kernel
theorem d_MO_lay_3 : decode (xcode m_MO_lay) 3 = .ok (.ifCond .ge 7, 3) := by decide +kernel
theorem d_MO_lay_6 : decode (xcode m_MO_lay) 6 = .ok (.lconst 0, 1) := by decide +kernel
theorem d_MO_lay_7 : decode (xcode m_MO_lay) 7 = .ok (.goto 4, 3) := by decide +kernel
theorem d_MO_lay_10 : decode (xcode m_MO_lay) 10 = .ok (.lload_n 2, 1) := by decide +kernel
theorem d_MO_lay_11 : decode (xcode m_MO_lay) 11 = .ok (.lstore 6, 2) := by decide +kernel
theorem d_MO_lay_13 : decode (xcode m_MO_lay) 13 = .ok (.lload 6, 2) := by decide +kernel
theorem d_MO_lay_15 : decode (xcode m_MO_lay) 15 = .ok (.lload 4, 2) := by decide +kernel
theorem d_MO_lay_17 : decode (xcode m_MO_lay) 17 = .ok (.lcmp, 1) := by decide +kernel
theorem d_MO_lay_18 : decode (xcode m_MO_lay) 18 = .ok (.ifCond .ge 37, 3) := by decide +kernel
theorem d_MO_lay_21 : decode (xcode m_MO_lay) 21 = .ok (.lload 6, 2) := by decide +kernel
theorem d_MO_lay_23 : decode (xcode m_MO_lay) 23 = .ok (.aload_n 0, 1) := by decide +kernel
theorem d_MO_lay_24 : decode (xcode m_MO_lay) 24 = .ok (.getfield 16, 3) := by decide +kernel
theorem d_MO_lay_27 : decode (xcode m_MO_lay) 27 = .ok (.iload_n 1, 1) := by decide +kernel
theorem d_MO_lay_28 : decode (xcode m_MO_lay) 28 = .ok (.iaload, 1) := by decide +kernel
theorem d_MO_lay_29 : decode (xcode m_MO_lay) 29 = .ok (.i2l, 1) := by decide +kernel
theorem d_MO_lay_30 : decode (xcode m_MO_lay) 30 = .ok (.lcmp, 1) := by decide +kernel
theorem d_MO_lay_31 : decode (xcode m_MO_lay) 31 = .ok (.ifCond .ge 24, 3) := by decide +kernel
theorem d_MO_lay_34 : decode (xcode m_MO_lay) 34 = .ok (.aload_n 0, 1) := by decide +kernel
theorem d_MO_lay_35 : decode (xcode m_MO_lay) 35 = .ok (.aload_n 0, 1) := by decide +kernel
theorem d_MO_lay_36 : decode (xcode m_MO_lay) 36 = .ok (.iload_n 1, 1) := by decide +kernel
theorem d_MO_lay_37 : decode (xcode m_MO_lay) 37 = .ok (.lload 6, 2) := by decide +kernel
theorem d_MO_lay_39 : decode (xcode m_MO_lay) 39 = .ok (.l2i, 1) := by decide +kernel
theorem d_MO_lay_40 : decode (xcode m_MO_lay) 40 = .ok (.invokevirtual 46, 3) := by decide +kernel
theorem d_MO_lay_43 : decode (xcode m_MO_lay) 43 = .ok (.invokevirtual 53, 3) := by decide +kernel
theorem d_MO_lay_46 : decode (xcode m_MO_lay) 46 = .ok (.lload 6, 2) := by decide +kernel
theorem d_MO_lay_48 : decode (xcode m_MO_lay) 48 = .ok (.lconst 1, 1) := by decide +kernel
theorem d_MO_lay_49 : decode (xcode m_MO_lay) 49 = .ok (.ladd, 1) := by decide +kernel
theorem d_MO_lay_50 : decode (xcode m_MO_lay) 50 = .ok (.lstore 6, 2) := by decide +kernel
theorem d_MO_lay_52 : decode (xcode m_MO_lay) 52 = .ok (.goto (-39), 3) := by decide +kernel
theorem d_MO_lay_55 : decode (xcode m_MO_lay) 55 = .ok (.return_, 1) := by decide +kernel
theorem d_MO_keep_0 : decode (xcode m_MO_keep) 0 = .ok (.aload_n 0, 1) := by decide +kernel
theorem d_MO_keep_1 : decode (xcode m_MO_keep) 1 = .ok (.getfield 50, 3) := by decide +kernel
theorem d_MO_keep_4 : decode (xcode m_MO_keep) 4 = .ok (.sipush 200, 3) := by decide +kernel
theorem d_MO_keep_7 : decode (xcode m_MO_keep) 7 = .ok (.if_icmp .le 6, 3) := by decide +kernel
theorem d_MO_keep_10 : decode (xcode m_MO_keep) 10 = .ok (.bipush (-4), 2) := by decide +kernel
theorem d_MO_keep_12 : decode (xcode m_MO_keep) 12 = .ok (.ireturn, 1) := by decide +kernel
theorem d_MO_keep_13 : decode (xcode m_MO_keep) 13 = .ok (.aload_n 0, 1) := by decide +kernel
theorem d_MO_keep_14 : decode (xcode m_MO_keep) 14 = .ok (.getfield 16, 3) := by decide +kernel
theorem d_MO_keep_17 : decode (xcode m_MO_keep) 17 = .ok (.iload_n 1, 1) := by decide +kernel
theorem d_MO_keep_18 : decode (xcode m_MO_keep) 18 = .ok (.aload_n 0, 1) := by decide +kernel
theorem d_MO_keep_19 : decode (xcode m_MO_keep) 19 = .ok (.getfield 50, 3) := by decide +kernel
theorem d_MO_keep_22 : decode (xcode m_MO_keep) 22 = .ok (.iastore, 1) := by decide +kernel
theorem d_MO_keep_23 : decode (xcode m_MO_keep) 23 = .ok (.iconst 0, 1) := by decide +kernel
theorem d_MO_keep_24 : decode (xcode m_MO_keep) 24 = .ok (.istore_n 2, 1) := by decide +kernel
theorem d_MO_keep_25 : decode (xcode m_MO_keep) 25 = .ok (.iload_n 2, 1) := by decide +kernel
theorem d_MO_keep_26 : decode (xcode m_MO_keep) 26 = .ok (.aload_n 0, 1) := by decide +kernel
theorem d_MO_keep_27 : decode (xcode m_MO_keep) 27 = .ok (.getfield 50, 3) := by decide +kernel
theorem d_MO_keep_30 : decode (xcode m_MO_keep) 30 = .ok (.if_icmp .ge 27, 3) := by decide +kernel
theorem d_MO_keep_33 : decode (xcode m_MO_keep) 33 = .ok (.aload_n 0, 1) := by decide +kernel
theorem d_MO_keep_34 : decode (xcode m_MO_keep) 34 = .ok (.getfield 13, 3) := by decide +kernel
theorem d_MO_keep_37 : decode (xcode m_MO_keep) 37 = .ok (.sipush 200, 3) := by decide +kernel
theorem d_MO_keep_40 : decode (xcode m_MO_keep) 40 = .ok (.iload_n 1, 1) := by decide +kernel
theorem d_MO_keep_41 : decode (xcode m_MO_keep) 41 = .ok (.imul, 1) := by decide +kernel
theorem d_MO_keep_42 : decode (xcode m_MO_keep) 42 = .ok (.iload_n 2, 1) := by decide +kernel
theorem d_MO_keep_43 : decode (xcode m_MO_keep) 43 = .ok (.iadd, 1) := by decide +kernel
theorem d_MO_keep_44 : decode (xcode m_MO_keep) 44 = .ok (.aload_n 0, 1) := by decide +kernel
theorem d_MO_keep_45 : decode (xcode m_MO_keep) 45 = .ok (.getfield 19, 3) := by decide +kernel
theorem d_MO_keep_48 : decode (xcode m_MO_keep) 48 = .ok (.iload_n 2, 1) := by decide +kernel
theorem d_MO_keep_49 : decode (xcode m_MO_keep) 49 = .ok (.iaload, 1) := by decide +kernel
theorem d_MO_keep_50 : decode (xcode m_MO_keep) 50 = .ok (.iastore, 1) := by decide +kernel
theorem d_MO_keep_51 : decode (xcode m_MO_keep) 51 = .ok (.iinc 2 1, 3) := by decide +kernel
theorem d_MO_keep_54 : decode (xcode m_MO_keep) 54 = .ok (.goto (-29), 3) := by decide +kernel
theorem d_MO_keep_57 : decode (xcode m_MO_keep) 57 = .ok (.aload_n 0, 1) := by decide +kernel
theorem d_MO_keep_58 : decode (xcode m_MO_keep) 58 = .ok (.getfield 50, 3) := by decide +kernel
theorem d_MO_keep_61 : decode (xcode m_MO_keep) 61 = .ok (.ireturn, 1) := by decide +kernel
theorem d_MO_part_0 : decode (xcode m_MO_part) 0 = .ok (.iload_n 1, 1) := by decide +kernel
theorem d_MO_part_1 : decode (xcode m_MO_part) 1 = .ok (.invokestatic 42, 3) := by decide +kernel
theorem d_MO_part_4 : decode (xcode m_MO_part) 4 = .ok (.ifCond .eq 21, 3) := by decide +kernel
theorem d_MO_part_7 : decode (xcode m_MO_part) 7 = .ok (.iload 4, 2) := by decide +kernel
theorem d_MO_part_9 : decode (xcode m_MO_part) 9 = .ok (.invokestatic 42, 3) := by decide +kernel
theorem d_MO_part_12 : decode (xcode m_MO_part) 12 = .ok (.ifCond .eq 13, 3) := by decide +kernel
theorem d_MO_part_15 : decode (xcode m_MO_part) 15 = .ok (.iload_n 2, 1) := by decide +kernel
theorem d_MO_part_16 : decode (xcode m_MO_part) 16 = .ok (.iconst 1, 1) := by decide +kernel
theorem d_MO_part_17 : decode (xcode m_MO_part) 17 = .ok (.if_icmp .lt 8, 3) := by decide +kernel
theorem d_MO_part_20 : decode (xcode m_MO_part) 20 = .ok (.iload_n 3, 1) := by decide +kernel
theorem d_MO_part_21 : decode (xcode m_MO_part) 21 = .ok (.iconst (-1), 1) := by decide +kernel
theorem d_MO_part_22 : decode (xcode m_MO_part) 22 = .ok (.if_icmp .ge 5, 3) := by decide +kernel
theorem d_MO_part_25 : decode (xcode m_MO_part) 25 = .ok (.iconst (-1), 1) := by decide +kernel
theorem d_MO_part_26 : decode (xcode m_MO_part) 26 = .ok (.ireturn, 1) := by decide +kernel
theorem d_MO_part_27 : decode (xcode m_MO_part) 27 = .ok (.aload_n 0, 1) := by decide +kernel
theorem d_MO_part_28 : decode (xcode m_MO_part) 28 = .ok (.iconst 0, 1) := by decide +kernel
theorem d_MO_part_29 : decode (xcode m_MO_part) 29 = .ok (.putfield 50, 3) := by decide +kernel
theorem d_MO_part_32 : decode (xcode m_MO_part) 32 = .ok (.iload_n 3, 1) := by decide +kernel
theorem d_MO_part_33 : decode (xcode m_MO_part) 33 = .ok (.iconst (-1), 1) := by decide +kernel
theorem d_MO_part_34 : decode (xcode m_MO_part) 34 = .ok (.if_icmp .ne 9, 3) := by decide +kernel
theorem d_MO_part_37 : decode (xcode m_MO_part) 37 = .ok (.ldc2_w 68, 3) := by decide +kernel
theorem d_MO_part_40 : decode (xcode m_MO_part) 40 = .ok (.goto 10, 3) := by decide +kernel
theorem d_MO_part_43 : decode (xcode m_MO_part) 43 = .ok (.iload_n 2, 1) := by decide +kernel
theorem d_MO_part_44 : decode (xcode m_MO_part) 44 = .ok (.i2l, 1) := by decide +kernel
theorem d_MO_part_45 : decode (xcode m_MO_part) 45 = .ok (.lconst 1, 1) := by decide +kernel
theorem d_MO_part_46 : decode (xcode m_MO_part) 46 = .ok (.lsub, 1) := by decide +kernel
theorem d_MO_part_47 : decode (xcode m_MO_part) 47 = .ok (.iload_n 3, 1) := by decide +kernel
theorem d_MO_part_48 : decode (xcode m_MO_part) 48 = .ok (.i2l, 1) := by decide +kernel
theorem d_MO_part_49 : decode (xcode m_MO_part) 49 = .ok (.ladd, 1) := by decide +kernel
theorem d_MO_part_50 : decode (xcode m_MO_part) 50 = .ok (.lstore 5, 2) := by decide +kernel
theorem d_MO_part_52 : decode (xcode m_MO_part) 52 = .ok (.aload_n 0, 1) := by decide +kernel
theorem d_MO_part_53 : decode (xcode m_MO_part) 53 = .ok (.iload_n 1, 1) := by decide +kernel
theorem d_MO_part_54 : decode (xcode m_MO_part) 54 = .ok (.iload_n 2, 1) := by decide +kernel
theorem d_MO_part_55 : decode (xcode m_MO_part) 55 = .ok (.i2l, 1) := by decide +kernel
theorem d_MO_part_56 : decode (xcode m_MO_part) 56 = .ok (.lconst 1, 1) := by decide +kernel
theorem d_MO_part_57 : decode (xcode m_MO_part) 57 = .ok (.lsub, 1) := by decide +kernel
theorem d_MO_part_58 : decode (xcode m_MO_part) 58 = .ok (.lload 5, 2) := by decide +kernel
theorem d_MO_part_60 : decode (xcode m_MO_part) 60 = .ok (.invokevirtual 60, 3) := by decide +kernel
theorem d_MO_part_63 : decode (xcode m_MO_part) 63 = .ok (.iload_n 3, 1) := by decide +kernel
theorem d_MO_part_64 : decode (xcode m_MO_part) 64 = .ok (.iconst (-1), 1) := by decide +kernel
theorem d_MO_part_65 : decode (xcode m_MO_part) 65 = .ok (.if_icmp .eq 15, 3) := by decide +kernel
theorem d_MO_part_68 : decode (xcode m_MO_part) 68 = .ok (.aload_n 0, 1) := by decide +kernel
theorem d_MO_part_69 : decode (xcode m_MO_part) 69 = .ok (.iload_n 3, 1) := by decide +kernel
theorem d_MO_part_70 : decode (xcode m_MO_part) 70 = .ok (.i2l, 1) := by decide +kernel
theorem d_MO_part_71 : decode (xcode m_MO_part) 71 = .ok (.aload_n 0, 1) := by decide +kernel
theorem d_MO_part_72 : decode (xcode m_MO_part) 72 = .ok (.getfield 50, 3) := by decide +kernel
theorem d_MO_part_75 : decode (xcode m_MO_part) 75 = .ok (.i2l, 1) := by decide +kernel
theorem d_MO_part_76 : decode (xcode m_MO_part) 76 = .ok (.lsub, 1) := by decide +kernel
theorem d_MO_part_77 : decode (xcode m_MO_part) 77 = .ok (.invokevirtual 56, 3) := by decide +kernel
theorem d_MO_part_80 : decode (xcode m_MO_part) 80 = .ok (.aload_n 0, 1) := by decide +kernel
theorem d_MO_part_81 : decode (xcode m_MO_part) 81 = .ok (.iload 4, 2) := by decide +kernel
theorem d_MO_part_83 : decode (xcode m_MO_part) 83 = .ok (.invokevirtual 64, 3) := by decide +kernel
theorem d_MO_part_86 : decode (xcode m_MO_part) 86 = .ok (.ireturn, 1) := by decide +kernel
theorem d_MO_cut_0 : decode (xcode m_MO_cut) 0 = .ok (.iload_n 1, 1) := by decide +kernel
theorem d_MO_cut_1 : decode (xcode m_MO_cut) 1 = .ok (.invokestatic 42, 3) := by decide +kernel
theorem d_MO_cut_4 : decode (xcode m_MO_cut) 4 = .ok (.ifCond .eq 21, 3) := by decide +kernel
theorem d_MO_cut_7 : decode (xcode m_MO_cut) 7 = .ok (.iload 4, 2) := by decide +kernel
theorem d_MO_cut_9 : decode (xcode m_MO_cut) 9 = .ok (.invokestatic 42, 3) := by decide +kernel
theorem d_MO_cut_12 : decode (xcode m_MO_cut) 12 = .ok (.ifCond .eq 13, 3) := by decide +kernel
theorem d_MO_cut_15 : decode (xcode m_MO_cut) 15 = .ok (.iload_n 2, 1) := by decide +kernel
theorem d_MO_cut_16 : decode (xcode m_MO_cut) 16 = .ok (.iconst 1, 1) := by decide +kernel
theorem d_MO_cut_17 : decode (xcode m_MO_cut) 17 = .ok (.if_icmp .lt 8, 3) := by decide +kernel
theorem d_MO_cut_20 : decode (xcode m_MO_cut) 20 = .ok (.iload_n 3, 1) := by decide +kernel
theorem d_MO_cut_21 : decode (xcode m_MO_cut) 21 = .ok (.iconst (-1), 1) := by decide +kernel
theorem d_MO_cut_22 : decode (xcode m_MO_cut) 22 = .ok (.if_icmp .ge 5, 3) := by decide +kernel
theorem d_MO_cut_25 : decode (xcode m_MO_cut) 25 = .ok (.iconst (-1), 1) := by decide +kernel
theorem d_MO_cut_26 : decode (xcode m_MO_cut) 26 = .ok (.ireturn, 1) := by decide +kernel
theorem d_MO_cut_27 : decode (xcode m_MO_cut) 27 = .ok (.aload_n 0, 1) := by decide +kernel
theorem d_MO_cut_28 : decode (xcode m_MO_cut) 28 = .ok (.iconst 0, 1) := by decide +kernel
theorem d_MO_cut_29 : decode (xcode m_MO_cut) 29 = .ok (.putfield 50, 3) := by decide +kernel
theorem d_MO_cut_32 : decode (xcode m_MO_cut) 32 = .ok (.aload_n 0, 1) := by decide +kernel
theorem d_MO_cut_33 : decode (xcode m_MO_cut) 33 = .ok (.iload_n 1, 1) := by decide +kernel
theorem d_MO_cut_34 : decode (xcode m_MO_cut) 34 = .ok (.lconst 0, 1) := by decide +kernel
theorem d_MO_cut_35 : decode (xcode m_MO_cut) 35 = .ok (.iload_n 2, 1) := by decide +kernel
theorem d_MO_cut_36 : decode (xcode m_MO_cut) 36 = .ok (.i2l, 1) := by decide +kernel
theorem d_MO_cut_37 : decode (xcode m_MO_cut) 37 = .ok (.lconst 1, 1) := by decide +kernel
theorem d_MO_cut_38 : decode (xcode m_MO_cut) 38 = .ok (.lsub, 1) := by decide +kernel
theorem d_MO_cut_39 : decode (xcode m_MO_cut) 39 = .ok (.invokevirtual 60, 3) := by decide +kernel
theorem d_MO_cut_42 : decode (xcode m_MO_cut) 42 = .ok (.iload_n 3, 1) := by decide +kernel
theorem d_MO_cut_43 : decode (xcode m_MO_cut) 43 = .ok (.iconst (-1), 1) := by decide +kernel
theorem d_MO_cut_44 : decode (xcode m_MO_cut) 44 = .ok (.if_icmp .eq 18, 3) := by decide +kernel
theorem d_MO_cut_47 : decode (xcode m_MO_cut) 47 = .ok (.aload_n 0, 1) := by decide +kernel
theorem d_MO_cut_48 : decode (xcode m_MO_cut) 48 = .ok (.iload_n 1, 1) := by decide +kernel
theorem d_MO_cut_49 : decode (xcode m_MO_cut) 49 = .ok (.iload_n 2, 1) := by decide +kernel
theorem d_MO_cut_50 : decode (xcode m_MO_cut) 50 = .ok (.i2l, 1) := by decide +kernel
theorem d_MO_cut_51 : decode (xcode m_MO_cut) 51 = .ok (.lconst 1, 1) := by decide +kernel
theorem d_MO_cut_52 : decode (xcode m_MO_cut) 52 = .ok (.lsub, 1) := by decide +kernel
theorem d_MO_cut_53 : decode (xcode m_MO_cut) 53 = .ok (.iload_n 3, 1) := by decide +kernel
theorem d_MO_cut_54 : decode (xcode m_MO_cut) 54 = .ok (.i2l, 1) := by decide +kernel
theorem d_MO_cut_55 : decode (xcode m_MO_cut) 55 = .ok (.ladd, 1) := by decide +kernel
theorem d_MO_cut_56 : decode (xcode m_MO_cut) 56 = .ok (.ldc2_w 68, 3) := by decide +kernel
theorem d_MO_cut_59 : decode (xcode m_MO_cut) 59 = .ok (.invokevirtual 60, 3) := by decide +kernel
theorem d_MO_cut_62 : decode (xcode m_MO_cut) 62 = .ok (.aload_n 0, 1) := by decide +kernel
theorem d_MO_cut_63 : decode (xcode m_MO_cut) 63 = .ok (.iload 4, 2) := by decide +kernel
theorem d_MO_cut_65 : decode (xcode m_MO_cut) 65 = .ok (.invokevirtual 64, 3) := by decide +kernel
theorem d_MO_cut_68 : decode (xcode m_MO_cut) 68 = .ok (.ireturn, 1) := by decide +kernel
