theorem d_RD_init_0 : decode (xcode m_RD_init) 0 = .ok (.aload_n 0, 1) := by decide +kernel
theorem d_RD_init_1 : decode (xcode m_RD_init) 1 = .ok (.invokespecial 1, 3) := by decide +kernel
theorem d_RD_init_4 : decode (xcode m_RD_init) 4 = .ok (.aload_n 0, 1) := by decide +kernel
theorem d_RD_init_5 : decode (xcode m_RD_init) 5 = .ok (.new 7, 3) := by decide +kernel
theorem d_RD_init_8 : decode (xcode m_RD_init) 8 = .ok (.dup, 1) := by decide +kernel
theorem d_RD_init_9 : decode (xcode m_RD_init) 9 = .ok (.sipush 240, 3) := by decide +kernel
theorem d_RD_init_12 : decode (xcode m_RD_init) 12 = .ok (.invokespecial 11, 3) := by decide +kernel
theorem d_RD_init_15 : decode (xcode m_RD_init) 15 = .ok (.putfield 14, 3) := by decide +kernel
theorem d_RD_init_18 : decode (xcode m_RD_init) 18 = .ok (.aload_n 0, 1) := by decide +kernel
theorem d_RD_init_19 : decode (xcode m_RD_init) 19 = .ok (.bipush 10, 2) := by decide +kernel
theorem d_RD_init_21 : decode (xcode m_RD_init) 21 = .ok (.anewarray 7, 3) := by decide +kernel
theorem d_RD_init_24 : decode (xcode m_RD_init) 24 = .ok (.putfield 18, 3) := by decide +kernel
theorem d_RD_init_27 : decode (xcode m_RD_init) 27 = .ok (.iconst 0, 1) := by decide +kernel
theorem d_RD_init_28 : decode (xcode m_RD_init) 28 = .ok (.istore_n 1, 1) := by decide +kernel
theorem d_RD_init_29 : decode (xcode m_RD_init) 29 = .ok (.iload_n 1, 1) := by decide +kernel
theorem d_RD_init_30 : decode (xcode m_RD_init) 30 = .ok (.bipush 10, 2) := by decide +kernel
theorem d_RD_init_32 : decode (xcode m_RD_init) 32 = .ok (.if_icmp .ge 25, 3) := by decide +kernel
theorem d_RD_init_35 : decode (xcode m_RD_init) 35 = .ok (.aload_n 0, 1) := by decide +kernel
theorem d_RD_init_36 : decode (xcode m_RD_init) 36 = .ok (.getfield 18, 3) := by decide +kernel
theorem d_RD_init_39 : decode (xcode m_RD_init) 39 = .ok (.iload_n 1, 1) := by decide +kernel
theorem d_RD_init_40 : decode (xcode m_RD_init) 40 = .ok (.new 7, 3) := by decide +kernel
theorem d_RD_init_43 : decode (xcode m_RD_init) 43 = .ok (.dup, 1) := by decide +kernel
theorem d_RD_init_44 : decode (xcode m_RD_init) 44 = .ok (.sipush 200, 3) := by decide +kernel
theorem d_RD_init_47 : decode (xcode m_RD_init) 47 = .ok (.invokespecial 11, 3) := by decide +kernel
theorem d_RD_init_50 : decode (xcode m_RD_init) 50 = .ok (.aastore, 1) := by decide +kernel
theorem d_RD_init_51 : decode (xcode m_RD_init) 51 = .ok (.iinc 1 1, 3) := by decide +kernel
theorem d_RD_init_54 : decode (xcode m_RD_init) 54 = .ok (.goto (-25), 3) := by decide +kernel
theorem d_RD_init_57 : decode (xcode m_RD_init) 57 = .ok (.aload_n 0, 1) := by decide +kernel
theorem d_RD_init_58 : decode (xcode m_RD_init) 58 = .ok (.new 7, 3) := by decide +kernel
theorem d_RD_init_61 : decode (xcode m_RD_init) 61 = .ok (.dup, 1) := by decide +kernel
theorem d_RD_init_62 : decode (xcode m_RD_init) 62 = .ok (.sipush 200, 3) := by decide +kernel
theorem d_RD_init_65 : decode (xcode m_RD_init) 65 = .ok (.invokespecial 11, 3) := by decide +kernel
theorem d_RD_init_68 : decode (xcode m_RD_init) 68 = .ok (.putfield 22, 3) := by decide +kernel
theorem d_RD_init_71 : decode (xcode m_RD_init) 71 = .ok (.aload_n 0, 1) := by decide +kernel
theorem d_RD_init_72 : decode (xcode m_RD_init) 72 = .ok (.new 25, 3) := by decide +kernel
theorem d_RD_init_75 : decode (xcode m_RD_init) 75 = .ok (.dup, 1) := by decide +kernel
theorem d_RD_init_76 : decode (xcode m_RD_init) 76 = .ok (.invokespecial 27, 3) := by decide +kernel
theorem d_RD_init_79 : decode (xcode m_RD_init) 79 = .ok (.putfield 28, 3) := by decide +kernel
theorem d_RD_init_82 : decode (xcode m_RD_init) 82 = .ok (.aload_n 0, 1) := by decide +kernel
theorem d_RD_init_83 : decode (xcode m_RD_init) 83 = .ok (.new 25, 3) := by decide +kernel
theorem d_RD_init_86 : decode (xcode m_RD_init) 86 = .ok (.dup, 1) := by decide +kernel
theorem d_RD_init_87 : decode (xcode m_RD_init) 87 = .ok (.invokespecial 27, 3) := by decide +kernel
theorem d_RD_init_90 : decode (xcode m_RD_init) 90 = .ok (.putfield 32, 3) := by decide +kernel
theorem d_RD_init_93 : decode (xcode m_RD_init) 93 = .ok (.aload_n 0, 1) := by decide +kernel
theorem d_RD_init_94 : decode (xcode m_RD_init) 94 = .ok (.new 35, 3) := by decide +kernel
theorem d_RD_init_97 : decode (xcode m_RD_init) 97 = .ok (.dup, 1) := by decide +kernel
theorem d_RD_init_98 : decode (xcode m_RD_init) 98 = .ok (.invokespecial 37, 3) := by decide +kernel
theorem d_RD_init_101 : decode (xcode m_RD_init) 101 = .ok (.putfield 38, 3) := by decide +kernel
theorem d_RD_init_104 : decode (xcode m_RD_init) 104 = .ok (.aload_n 0, 1) := by decide +kernel
theorem d_RD_init_105 : decode (xcode m_RD_init) 105 = .ok (.bipush 32, 2) := by decide +kernel
theorem d_RD_init_107 : decode (xcode m_RD_init) 107 = .ok (.putfield 42, 3) := by decide +kernel
theorem d_RD_init_110 : decode (xcode m_RD_init) 110 = .ok (.return_, 1) := by decide +kernel
theorem d_RD_feed_0 : decode (xcode m_RD_feed) 0 = .ok (.aload_n 0, 1) := by decide +kernel
theorem d_RD_feed_1 : decode (xcode m_RD_feed) 1 = .ok (.getfield 14, 3) := by decide +kernel
theorem d_RD_feed_4 : decode (xcode m_RD_feed) 4 = .ok (.invokevirtual 46, 3) := by decide +kernel
theorem d_RD_feed_7 : decode (xcode m_RD_feed) 7 = .ok (.bipush 20, 2) := by decide +kernel
theorem d_RD_feed_9 : decode (xcode m_RD_feed) 9 = .ok (.iadd, 1) := by decide +kernel
theorem d_RD_feed_10 : decode (xcode m_RD_feed) 10 = .ok (.sipush 240, 3) := by decide +kernel
theorem d_RD_feed_13 : decode (xcode m_RD_feed) 13 = .ok (.if_icmp .le 6, 3) := by decide +kernel
theorem d_RD_feed_16 : decode (xcode m_RD_feed) 16 = .ok (.bipush (-4), 2) := by decide +kernel
theorem d_RD_feed_18 : decode (xcode m_RD_feed) 18 = .ok (.ireturn, 1) := by decide +kernel
theorem d_RD_feed_19 : decode (xcode m_RD_feed) 19 = .ok (.aload_n 0, 1) := by decide +kernel
theorem d_RD_feed_20 : decode (xcode m_RD_feed) 20 = .ok (.getfield 14, 3) := by decide +kernel
theorem d_RD_feed_23 : decode (xcode m_RD_feed) 23 = .ok (.iload_n 1, 1) := by decide +kernel
theorem d_RD_feed_24 : decode (xcode m_RD_feed) 24 = .ok (.invokevirtual 50, 3) := by decide +kernel
theorem d_RD_feed_27 : decode (xcode m_RD_feed) 27 = .ok (.aload_n 0, 1) := by decide +kernel
theorem d_RD_feed_28 : decode (xcode m_RD_feed) 28 = .ok (.getfield 14, 3) := by decide +kernel
theorem d_RD_feed_31 : decode (xcode m_RD_feed) 31 = .ok (.iload_n 2, 1) := by decide +kernel
theorem d_RD_feed_32 : decode (xcode m_RD_feed) 32 = .ok (.invokevirtual 50, 3) := by decide +kernel
theorem d_RD_feed_35 : decode (xcode m_RD_feed) 35 = .ok (.aload_n 0, 1) := by decide +kernel
theorem d_RD_feed_36 : decode (xcode m_RD_feed) 36 = .ok (.getfield 14, 3) := by decide +kernel
theorem d_RD_feed_39 : decode (xcode m_RD_feed) 39 = .ok (.iload_n 3, 1) := by decide +kernel
theorem d_RD_feed_40 : decode (xcode m_RD_feed) 40 = .ok (.invokevirtual 50, 3) := by decide +kernel
theorem d_RD_feed_43 : decode (xcode m_RD_feed) 43 = .ok (.aload_n 0, 1) := by decide +kernel
theorem d_RD_feed_44 : decode (xcode m_RD_feed) 44 = .ok (.getfield 14, 3) := by decide +kernel
theorem d_RD_feed_47 : decode (xcode m_RD_feed) 47 = .ok (.iload 4, 2) := by decide +kernel
theorem d_RD_feed_49 : decode (xcode m_RD_feed) 49 = .ok (.invokevirtual 50, 3) := by decide +kernel
theorem d_RD_feed_52 : decode (xcode m_RD_feed) 52 = .ok (.aload_n 0, 1) := by decide +kernel
theorem d_RD_feed_53 : decode (xcode m_RD_feed) 53 = .ok (.getfield 14, 3) := by decide +kernel
theorem d_RD_feed_56 : decode (xcode m_RD_feed) 56 = .ok (.iload 5, 2) := by decide +kernel
theorem d_RD_feed_58 : decode (xcode m_RD_feed) 58 = .ok (.invokevirtual 50, 3) := by decide +kernel
theorem d_RD_feed_61 : decode (xcode m_RD_feed) 61 = .ok (.aload_n 0, 1) := by decide +kernel
theorem d_RD_feed_62 : decode (xcode m_RD_feed) 62 = .ok (.getfield 14, 3) := by decide +kernel
theorem d_RD_feed_65 : decode (xcode m_RD_feed) 65 = .ok (.invokevirtual 46, 3) := by decide +kernel
theorem d_RD_feed_68 : decode (xcode m_RD_feed) 68 = .ok (.ireturn, 1) := by decide +kernel
theorem d_RD_end_0 : decode (xcode m_RD_end) 0 = .ok (.iload_n 1, 1) := by decide +kernel
theorem d_RD_end_1 : decode (xcode m_RD_end) 1 = .ok (.ifCond .lt 14, 3) := by decide +kernel
theorem d_RD_end_4 : decode (xcode m_RD_end) 4 = .ok (.iload_n 1, 1) := by decide +kernel
theorem d_RD_end_5 : decode (xcode m_RD_end) 5 = .ok (.aload_n 0, 1) := by decide +kernel
theorem d_RD_end_6 : decode (xcode m_RD_end) 6 = .ok (.getfield 14, 3) := by decide +kernel
theorem d_RD_end_9 : decode (xcode m_RD_end) 9 = .ok (.invokevirtual 46, 3) := by decide +kernel
theorem d_RD_end_12 : decode (xcode m_RD_end) 12 = .ok (.if_icmp .le 5, 3) := by decide +kernel
theorem d_RD_end_15 : decode (xcode m_RD_end) 15 = .ok (.iconst (-1), 1) := by decide +kernel
theorem d_RD_end_16 : decode (xcode m_RD_end) 16 = .ok (.ireturn, 1) := by decide +kernel
theorem d_RD_end_17 : decode (xcode m_RD_end) 17 = .ok (.aload_n 0, 1) := by decide +kernel
theorem d_RD_end_18 : decode (xcode m_RD_end) 18 = .ok (.getfield 14, 3) := by decide +kernel
theorem d_RD_end_21 : decode (xcode m_RD_end) 21 = .ok (.iload_n 1, 1) := by decide +kernel
theorem d_RD_end_22 : decode (xcode m_RD_end) 22 = .ok (.invokevirtual 53, 3) := by decide +kernel
theorem d_RD_end_25 : decode (xcode m_RD_end) 25 = .ok (.iload_n 1, 1) := by decide +kernel
theorem d_RD_end_26 : decode (xcode m_RD_end) 26 = .ok (.ireturn, 1) := by decide +kernel
theorem d_RD_put_0 : decode (xcode m_RD_put) 0 = .ok (.aload_n 0, 1) := by decide +kernel
theorem d_RD_put_1 : decode (xcode m_RD_put) 1 = .ok (.iload_n 1, 1) := by decide +kernel
theorem d_RD_put_2 : decode (xcode m_RD_put) 2 = .ok (.invokevirtual 56, 3) := by decide +kernel
theorem d_RD_put_5 : decode (xcode m_RD_put) 5 = .ok (.astore_n 2, 1) := by decide +kernel
theorem d_RD_put_6 : decode (xcode m_RD_put) 6 = .ok (.aload_n 2, 1) := by decide +kernel
theorem d_RD_put_7 : decode (xcode m_RD_put) 7 = .ok (.ifnonnull 5, 3) := by decide +kernel
theorem d_RD_put_10 : decode (xcode m_RD_put) 10 = .ok (.iconst (-1), 1) := by decide +kernel
theorem d_RD_put_11 : decode (xcode m_RD_put) 11 = .ok (.ireturn, 1) := by decide +kernel
theorem d_RD_put_12 : decode (xcode m_RD_put) 12 = .ok (.aload_n 0, 1) := by decide +kernel
theorem d_RD_put_13 : decode (xcode m_RD_put) 13 = .ok (.getfield 14, 3) := by decide +kernel
theorem d_RD_put_16 : decode (xcode m_RD_put) 16 = .ok (.invokevirtual 46, 3) := by decide +kernel
theorem d_RD_put_19 : decode (xcode m_RD_put) 19 = .ok (.sipush 200, 3) := by decide +kernel
theorem d_RD_put_22 : decode (xcode m_RD_put) 22 = .ok (.if_icmp .le 6, 3) := by decide +kernel
theorem d_RD_put_25 : decode (xcode m_RD_put) 25 = .ok (.bipush (-4), 2) := by decide +kernel
theorem d_RD_put_27 : decode (xcode m_RD_put) 27 = .ok (.ireturn, 1) := by decide +kernel
theorem d_RD_put_28 : decode (xcode m_RD_put) 28 = .ok (.aload_n 2, 1) := by decide +kernel
theorem d_RD_put_29 : decode (xcode m_RD_put) 29 = .ok (.aload_n 0, 1) := by decide +kernel
theorem d_RD_put_30 : decode (xcode m_RD_put) 30 = .ok (.getfield 14, 3) := by decide +kernel
theorem d_RD_put_33 : decode (xcode m_RD_put) 33 = .ok (.invokevirtual 60, 3) := by decide +kernel
theorem d_RD_put_36 : decode (xcode m_RD_put) 36 = .ok (.aload_n 0, 1) := by decide +kernel
theorem d_RD_put_37 : decode (xcode m_RD_put) 37 = .ok (.getfield 14, 3) := by decide +kernel
theorem d_RD_put_40 : decode (xcode m_RD_put) 40 = .ok (.iconst 0, 1) := by decide +kernel
theorem d_RD_put_41 : decode (xcode m_RD_put) 41 = .ok (.invokevirtual 53, 3) := by decide +kernel
theorem d_RD_put_44 : decode (xcode m_RD_put) 44 = .ok (.aload_n 2, 1) := by decide +kernel
theorem d_RD_put_45 : decode (xcode m_RD_put) 45 = .ok (.invokevirtual 46, 3) := by decide +kernel
theorem d_RD_put_48 : decode (xcode m_RD_put) 48 = .ok (.ireturn, 1) := by decide +kernel
theorem d_RD_register_0 : decode (xcode m_RD_register) 0 = .ok (.iload_n 1, 1) := by decide +kernel
theorem d_RD_register_1 : decode (xcode m_RD_register) 1 = .ok (.ifCond .lt 9, 3) := by decide +kernel
theorem d_RD_register_4 : decode (xcode m_RD_register) 4 = .ok (.iload_n 1, 1) := by decide +kernel
theorem d_RD_register_5 : decode (xcode m_RD_register) 5 = .ok (.bipush 10, 2) := by decide +kernel
theorem d_RD_register_7 : decode (xcode m_RD_register) 7 = .ok (.if_icmp .lt 7, 3) := by decide +kernel
theorem d_RD_register_10 : decode (xcode m_RD_register) 10 = .ok (.aconst_null, 1) := by decide +kernel
theorem d_RD_register_11 : decode (xcode m_RD_register) 11 = .ok (.goto 9, 3) := by decide +kernel
theorem d_RD_register_14 : decode (xcode m_RD_register) 14 = .ok (.aload_n 0, 1) := by decide +kernel
theorem d_RD_register_15 : decode (xcode m_RD_register) 15 = .ok (.getfield 18, 3) := by decide +kernel
theorem d_RD_register_18 : decode (xcode m_RD_register) 18 = .ok (.iload_n 1, 1) := by decide +kernel
theorem d_RD_register_19 : decode (xcode m_RD_register) 19 = .ok (.aaload, 1) := by decide +kernel
theorem d_RD_register_20 : decode (xcode m_RD_register) 20 = .ok (.areturn, 1) := by decide +kernel
theorem d_RD_at_0 : decode (xcode m_RD_at) 0 = .ok (.aload_n 0, 1) := by decide +kernel
theorem d_RD_at_1 : decode (xcode m_RD_at) 1 = .ok (.iload_n 1, 1) := by decide +kernel
theorem d_RD_at_2 : decode (xcode m_RD_at) 2 = .ok (.invokevirtual 56, 3) := by decide +kernel
theorem d_RD_at_5 : decode (xcode m_RD_at) 5 = .ok (.astore_n 3, 1) := by decide +kernel
theorem d_RD_at_6 : decode (xcode m_RD_at) 6 = .ok (.aload_n 3, 1) := by decide +kernel
theorem d_RD_at_7 : decode (xcode m_RD_at) 7 = .ok (.ifnonnull 7, 3) := by decide +kernel
theorem d_RD_at_10 : decode (xcode m_RD_at) 10 = .ok (.iconst (-1), 1) := by decide +kernel
theorem d_RD_at_11 : decode (xcode m_RD_at) 11 = .ok (.goto 9, 3) := by decide +kernel
theorem d_RD_at_14 : decode (xcode m_RD_at) 14 = .ok (.aload_n 3, 1) := by decide +kernel
theorem d_RD_at_15 : decode (xcode m_RD_at) 15 = .ok (.iload_n 2, 1) := by decide +kernel
theorem d_RD_at_16 : decode (xcode m_RD_at) 16 = .ok (.iconst (-1), 1) := by decide +kernel
theorem d_RD_at_17 : decode (xcode m_RD_at) 17 = .ok (.invokevirtual 64, 3) := by decide +kernel
theorem d_RD_at_20 : decode (xcode m_RD_at) 20 = .ok (.ireturn, 1) := by decide +kernel
theorem d_RD_size_0 : decode (xcode m_RD_size) 0 = .ok (.aload_n 0, 1) := by decide +kernel
theorem d_RD_size_1 : decode (xcode m_RD_size) 1 = .ok (.iload_n 1, 1) := by decide +kernel
theorem d_RD_size_2 : decode (xcode m_RD_size) 2 = .ok (.invokevirtual 56, 3) := by decide +kernel
theorem d_RD_size_5 : decode (xcode m_RD_size) 5 = .ok (.astore_n 2, 1) := by decide +kernel
theorem d_RD_size_6 : decode (xcode m_RD_size) 6 = .ok (.aload_n 2, 1) := by decide +kernel
theorem d_RD_size_7 : decode (xcode m_RD_size) 7 = .ok (.ifnonnull 7, 3) := by decide +kernel
theorem d_RD_size_10 : decode (xcode m_RD_size) 10 = .ok (.iconst (-1), 1) := by decide +kernel
theorem d_RD_size_11 : decode (xcode m_RD_size) 11 = .ok (.goto 7, 3) := by decide +kernel
theorem d_RD_size_14 : decode (xcode m_RD_size) 14 = .ok (.aload_n 2, 1) := by decide +kernel
theorem d_RD_size_15 : decode (xcode m_RD_size) 15 = .ok (.invokevirtual 46, 3) := by decide +kernel
theorem d_RD_size_18 : decode (xcode m_RD_size) 18 = .ok (.ireturn, 1) := by decide +kernel
theorem d_RD_pad_0 : decode (xcode m_RD_pad) 0 = .ok (.iload_n 1, 1) := by decide +kernel
theorem d_RD_pad_1 : decode (xcode m_RD_pad) 1 = .ok (.ifCond .lt 10, 3) := by decide +kernel
theorem d_RD_pad_4 : decode (xcode m_RD_pad) 4 = .ok (.iload_n 1, 1) := by decide +kernel
theorem d_RD_pad_5 : decode (xcode m_RD_pad) 5 = .ok (.sipush 256, 3) := by decide +kernel
theorem d_RD_pad_8 : decode (xcode m_RD_pad) 8 = .ok (.if_icmp .lt 5, 3) := by decide +kernel
theorem d_RD_pad_11 : decode (xcode m_RD_pad) 11 = .ok (.iconst (-1), 1) := by decide +kernel
theorem d_RD_pad_12 : decode (xcode m_RD_pad) 12 = .ok (.ireturn, 1) := by decide +kernel
theorem d_RD_pad_13 : decode (xcode m_RD_pad) 13 = .ok (.aload_n 0, 1) := by decide +kernel
theorem d_RD_pad_14 : decode (xcode m_RD_pad) 14 = .ok (.getfield 42, 3) := by decide +kernel
theorem d_RD_pad_17 : decode (xcode m_RD_pad) 17 = .ok (.istore_n 2, 1) := by decide +kernel
theorem d_RD_pad_18 : decode (xcode m_RD_pad) 18 = .ok (.aload_n 0, 1) := by decide +kernel
theorem d_RD_pad_19 : decode (xcode m_RD_pad) 19 = .ok (.iload_n 1, 1) := by decide +kernel
theorem d_RD_pad_20 : decode (xcode m_RD_pad) 20 = .ok (.putfield 42, 3) := by decide +kernel
theorem d_RD_pad_23 : decode (xcode m_RD_pad) 23 = .ok (.iload_n 2, 1) := by decide +kernel
theorem d_RD_pad_24 : decode (xcode m_RD_pad) 24 = .ok (.ireturn, 1) := by decide +kernel
theorem d_RD_fill_0 : decode (xcode m_RD_fill) 0 = .ok (.aload_n 0, 1) := by decide +kernel
theorem d_RD_fill_1 : decode (xcode m_RD_fill) 1 = .ok (.iload_n 2, 1) := by decide +kernel
theorem d_RD_fill_2 : decode (xcode m_RD_fill) 2 = .ok (.invokevirtual 56, 3) := by decide +kernel
theorem d_RD_fill_5 : decode (xcode m_RD_fill) 5 = .ok (.astore 5, 2) := by decide +kernel
theorem d_RD_fill_7 : decode (xcode m_RD_fill) 7 = .ok (.aload_n 0, 1) := by decide +kernel
theorem d_RD_fill_8 : decode (xcode m_RD_fill) 8 = .ok (.iload 4, 2) := by decide +kernel
theorem d_RD_fill_10 : decode (xcode m_RD_fill) 10 = .ok (.invokevirtual 56, 3) := by decide +kernel
theorem d_RD_fill_13 : decode (xcode m_RD_fill) 13 = .ok (.astore 6, 2) := by decide +kernel
theorem d_RD_fill_15 : decode (xcode m_RD_fill) 15 = .ok (.aload 5, 2) := by decide +kernel
theorem d_RD_fill_17 : decode (xcode m_RD_fill) 17 = .ok (.ifnull 21, 3) := by decide +kernel
theorem d_RD_fill_20 : decode (xcode m_RD_fill) 20 = .ok (.aload 6, 2) := by decide +kernel
theorem d_RD_fill_22 : decode (xcode m_RD_fill) 22 = .ok (.ifnull 16, 3) := by decide +kernel
theorem d_RD_fill_25 : decode (xcode m_RD_fill) 25 = .ok (.iload_n 1, 1) := by decide +kernel
theorem d_RD_fill_26 : decode (xcode m_RD_fill) 26 = .ok (.ifCond .lt 12, 3) := by decide +kernel
theorem d_RD_fill_29 : decode (xcode m_RD_fill) 29 = .ok (.iload_n 1, 1) := by decide +kernel
theorem d_RD_fill_30 : decode (xcode m_RD_fill) 30 = .ok (.iconst 2, 1) := by decide +kernel
theorem d_RD_fill_31 : decode (xcode m_RD_fill) 31 = .ok (.if_icmp .gt 7, 3) := by decide +kernel
theorem d_RD_fill_34 : decode (xcode m_RD_fill) 34 = .ok (.iload_n 3, 1) := by decide +kernel
theorem d_RD_fill_35 : decode (xcode m_RD_fill) 35 = .ok (.ifCond .ge 5, 3) := by decide +kernel
theorem d_RD_fill_38 : decode (xcode m_RD_fill) 38 = .ok (.iconst (-1), 1) := by decide +kernel
theorem d_RD_fill_39 : decode (xcode m_RD_fill) 39 = .ok (.ireturn, 1) := by decide +kernel
theorem d_RD_fill_40 : decode (xcode m_RD_fill) 40 = .ok (.iload_n 3, 1) := by decide +kernel
theorem d_RD_fill_41 : decode (xcode m_RD_fill) 41 = .ok (.sipush 200, 3) := by decide +kernel
theorem d_RD_fill_44 : decode (xcode m_RD_fill) 44 = .ok (.if_icmp .le 6, 3) := by decide +kernel
theorem d_RD_fill_47 : decode (xcode m_RD_fill) 47 = .ok (.bipush (-4), 2) := by decide +kernel
theorem d_RD_fill_49 : decode (xcode m_RD_fill) 49 = .ok (.ireturn, 1) := by decide +kernel
theorem d_RD_fill_50 : decode (xcode m_RD_fill) 50 = .ok (.iload_n 3, 1) := by decide +kernel
theorem d_RD_fill_51 : decode (xcode m_RD_fill) 51 = .ok (.aload 5, 2) := by decide +kernel
theorem d_RD_fill_53 : decode (xcode m_RD_fill) 53 = .ok (.invokevirtual 46, 3) := by decide +kernel
theorem d_RD_fill_56 : decode (xcode m_RD_fill) 56 = .ok (.isub, 1) := by decide +kernel
theorem d_RD_fill_57 : decode (xcode m_RD_fill) 57 = .ok (.istore 7, 2) := by decide +kernel
theorem d_RD_fill_59 : decode (xcode m_RD_fill) 59 = .ok (.iload_n 1, 1) := by decide +kernel
theorem d_RD_fill_60 : decode (xcode m_RD_fill) 60 = .ok (.ifCond .ne 7, 3) := by decide +kernel
theorem d_RD_fill_63 : decode (xcode m_RD_fill) 63 = .ok (.iconst 0, 1) := by decide +kernel
theorem d_RD_fill_64 : decode (xcode m_RD_fill) 64 = .ok (.goto 17, 3) := by decide +kernel
theorem d_RD_fill_67 : decode (xcode m_RD_fill) 67 = .ok (.iload_n 1, 1) := by decide +kernel
theorem d_RD_fill_68 : decode (xcode m_RD_fill) 68 = .ok (.iconst 1, 1) := by decide +kernel
theorem d_RD_fill_69 : decode (xcode m_RD_fill) 69 = .ok (.if_icmp .ne 8, 3) := by decide +kernel
theorem d_RD_fill_72 : decode (xcode m_RD_fill) 72 = .ok (.iload 7, 2) := by decide +kernel
theorem d_RD_fill_74 : decode (xcode m_RD_fill) 74 = .ok (.goto 7, 3) := by decide +kernel
theorem d_RD_fill_77 : decode (xcode m_RD_fill) 77 = .ok (.iload 7, 2) := by decide +kernel
theorem d_RD_fill_79 : decode (xcode m_RD_fill) 79 = .ok (.iconst 2, 1) := by decide +kernel
theorem d_RD_fill_80 : decode (xcode m_RD_fill) 80 = .ok (.idiv, 1) := by decide +kernel
theorem d_RD_fill_81 : decode (xcode m_RD_fill) 81 = .ok (.istore 8, 2) := by decide +kernel
theorem d_RD_fill_83 : decode (xcode m_RD_fill) 83 = .ok (.aload_n 0, 1) := by decide +kernel
theorem d_RD_fill_84 : decode (xcode m_RD_fill) 84 = .ok (.getfield 22, 3) := by decide +kernel
theorem d_RD_fill_87 : decode (xcode m_RD_fill) 87 = .ok (.iconst 0, 1) := by decide +kernel
theorem d_RD_fill_88 : decode (xcode m_RD_fill) 88 = .ok (.invokevirtual 53, 3) := by decide +kernel
theorem d_RD_fill_91 : decode (xcode m_RD_fill) 91 = .ok (.aload_n 0, 1) := by decide +kernel
theorem d_RD_fill_92 : decode (xcode m_RD_fill) 92 = .ok (.getfield 22, 3) := by decide +kernel
theorem d_RD_fill_95 : decode (xcode m_RD_fill) 95 = .ok (.aload_n 0, 1) := by decide +kernel
theorem d_RD_fill_96 : decode (xcode m_RD_fill) 96 = .ok (.getfield 42, 3) := by decide +kernel
theorem d_RD_fill_99 : decode (xcode m_RD_fill) 99 = .ok (.iload 8, 2) := by decide +kernel
theorem d_RD_fill_101 : decode (xcode m_RD_fill) 101 = .ok (.invokevirtual 68, 3) := by decide +kernel
theorem d_RD_fill_104 : decode (xcode m_RD_fill) 104 = .ok (.aload_n 0, 1) := by decide +kernel
theorem d_RD_fill_105 : decode (xcode m_RD_fill) 105 = .ok (.getfield 22, 3) := by decide +kernel
theorem d_RD_fill_108 : decode (xcode m_RD_fill) 108 = .ok (.aload 5, 2) := by decide +kernel
theorem d_RD_fill_110 : decode (xcode m_RD_fill) 110 = .ok (.iload 8, 2) := by decide +kernel
theorem d_RD_fill_112 : decode (xcode m_RD_fill) 112 = .ok (.ineg, 1) := by decide +kernel
theorem d_RD_fill_113 : decode (xcode m_RD_fill) 113 = .ok (.iload_n 3, 1) := by decide +kernel
theorem d_RD_fill_114 : decode (xcode m_RD_fill) 114 = .ok (.iload 8, 2) := by decide +kernel
theorem d_RD_fill_116 : decode (xcode m_RD_fill) 116 = .ok (.isub, 1) := by decide +kernel
theorem d_RD_fill_117 : decode (xcode m_RD_fill) 117 = .ok (.invokevirtual 72, 3) := by decide +kernel
theorem d_RD_fill_120 : decode (xcode m_RD_fill) 120 = .ok (.aload_n 0, 1) := by decide +kernel
theorem d_RD_fill_121 : decode (xcode m_RD_fill) 121 = .ok (.getfield 22, 3) := by decide +kernel
theorem d_RD_fill_124 : decode (xcode m_RD_fill) 124 = .ok (.iload_n 3, 1) := by decide +kernel
theorem d_RD_fill_125 : decode (xcode m_RD_fill) 125 = .ok (.aload_n 0, 1) := by decide +kernel
theorem d_RD_fill_126 : decode (xcode m_RD_fill) 126 = .ok (.getfield 42, 3) := by decide +kernel
theorem d_RD_fill_129 : decode (xcode m_RD_fill) 129 = .ok (.invokevirtual 76, 3) := by decide +kernel
theorem d_RD_fill_132 : decode (xcode m_RD_fill) 132 = .ok (.aload_n 0, 1) := by decide +kernel
theorem d_RD_fill_133 : decode (xcode m_RD_fill) 133 = .ok (.aload 6, 2) := by decide +kernel
theorem d_RD_fill_135 : decode (xcode m_RD_fill) 135 = .ok (.invokevirtual 79, 3) := by decide +kernel
theorem d_RD_fill_138 : decode (xcode m_RD_fill) 138 = .ok (.ireturn, 1) := by decide +kernel
theorem d_RD_keepMade_0 : decode (xcode m_RD_keepMade) 0 = .ok (.aload_n 1, 1) := by decide +kernel
theorem d_RD_keepMade_1 : decode (xcode m_RD_keepMade) 1 = .ok (.aload_n 0, 1) := by decide +kernel
theorem d_RD_keepMade_2 : decode (xcode m_RD_keepMade) 2 = .ok (.getfield 22, 3) := by decide +kernel
theorem d_RD_keepMade_5 : decode (xcode m_RD_keepMade) 5 = .ok (.invokevirtual 60, 3) := by decide +kernel
theorem d_RD_keepMade_8 : decode (xcode m_RD_keepMade) 8 = .ok (.aload_n 1, 1) := by decide +kernel
theorem d_RD_keepMade_9 : decode (xcode m_RD_keepMade) 9 = .ok (.invokevirtual 46, 3) := by decide +kernel
theorem d_RD_keepMade_12 : decode (xcode m_RD_keepMade) 12 = .ok (.ireturn, 1) := by decide +kernel
theorem d_RD_part_0 : decode (xcode m_RD_part) 0 = .ok (.aload_n 0, 1) := by decide +kernel
theorem d_RD_part_1 : decode (xcode m_RD_part) 1 = .ok (.iload_n 1, 1) := by decide +kernel
theorem d_RD_part_2 : decode (xcode m_RD_part) 2 = .ok (.invokevirtual 56, 3) := by decide +kernel
theorem d_RD_part_5 : decode (xcode m_RD_part) 5 = .ok (.astore 5, 2) := by decide +kernel
theorem d_RD_part_7 : decode (xcode m_RD_part) 7 = .ok (.aload_n 0, 1) := by decide +kernel
theorem d_RD_part_8 : decode (xcode m_RD_part) 8 = .ok (.iload 4, 2) := by decide +kernel
theorem d_RD_part_10 : decode (xcode m_RD_part) 10 = .ok (.invokevirtual 56, 3) := by decide +kernel
theorem d_RD_part_13 : decode (xcode m_RD_part) 13 = .ok (.astore 6, 2) := by decide +kernel
theorem d_RD_part_15 : decode (xcode m_RD_part) 15 = .ok (.aload 5, 2) := by decide +kernel
theorem d_RD_part_17 : decode (xcode m_RD_part) 17 = .ok (.ifnull 18, 3) := by decide +kernel
theorem d_RD_part_20 : decode (xcode m_RD_part) 20 = .ok (.aload 6, 2) := by decide +kernel
theorem d_RD_part_22 : decode (xcode m_RD_part) 22 = .ok (.ifnull 13, 3) := by decide +kernel
theorem d_RD_part_25 : decode (xcode m_RD_part) 25 = .ok (.iload_n 2, 1) := by decide +kernel
theorem d_RD_part_26 : decode (xcode m_RD_part) 26 = .ok (.iconst 1, 1) := by decide +kernel
theorem d_RD_part_27 : decode (xcode m_RD_part) 27 = .ok (.if_icmp .lt 8, 3) := by decide +kernel
theorem d_RD_part_30 : decode (xcode m_RD_part) 30 = .ok (.iload_n 3, 1) := by decide +kernel
theorem d_RD_part_31 : decode (xcode m_RD_part) 31 = .ok (.iconst (-1), 1) := by decide +kernel
theorem d_RD_part_32 : decode (xcode m_RD_part) 32 = .ok (.if_icmp .ge 5, 3) := by decide +kernel
theorem d_RD_part_35 : decode (xcode m_RD_part) 35 = .ok (.iconst (-1), 1) := by decide +kernel
theorem d_RD_part_36 : decode (xcode m_RD_part) 36 = .ok (.ireturn, 1) := by decide +kernel
theorem d_RD_part_37 : decode (xcode m_RD_part) 37 = .ok (.iload_n 3, 1) := by decide +kernel
theorem d_RD_part_38 : decode (xcode m_RD_part) 38 = .ok (.sipush 200, 3) := by decide +kernel
theorem d_RD_part_41 : decode (xcode m_RD_part) 41 = .ok (.if_icmp .le 6, 3) := by decide +kernel
theorem d_RD_part_44 : decode (xcode m_RD_part) 44 = .ok (.bipush (-4), 2) := by decide +kernel
theorem d_RD_part_46 : decode (xcode m_RD_part) 46 = .ok (.ireturn, 1) := by decide +kernel
theorem d_RD_part_47 : decode (xcode m_RD_part) 47 = .ok (.aload_n 0, 1) := by decide +kernel
theorem d_RD_part_48 : decode (xcode m_RD_part) 48 = .ok (.getfield 22, 3) := by decide +kernel
theorem d_RD_part_51 : decode (xcode m_RD_part) 51 = .ok (.iconst 0, 1) := by decide +kernel
theorem d_RD_part_52 : decode (xcode m_RD_part) 52 = .ok (.invokevirtual 53, 3) := by decide +kernel
theorem d_RD_part_55 : decode (xcode m_RD_part) 55 = .ok (.aload_n 0, 1) := by decide +kernel
theorem d_RD_part_56 : decode (xcode m_RD_part) 56 = .ok (.getfield 22, 3) := by decide +kernel
theorem d_RD_part_59 : decode (xcode m_RD_part) 59 = .ok (.aload 5, 2) := by decide +kernel
theorem d_RD_part_61 : decode (xcode m_RD_part) 61 = .ok (.iload_n 2, 1) := by decide +kernel
theorem d_RD_part_62 : decode (xcode m_RD_part) 62 = .ok (.iconst 1, 1) := by decide +kernel
theorem d_RD_part_63 : decode (xcode m_RD_part) 63 = .ok (.isub, 1) := by decide +kernel
theorem d_RD_part_64 : decode (xcode m_RD_part) 64 = .ok (.iload_n 2, 1) := by decide +kernel
theorem d_RD_part_65 : decode (xcode m_RD_part) 65 = .ok (.iconst 1, 1) := by decide +kernel
theorem d_RD_part_66 : decode (xcode m_RD_part) 66 = .ok (.isub, 1) := by decide +kernel
theorem d_RD_part_67 : decode (xcode m_RD_part) 67 = .ok (.iload_n 3, 1) := by decide +kernel
theorem d_RD_part_68 : decode (xcode m_RD_part) 68 = .ok (.aload 5, 2) := by decide +kernel
theorem d_RD_part_70 : decode (xcode m_RD_part) 70 = .ok (.invokevirtual 46, 3) := by decide +kernel
theorem d_RD_part_73 : decode (xcode m_RD_part) 73 = .ok (.invokestatic 83, 3) := by decide +kernel
theorem d_RD_part_76 : decode (xcode m_RD_part) 76 = .ok (.invokevirtual 72, 3) := by decide +kernel
theorem d_RD_part_79 : decode (xcode m_RD_part) 79 = .ok (.aload_n 0, 1) := by decide +kernel
theorem d_RD_part_80 : decode (xcode m_RD_part) 80 = .ok (.getfield 22, 3) := by decide +kernel
theorem d_RD_part_83 : decode (xcode m_RD_part) 83 = .ok (.iload_n 3, 1) := by decide +kernel
theorem d_RD_part_84 : decode (xcode m_RD_part) 84 = .ok (.aload_n 0, 1) := by decide +kernel
theorem d_RD_part_85 : decode (xcode m_RD_part) 85 = .ok (.getfield 42, 3) := by decide +kernel
theorem d_RD_part_88 : decode (xcode m_RD_part) 88 = .ok (.invokevirtual 76, 3) := by decide +kernel
theorem d_RD_part_91 : decode (xcode m_RD_part) 91 = .ok (.aload_n 0, 1) := by decide +kernel
theorem d_RD_part_92 : decode (xcode m_RD_part) 92 = .ok (.aload 6, 2) := by decide +kernel
theorem d_RD_part_94 : decode (xcode m_RD_part) 94 = .ok (.invokevirtual 79, 3) := by decide +kernel
theorem d_RD_part_97 : decode (xcode m_RD_part) 97 = .ok (.ireturn, 1) := by decide +kernel
theorem d_RD_behindRun_0 : decode (xcode m_RD_behindRun) 0 = .ok (.iload_n 1, 1) := by decide +kernel
theorem d_RD_behindRun_1 : decode (xcode m_RD_behindRun) 1 = .ok (.iconst (-1), 1) := by decide +kernel
theorem d_RD_behindRun_2 : decode (xcode m_RD_behindRun) 2 = .ok (.if_icmp .ne 7, 3) := by decide +kernel
theorem d_RD_behindRun_5 : decode (xcode m_RD_behindRun) 5 = .ok (.iload_n 2, 1) := by decide +kernel
theorem d_RD_behindRun_6 : decode (xcode m_RD_behindRun) 6 = .ok (.goto 14, 3) := by decide +kernel
theorem d_RD_behindRun_9 : decode (xcode m_RD_behindRun) 9 = .ok (.iload_n 0, 1) := by decide +kernel
theorem d_RD_behindRun_10 : decode (xcode m_RD_behindRun) 10 = .ok (.i2l, 1) := by decide +kernel
theorem d_RD_behindRun_11 : decode (xcode m_RD_behindRun) 11 = .ok (.iload_n 1, 1) := by decide +kernel
theorem d_RD_behindRun_12 : decode (xcode m_RD_behindRun) 12 = .ok (.i2l, 1) := by decide +kernel
theorem d_RD_behindRun_13 : decode (xcode m_RD_behindRun) 13 = .ok (.ladd, 1) := by decide +kernel
theorem d_RD_behindRun_14 : decode (xcode m_RD_behindRun) 14 = .ok (.iload_n 2, 1) := by decide +kernel
theorem d_RD_behindRun_15 : decode (xcode m_RD_behindRun) 15 = .ok (.i2l, 1) := by decide +kernel
theorem d_RD_behindRun_16 : decode (xcode m_RD_behindRun) 16 = .ok (.invokestatic 174, 3) := by decide +kernel
theorem d_RD_behindRun_19 : decode (xcode m_RD_behindRun) 19 = .ok (.l2i, 1) := by decide +kernel
theorem d_RD_behindRun_20 : decode (xcode m_RD_behindRun) 20 = .ok (.ireturn, 1) := by decide +kernel
theorem d_RD_cut_0 : decode (xcode m_RD_cut) 0 = .ok (.aload_n 0, 1) := by decide +kernel
theorem d_RD_cut_1 : decode (xcode m_RD_cut) 1 = .ok (.iload_n 1, 1) := by decide +kernel
theorem d_RD_cut_2 : decode (xcode m_RD_cut) 2 = .ok (.invokevirtual 56, 3) := by decide +kernel
theorem d_RD_cut_5 : decode (xcode m_RD_cut) 5 = .ok (.astore 5, 2) := by decide +kernel
theorem d_RD_cut_7 : decode (xcode m_RD_cut) 7 = .ok (.aload_n 0, 1) := by decide +kernel
theorem d_RD_cut_8 : decode (xcode m_RD_cut) 8 = .ok (.iload 4, 2) := by decide +kernel
theorem d_RD_cut_10 : decode (xcode m_RD_cut) 10 = .ok (.invokevirtual 56, 3) := by decide +kernel
theorem d_RD_cut_13 : decode (xcode m_RD_cut) 13 = .ok (.astore 6, 2) := by decide +kernel
theorem d_RD_cut_15 : decode (xcode m_RD_cut) 15 = .ok (.aload 5, 2) := by decide +kernel
theorem d_RD_cut_17 : decode (xcode m_RD_cut) 17 = .ok (.ifnull 18, 3) := by decide +kernel
theorem d_RD_cut_20 : decode (xcode m_RD_cut) 20 = .ok (.aload 6, 2) := by decide +kernel
theorem d_RD_cut_22 : decode (xcode m_RD_cut) 22 = .ok (.ifnull 13, 3) := by decide +kernel
theorem d_RD_cut_25 : decode (xcode m_RD_cut) 25 = .ok (.iload_n 2, 1) := by decide +kernel
theorem d_RD_cut_26 : decode (xcode m_RD_cut) 26 = .ok (.iconst 1, 1) := by decide +kernel
theorem d_RD_cut_27 : decode (xcode m_RD_cut) 27 = .ok (.if_icmp .lt 8, 3) := by decide +kernel
theorem d_RD_cut_30 : decode (xcode m_RD_cut) 30 = .ok (.iload_n 3, 1) := by decide +kernel
theorem d_RD_cut_31 : decode (xcode m_RD_cut) 31 = .ok (.iconst (-1), 1) := by decide +kernel
theorem d_RD_cut_32 : decode (xcode m_RD_cut) 32 = .ok (.if_icmp .ge 5, 3) := by decide +kernel
theorem d_RD_cut_35 : decode (xcode m_RD_cut) 35 = .ok (.iconst (-1), 1) := by decide +kernel
theorem d_RD_cut_36 : decode (xcode m_RD_cut) 36 = .ok (.ireturn, 1) := by decide +kernel
theorem d_RD_cut_37 : decode (xcode m_RD_cut) 37 = .ok (.aload_n 0, 1) := by decide +kernel
theorem d_RD_cut_38 : decode (xcode m_RD_cut) 38 = .ok (.getfield 22, 3) := by decide +kernel
theorem d_RD_cut_41 : decode (xcode m_RD_cut) 41 = .ok (.iconst 0, 1) := by decide +kernel
theorem d_RD_cut_42 : decode (xcode m_RD_cut) 42 = .ok (.invokevirtual 53, 3) := by decide +kernel
theorem d_RD_cut_45 : decode (xcode m_RD_cut) 45 = .ok (.aload_n 0, 1) := by decide +kernel
theorem d_RD_cut_46 : decode (xcode m_RD_cut) 46 = .ok (.getfield 22, 3) := by decide +kernel
theorem d_RD_cut_49 : decode (xcode m_RD_cut) 49 = .ok (.aload 5, 2) := by decide +kernel
theorem d_RD_cut_51 : decode (xcode m_RD_cut) 51 = .ok (.iconst 0, 1) := by decide +kernel
theorem d_RD_cut_52 : decode (xcode m_RD_cut) 52 = .ok (.iload_n 2, 1) := by decide +kernel
theorem d_RD_cut_53 : decode (xcode m_RD_cut) 53 = .ok (.iconst 1, 1) := by decide +kernel
theorem d_RD_cut_54 : decode (xcode m_RD_cut) 54 = .ok (.isub, 1) := by decide +kernel
theorem d_RD_cut_55 : decode (xcode m_RD_cut) 55 = .ok (.invokevirtual 72, 3) := by decide +kernel
theorem d_RD_cut_58 : decode (xcode m_RD_cut) 58 = .ok (.aload_n 0, 1) := by decide +kernel
theorem d_RD_cut_59 : decode (xcode m_RD_cut) 59 = .ok (.getfield 22, 3) := by decide +kernel
theorem d_RD_cut_62 : decode (xcode m_RD_cut) 62 = .ok (.aload 5, 2) := by decide +kernel
theorem d_RD_cut_64 : decode (xcode m_RD_cut) 64 = .ok (.iload_n 2, 1) := by decide +kernel
theorem d_RD_cut_65 : decode (xcode m_RD_cut) 65 = .ok (.iconst 1, 1) := by decide +kernel
theorem d_RD_cut_66 : decode (xcode m_RD_cut) 66 = .ok (.isub, 1) := by decide +kernel
theorem d_RD_cut_67 : decode (xcode m_RD_cut) 67 = .ok (.iload_n 3, 1) := by decide +kernel
theorem d_RD_cut_68 : decode (xcode m_RD_cut) 68 = .ok (.aload 5, 2) := by decide +kernel
theorem d_RD_cut_70 : decode (xcode m_RD_cut) 70 = .ok (.invokevirtual 46, 3) := by decide +kernel
theorem d_RD_cut_73 : decode (xcode m_RD_cut) 73 = .ok (.invokestatic 83, 3) := by decide +kernel
theorem d_RD_cut_76 : decode (xcode m_RD_cut) 76 = .ok (.aload 5, 2) := by decide +kernel
theorem d_RD_cut_78 : decode (xcode m_RD_cut) 78 = .ok (.invokevirtual 46, 3) := by decide +kernel
theorem d_RD_cut_81 : decode (xcode m_RD_cut) 81 = .ok (.invokevirtual 72, 3) := by decide +kernel
theorem d_RD_cut_84 : decode (xcode m_RD_cut) 84 = .ok (.aload_n 0, 1) := by decide +kernel
theorem d_RD_cut_85 : decode (xcode m_RD_cut) 85 = .ok (.aload 6, 2) := by decide +kernel
theorem d_RD_cut_87 : decode (xcode m_RD_cut) 87 = .ok (.invokevirtual 79, 3) := by decide +kernel
theorem d_RD_cut_90 : decode (xcode m_RD_cut) 90 = .ok (.ireturn, 1) := by decide +kernel
theorem d_RD_join_0 : decode (xcode m_RD_join) 0 = .ok (.aload_n 0, 1) := by decide +kernel
theorem d_RD_join_1 : decode (xcode m_RD_join) 1 = .ok (.iload_n 1, 1) := by decide +kernel
theorem d_RD_join_2 : decode (xcode m_RD_join) 2 = .ok (.invokevirtual 56, 3) := by decide +kernel
theorem d_RD_join_5 : decode (xcode m_RD_join) 5 = .ok (.astore 5, 2) := by decide +kernel
theorem d_RD_join_7 : decode (xcode m_RD_join) 7 = .ok (.aload_n 0, 1) := by decide +kernel
theorem d_RD_join_8 : decode (xcode m_RD_join) 8 = .ok (.iload_n 2, 1) := by decide +kernel
theorem d_RD_join_9 : decode (xcode m_RD_join) 9 = .ok (.invokevirtual 56, 3) := by decide +kernel
theorem d_RD_join_12 : decode (xcode m_RD_join) 12 = .ok (.astore 6, 2) := by decide +kernel
theorem d_RD_join_14 : decode (xcode m_RD_join) 14 = .ok (.aload_n 0, 1) := by decide +kernel
theorem d_RD_join_15 : decode (xcode m_RD_join) 15 = .ok (.iload 4, 2) := by decide +kernel
theorem d_RD_join_17 : decode (xcode m_RD_join) 17 = .ok (.invokevirtual 56, 3) := by decide +kernel
theorem d_RD_join_20 : decode (xcode m_RD_join) 20 = .ok (.astore 7, 2) := by decide +kernel
theorem d_RD_join_22 : decode (xcode m_RD_join) 22 = .ok (.aload 5, 2) := by decide +kernel
theorem d_RD_join_24 : decode (xcode m_RD_join) 24 = .ok (.ifnull 17, 3) := by decide +kernel
theorem d_RD_join_27 : decode (xcode m_RD_join) 27 = .ok (.aload 6, 2) := by decide +kernel
theorem d_RD_join_29 : decode (xcode m_RD_join) 29 = .ok (.ifnull 12, 3) := by decide +kernel
theorem d_RD_join_32 : decode (xcode m_RD_join) 32 = .ok (.aload 7, 2) := by decide +kernel
theorem d_RD_join_34 : decode (xcode m_RD_join) 34 = .ok (.ifnull 7, 3) := by decide +kernel
theorem d_RD_join_37 : decode (xcode m_RD_join) 37 = .ok (.iload_n 3, 1) := by decide +kernel
theorem d_RD_join_38 : decode (xcode m_RD_join) 38 = .ok (.ifCond .ge 5, 3) := by decide +kernel
theorem d_RD_join_41 : decode (xcode m_RD_join) 41 = .ok (.iconst (-1), 1) := by decide +kernel
theorem d_RD_join_42 : decode (xcode m_RD_join) 42 = .ok (.ireturn, 1) := by decide +kernel
theorem d_RD_join_43 : decode (xcode m_RD_join) 43 = .ok (.aload 5, 2) := by decide +kernel
theorem d_RD_join_45 : decode (xcode m_RD_join) 45 = .ok (.invokevirtual 46, 3) := by decide +kernel
theorem d_RD_join_48 : decode (xcode m_RD_join) 48 = .ok (.i2l, 1) := by decide +kernel
theorem d_RD_join_49 : decode (xcode m_RD_join) 49 = .ok (.iload_n 3, 1) := by decide +kernel
theorem d_RD_join_50 : decode (xcode m_RD_join) 50 = .ok (.i2l, 1) := by decide +kernel
theorem d_RD_join_51 : decode (xcode m_RD_join) 51 = .ok (.ladd, 1) := by decide +kernel
theorem d_RD_join_52 : decode (xcode m_RD_join) 52 = .ok (.aload 6, 2) := by decide +kernel
theorem d_RD_join_54 : decode (xcode m_RD_join) 54 = .ok (.invokevirtual 46, 3) := by decide +kernel
theorem d_RD_join_57 : decode (xcode m_RD_join) 57 = .ok (.i2l, 1) := by decide +kernel
theorem d_RD_join_58 : decode (xcode m_RD_join) 58 = .ok (.ladd, 1) := by decide +kernel
theorem d_RD_join_59 : decode (xcode m_RD_join) 59 = .ok (.ldc2_w 87, 3) := by decide +kernel
theorem d_RD_join_62 : decode (xcode m_RD_join) 62 = .ok (.lcmp, 1) := by decide +kernel
theorem d_RD_join_63 : decode (xcode m_RD_join) 63 = .ok (.ifCond .le 6, 3) := by decide +kernel
theorem d_RD_join_66 : decode (xcode m_RD_join) 66 = .ok (.bipush (-4), 2) := by decide +kernel
theorem d_RD_join_68 : decode (xcode m_RD_join) 68 = .ok (.ireturn, 1) := by decide +kernel
theorem d_RD_join_69 : decode (xcode m_RD_join) 69 = .ok (.aload_n 0, 1) := by decide +kernel
theorem d_RD_join_70 : decode (xcode m_RD_join) 70 = .ok (.getfield 22, 3) := by decide +kernel
theorem d_RD_join_73 : decode (xcode m_RD_join) 73 = .ok (.iconst 0, 1) := by decide +kernel
theorem d_RD_join_74 : decode (xcode m_RD_join) 74 = .ok (.invokevirtual 53, 3) := by decide +kernel
theorem d_RD_join_77 : decode (xcode m_RD_join) 77 = .ok (.aload_n 0, 1) := by decide +kernel
theorem d_RD_join_78 : decode (xcode m_RD_join) 78 = .ok (.getfield 22, 3) := by decide +kernel
theorem d_RD_join_81 : decode (xcode m_RD_join) 81 = .ok (.aload 5, 2) := by decide +kernel
theorem d_RD_join_83 : decode (xcode m_RD_join) 83 = .ok (.invokevirtual 89, 3) := by decide +kernel
theorem d_RD_join_86 : decode (xcode m_RD_join) 86 = .ok (.aload_n 0, 1) := by decide +kernel
theorem d_RD_join_87 : decode (xcode m_RD_join) 87 = .ok (.getfield 22, 3) := by decide +kernel
theorem d_RD_join_90 : decode (xcode m_RD_join) 90 = .ok (.aload_n 0, 1) := by decide +kernel
theorem d_RD_join_91 : decode (xcode m_RD_join) 91 = .ok (.getfield 42, 3) := by decide +kernel
theorem d_RD_join_94 : decode (xcode m_RD_join) 94 = .ok (.iload_n 3, 1) := by decide +kernel
theorem d_RD_join_95 : decode (xcode m_RD_join) 95 = .ok (.invokevirtual 68, 3) := by decide +kernel
theorem d_RD_join_98 : decode (xcode m_RD_join) 98 = .ok (.aload_n 0, 1) := by decide +kernel
theorem d_RD_join_99 : decode (xcode m_RD_join) 99 = .ok (.getfield 22, 3) := by decide +kernel
theorem d_RD_join_102 : decode (xcode m_RD_join) 102 = .ok (.aload 6, 2) := by decide +kernel
theorem d_RD_join_104 : decode (xcode m_RD_join) 104 = .ok (.invokevirtual 89, 3) := by decide +kernel
theorem d_RD_join_107 : decode (xcode m_RD_join) 107 = .ok (.aload_n 0, 1) := by decide +kernel
theorem d_RD_join_108 : decode (xcode m_RD_join) 108 = .ok (.aload 7, 2) := by decide +kernel
theorem d_RD_join_110 : decode (xcode m_RD_join) 110 = .ok (.invokevirtual 79, 3) := by decide +kernel
theorem d_RD_join_113 : decode (xcode m_RD_join) 113 = .ok (.ireturn, 1) := by decide +kernel
theorem d_RD_copies_0 : decode (xcode m_RD_copies) 0 = .ok (.aload_n 0, 1) := by decide +kernel
theorem d_RD_copies_1 : decode (xcode m_RD_copies) 1 = .ok (.iload_n 1, 1) := by decide +kernel
theorem d_RD_copies_2 : decode (xcode m_RD_copies) 2 = .ok (.invokevirtual 56, 3) := by decide +kernel
theorem d_RD_copies_5 : decode (xcode m_RD_copies) 5 = .ok (.astore 4, 2) := by decide +kernel
theorem d_RD_copies_7 : decode (xcode m_RD_copies) 7 = .ok (.aload_n 0, 1) := by decide +kernel
theorem d_RD_copies_8 : decode (xcode m_RD_copies) 8 = .ok (.iload_n 3, 1) := by decide +kernel
theorem d_RD_copies_9 : decode (xcode m_RD_copies) 9 = .ok (.invokevirtual 56, 3) := by decide +kernel
theorem d_RD_copies_12 : decode (xcode m_RD_copies) 12 = .ok (.astore 5, 2) := by decide +kernel
theorem d_RD_copies_14 : decode (xcode m_RD_copies) 14 = .ok (.aload 4, 2) := by decide +kernel
theorem d_RD_copies_16 : decode (xcode m_RD_copies) 16 = .ok (.ifnull 12, 3) := by decide +kernel
theorem d_RD_copies_19 : decode (xcode m_RD_copies) 19 = .ok (.aload 5, 2) := by decide +kernel
theorem d_RD_copies_21 : decode (xcode m_RD_copies) 21 = .ok (.ifnull 7, 3) := by decide +kernel
theorem d_RD_copies_24 : decode (xcode m_RD_copies) 24 = .ok (.iload_n 2, 1) := by decide +kernel
theorem d_RD_copies_25 : decode (xcode m_RD_copies) 25 = .ok (.ifCond .ge 5, 3) := by decide +kernel
theorem d_RD_copies_28 : decode (xcode m_RD_copies) 28 = .ok (.iconst (-1), 1) := by decide +kernel
theorem d_RD_copies_29 : decode (xcode m_RD_copies) 29 = .ok (.ireturn, 1) := by decide +kernel
theorem d_RD_copies_30 : decode (xcode m_RD_copies) 30 = .ok (.aload 4, 2) := by decide +kernel
theorem d_RD_copies_32 : decode (xcode m_RD_copies) 32 = .ok (.invokevirtual 46, 3) := by decide +kernel
theorem d_RD_copies_35 : decode (xcode m_RD_copies) 35 = .ok (.i2l, 1) := by decide +kernel
theorem d_RD_copies_36 : decode (xcode m_RD_copies) 36 = .ok (.iload_n 2, 1) := by decide +kernel
theorem d_RD_copies_37 : decode (xcode m_RD_copies) 37 = .ok (.i2l, 1) := by decide +kernel
theorem d_RD_copies_38 : decode (xcode m_RD_copies) 38 = .ok (.lmul, 1) := by decide +kernel
theorem d_RD_copies_39 : decode (xcode m_RD_copies) 39 = .ok (.lstore 6, 2) := by decide +kernel
theorem d_RD_copies_41 : decode (xcode m_RD_copies) 41 = .ok (.lload 6, 2) := by decide +kernel
theorem d_RD_copies_43 : decode (xcode m_RD_copies) 43 = .ok (.ldc2_w 87, 3) := by decide +kernel
theorem d_RD_copies_46 : decode (xcode m_RD_copies) 46 = .ok (.lcmp, 1) := by decide +kernel
theorem d_RD_copies_47 : decode (xcode m_RD_copies) 47 = .ok (.ifCond .le 6, 3) := by decide +kernel
theorem d_RD_copies_50 : decode (xcode m_RD_copies) 50 = .ok (.bipush (-4), 2) := by decide +kernel
theorem d_RD_copies_52 : decode (xcode m_RD_copies) 52 = .ok (.ireturn, 1) := by decide +kernel
theorem d_RD_copies_53 : decode (xcode m_RD_copies) 53 = .ok (.aload_n 0, 1) := by decide +kernel
theorem d_RD_copies_54 : decode (xcode m_RD_copies) 54 = .ok (.getfield 22, 3) := by decide +kernel
theorem d_RD_copies_57 : decode (xcode m_RD_copies) 57 = .ok (.iconst 0, 1) := by decide +kernel
theorem d_RD_copies_58 : decode (xcode m_RD_copies) 58 = .ok (.invokevirtual 53, 3) := by decide +kernel
theorem d_RD_copies_61 : decode (xcode m_RD_copies) 61 = .ok (.iconst 0, 1) := by decide +kernel
theorem d_RD_copies_62 : decode (xcode m_RD_copies) 62 = .ok (.istore 8, 2) := by decide +kernel
theorem d_RD_copies_64 : decode (xcode m_RD_copies) 64 = .ok (.iload 8, 2) := by decide +kernel
theorem d_RD_copies_66 : decode (xcode m_RD_copies) 66 = .ok (.iload_n 2, 1) := by decide +kernel
theorem d_RD_copies_67 : decode (xcode m_RD_copies) 67 = .ok (.if_icmp .ge 32, 3) := by decide +kernel
theorem d_RD_copies_70 : decode (xcode m_RD_copies) 70 = .ok (.aload_n 0, 1) := by decide +kernel
theorem d_RD_copies_71 : decode (xcode m_RD_copies) 71 = .ok (.getfield 22, 3) := by decide +kernel
theorem d_RD_copies_74 : decode (xcode m_RD_copies) 74 = .ok (.invokevirtual 46, 3) := by decide +kernel
theorem d_RD_copies_77 : decode (xcode m_RD_copies) 77 = .ok (.i2l, 1) := by decide +kernel
theorem d_RD_copies_78 : decode (xcode m_RD_copies) 78 = .ok (.lload 6, 2) := by decide +kernel
theorem d_RD_copies_80 : decode (xcode m_RD_copies) 80 = .ok (.lcmp, 1) := by decide +kernel
theorem d_RD_copies_81 : decode (xcode m_RD_copies) 81 = .ok (.ifCond .ge 18, 3) := by decide +kernel
theorem d_RD_copies_84 : decode (xcode m_RD_copies) 84 = .ok (.aload_n 0, 1) := by decide +kernel
theorem d_RD_copies_85 : decode (xcode m_RD_copies) 85 = .ok (.getfield 22, 3) := by decide +kernel
theorem d_RD_copies_88 : decode (xcode m_RD_copies) 88 = .ok (.aload 4, 2) := by decide +kernel
theorem d_RD_copies_90 : decode (xcode m_RD_copies) 90 = .ok (.invokevirtual 89, 3) := by decide +kernel
theorem d_RD_copies_93 : decode (xcode m_RD_copies) 93 = .ok (.iinc 8 1, 3) := by decide +kernel
theorem d_RD_copies_96 : decode (xcode m_RD_copies) 96 = .ok (.goto (-32), 3) := by decide +kernel
theorem d_RD_copies_99 : decode (xcode m_RD_copies) 99 = .ok (.aload_n 0, 1) := by decide +kernel
theorem d_RD_copies_100 : decode (xcode m_RD_copies) 100 = .ok (.aload 5, 2) := by decide +kernel
theorem d_RD_copies_102 : decode (xcode m_RD_copies) 102 = .ok (.invokevirtual 79, 3) := by decide +kernel
theorem d_RD_copies_105 : decode (xcode m_RD_copies) 105 = .ok (.ireturn, 1) := by decide +kernel
theorem d_RD_set_0 : decode (xcode m_RD_set) 0 = .ok (.aload_n 0, 1) := by decide +kernel
theorem d_RD_set_1 : decode (xcode m_RD_set) 1 = .ok (.iload_n 1, 1) := by decide +kernel
theorem d_RD_set_2 : decode (xcode m_RD_set) 2 = .ok (.invokevirtual 56, 3) := by decide +kernel
theorem d_RD_set_5 : decode (xcode m_RD_set) 5 = .ok (.astore 6, 2) := by decide +kernel
theorem d_RD_set_7 : decode (xcode m_RD_set) 7 = .ok (.aload_n 0, 1) := by decide +kernel
theorem d_RD_set_8 : decode (xcode m_RD_set) 8 = .ok (.iload_n 2, 1) := by decide +kernel
theorem d_RD_set_9 : decode (xcode m_RD_set) 9 = .ok (.invokevirtual 56, 3) := by decide +kernel
theorem d_RD_set_12 : decode (xcode m_RD_set) 12 = .ok (.astore 7, 2) := by decide +kernel
theorem d_RD_set_14 : decode (xcode m_RD_set) 14 = .ok (.aload_n 0, 1) := by decide +kernel
theorem d_RD_set_15 : decode (xcode m_RD_set) 15 = .ok (.iload 5, 2) := by decide +kernel
theorem d_RD_set_17 : decode (xcode m_RD_set) 17 = .ok (.invokevirtual 56, 3) := by decide +kernel
theorem d_RD_set_20 : decode (xcode m_RD_set) 20 = .ok (.astore 8, 2) := by decide +kernel
theorem d_RD_set_22 : decode (xcode m_RD_set) 22 = .ok (.aload 6, 2) := by decide +kernel
theorem d_RD_set_24 : decode (xcode m_RD_set) 24 = .ok (.ifnull 17, 3) := by decide +kernel
theorem d_RD_set_27 : decode (xcode m_RD_set) 27 = .ok (.aload 7, 2) := by decide +kernel
theorem d_RD_set_29 : decode (xcode m_RD_set) 29 = .ok (.ifnull 12, 3) := by decide +kernel
theorem d_RD_set_32 : decode (xcode m_RD_set) 32 = .ok (.aload 8, 2) := by decide +kernel
theorem d_RD_set_34 : decode (xcode m_RD_set) 34 = .ok (.ifnull 7, 3) := by decide +kernel
theorem d_RD_set_37 : decode (xcode m_RD_set) 37 = .ok (.iload_n 3, 1) := by decide +kernel
theorem d_RD_set_38 : decode (xcode m_RD_set) 38 = .ok (.ifCond .ge 5, 3) := by decide +kernel
theorem d_RD_set_41 : decode (xcode m_RD_set) 41 = .ok (.iconst (-1), 1) := by decide +kernel
theorem d_RD_set_42 : decode (xcode m_RD_set) 42 = .ok (.ireturn, 1) := by decide +kernel
theorem d_RD_set_43 : decode (xcode m_RD_set) 43 = .ok (.iload_n 3, 1) := by decide +kernel
theorem d_RD_set_44 : decode (xcode m_RD_set) 44 = .ok (.i2l, 1) := by decide +kernel
theorem d_RD_set_45 : decode (xcode m_RD_set) 45 = .ok (.aload 6, 2) := by decide +kernel
theorem d_RD_set_47 : decode (xcode m_RD_set) 47 = .ok (.invokevirtual 46, 3) := by decide +kernel
theorem d_RD_set_50 : decode (xcode m_RD_set) 50 = .ok (.i2l, 1) := by decide +kernel
theorem d_RD_set_51 : decode (xcode m_RD_set) 51 = .ok (.ladd, 1) := by decide +kernel
theorem d_RD_set_52 : decode (xcode m_RD_set) 52 = .ok (.lstore 9, 2) := by decide +kernel
theorem d_RD_set_54 : decode (xcode m_RD_set) 54 = .ok (.iload 4, 2) := by decide +kernel
theorem d_RD_set_56 : decode (xcode m_RD_set) 56 = .ok (.ifCond .eq 17, 3) := by decide +kernel
theorem d_RD_set_59 : decode (xcode m_RD_set) 59 = .ok (.lload 9, 2) := by decide +kernel
theorem d_RD_set_61 : decode (xcode m_RD_set) 61 = .ok (.aload 7, 2) := by decide +kernel
theorem d_RD_set_63 : decode (xcode m_RD_set) 63 = .ok (.invokevirtual 46, 3) := by decide +kernel
theorem d_RD_set_66 : decode (xcode m_RD_set) 66 = .ok (.i2l, 1) := by decide +kernel
theorem d_RD_set_67 : decode (xcode m_RD_set) 67 = .ok (.invokestatic 92, 3) := by decide +kernel
theorem d_RD_set_70 : decode (xcode m_RD_set) 70 = .ok (.goto 20, 3) := by decide +kernel
theorem d_RD_set_73 : decode (xcode m_RD_set) 73 = .ok (.iload_n 3, 1) := by decide +kernel
theorem d_RD_set_74 : decode (xcode m_RD_set) 74 = .ok (.aload 7, 2) := by decide +kernel
theorem d_RD_set_76 : decode (xcode m_RD_set) 76 = .ok (.invokevirtual 46, 3) := by decide +kernel
theorem d_RD_set_79 : decode (xcode m_RD_set) 79 = .ok (.invokestatic 98, 3) := by decide +kernel
theorem d_RD_set_82 : decode (xcode m_RD_set) 82 = .ok (.i2l, 1) := by decide +kernel
theorem d_RD_set_83 : decode (xcode m_RD_set) 83 = .ok (.aload 6, 2) := by decide +kernel
theorem d_RD_set_85 : decode (xcode m_RD_set) 85 = .ok (.invokevirtual 46, 3) := by decide +kernel
theorem d_RD_set_88 : decode (xcode m_RD_set) 88 = .ok (.i2l, 1) := by decide +kernel
theorem d_RD_set_89 : decode (xcode m_RD_set) 89 = .ok (.ladd, 1) := by decide +kernel
theorem d_RD_set_90 : decode (xcode m_RD_set) 90 = .ok (.lstore 11, 2) := by decide +kernel
theorem d_RD_set_92 : decode (xcode m_RD_set) 92 = .ok (.lload 11, 2) := by decide +kernel
theorem d_RD_set_94 : decode (xcode m_RD_set) 94 = .ok (.ldc2_w 87, 3) := by decide +kernel
theorem d_RD_set_97 : decode (xcode m_RD_set) 97 = .ok (.lcmp, 1) := by decide +kernel
theorem d_RD_set_98 : decode (xcode m_RD_set) 98 = .ok (.ifCond .le 6, 3) := by decide +kernel
theorem d_RD_set_101 : decode (xcode m_RD_set) 101 = .ok (.bipush (-4), 2) := by decide +kernel
theorem d_RD_set_103 : decode (xcode m_RD_set) 103 = .ok (.ireturn, 1) := by decide +kernel
theorem d_RD_set_104 : decode (xcode m_RD_set) 104 = .ok (.aload_n 0, 1) := by decide +kernel
theorem d_RD_set_105 : decode (xcode m_RD_set) 105 = .ok (.getfield 22, 3) := by decide +kernel
theorem d_RD_set_108 : decode (xcode m_RD_set) 108 = .ok (.iconst 0, 1) := by decide +kernel
theorem d_RD_set_109 : decode (xcode m_RD_set) 109 = .ok (.invokevirtual 53, 3) := by decide +kernel
theorem d_RD_set_112 : decode (xcode m_RD_set) 112 = .ok (.aload_n 0, 1) := by decide +kernel
theorem d_RD_set_113 : decode (xcode m_RD_set) 113 = .ok (.getfield 22, 3) := by decide +kernel
theorem d_RD_set_116 : decode (xcode m_RD_set) 116 = .ok (.aload 7, 2) := by decide +kernel
theorem d_RD_set_118 : decode (xcode m_RD_set) 118 = .ok (.iconst 0, 1) := by decide +kernel
theorem d_RD_set_119 : decode (xcode m_RD_set) 119 = .ok (.iload_n 3, 1) := by decide +kernel
theorem d_RD_set_120 : decode (xcode m_RD_set) 120 = .ok (.invokevirtual 72, 3) := by decide +kernel
theorem d_RD_set_123 : decode (xcode m_RD_set) 123 = .ok (.aload_n 0, 1) := by decide +kernel
theorem d_RD_set_124 : decode (xcode m_RD_set) 124 = .ok (.getfield 22, 3) := by decide +kernel
theorem d_RD_set_127 : decode (xcode m_RD_set) 127 = .ok (.iload_n 3, 1) := by decide +kernel
theorem d_RD_set_128 : decode (xcode m_RD_set) 128 = .ok (.aload_n 0, 1) := by decide +kernel
theorem d_RD_set_129 : decode (xcode m_RD_set) 129 = .ok (.getfield 42, 3) := by decide +kernel
theorem d_RD_set_132 : decode (xcode m_RD_set) 132 = .ok (.invokevirtual 76, 3) := by decide +kernel
theorem d_RD_set_135 : decode (xcode m_RD_set) 135 = .ok (.aload_n 0, 1) := by decide +kernel
theorem d_RD_set_136 : decode (xcode m_RD_set) 136 = .ok (.getfield 22, 3) := by decide +kernel
theorem d_RD_set_139 : decode (xcode m_RD_set) 139 = .ok (.aload 6, 2) := by decide +kernel
theorem d_RD_set_141 : decode (xcode m_RD_set) 141 = .ok (.invokevirtual 89, 3) := by decide +kernel
theorem d_RD_set_144 : decode (xcode m_RD_set) 144 = .ok (.aload_n 0, 1) := by decide +kernel
theorem d_RD_set_145 : decode (xcode m_RD_set) 145 = .ok (.getfield 22, 3) := by decide +kernel
theorem d_RD_set_148 : decode (xcode m_RD_set) 148 = .ok (.aload 7, 2) := by decide +kernel
theorem d_RD_set_150 : decode (xcode m_RD_set) 150 = .ok (.iload 4, 2) := by decide +kernel
theorem d_RD_set_152 : decode (xcode m_RD_set) 152 = .ok (.ifCond .eq 13, 3) := by decide +kernel
theorem d_RD_set_155 : decode (xcode m_RD_set) 155 = .ok (.aload_n 0, 1) := by decide +kernel
theorem d_RD_set_156 : decode (xcode m_RD_set) 156 = .ok (.getfield 22, 3) := by decide +kernel
theorem d_RD_set_159 : decode (xcode m_RD_set) 159 = .ok (.invokevirtual 46, 3) := by decide +kernel
theorem d_RD_set_162 : decode (xcode m_RD_set) 162 = .ok (.goto 4, 3) := by decide +kernel
theorem d_RD_set_165 : decode (xcode m_RD_set) 165 = .ok (.iload_n 3, 1) := by decide +kernel
theorem d_RD_set_166 : decode (xcode m_RD_set) 166 = .ok (.aload 7, 2) := by decide +kernel
theorem d_RD_set_168 : decode (xcode m_RD_set) 168 = .ok (.invokevirtual 46, 3) := by decide +kernel
theorem d_RD_set_171 : decode (xcode m_RD_set) 171 = .ok (.invokevirtual 72, 3) := by decide +kernel
theorem d_RD_set_174 : decode (xcode m_RD_set) 174 = .ok (.aload_n 0, 1) := by decide +kernel
theorem d_RD_set_175 : decode (xcode m_RD_set) 175 = .ok (.aload 8, 2) := by decide +kernel
theorem d_RD_set_177 : decode (xcode m_RD_set) 177 = .ok (.invokevirtual 79, 3) := by decide +kernel
theorem d_RD_set_180 : decode (xcode m_RD_set) 180 = .ok (.ireturn, 1) := by decide +kernel
