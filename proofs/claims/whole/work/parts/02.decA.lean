theorem d_RW_init_0 : decode (xcode m_RW_init) 0 = .ok (.aload_n 0, 1) := by decide +kernel
theorem d_RW_init_1 : decode (xcode m_RW_init) 1 = .ok (.invokespecial 3, 3) := by decide +kernel
theorem d_RW_init_4 : decode (xcode m_RW_init) 4 = .ok (.aload_n 0, 1) := by decide +kernel
theorem d_RW_init_5 : decode (xcode m_RW_init) 5 = .ok (.iload_n 1, 1) := by decide +kernel
theorem d_RW_init_6 : decode (xcode m_RW_init) 6 = .ok (.iconst 0, 1) := by decide +kernel
theorem d_RW_init_7 : decode (xcode m_RW_init) 7 = .ok (.invokestatic 9, 3) := by decide +kernel
theorem d_RW_init_10 : decode (xcode m_RW_init) 10 = .ok (.newarray .int, 2) := by decide +kernel
theorem d_RW_init_12 : decode (xcode m_RW_init) 12 = .ok (.putfield 15, 3) := by decide +kernel
theorem d_RW_init_15 : decode (xcode m_RW_init) 15 = .ok (.aload_n 0, 1) := by decide +kernel
theorem d_RW_init_16 : decode (xcode m_RW_init) 16 = .ok (.iconst 0, 1) := by decide +kernel
theorem d_RW_init_17 : decode (xcode m_RW_init) 17 = .ok (.putfield 21, 3) := by decide +kernel
theorem d_RW_init_20 : decode (xcode m_RW_init) 20 = .ok (.return_, 1) := by decide +kernel
theorem d_WL_init_0 : decode (xcode m_WL_init) 0 = .ok (.aload_n 0, 1) := by decide +kernel
theorem d_WL_init_1 : decode (xcode m_WL_init) 1 = .ok (.invokespecial 3, 3) := by decide +kernel
theorem d_WL_init_4 : decode (xcode m_WL_init) 4 = .ok (.aload_n 0, 1) := by decide +kernel
theorem d_WL_init_5 : decode (xcode m_WL_init) 5 = .ok (.bipush 100, 2) := by decide +kernel
theorem d_WL_init_7 : decode (xcode m_WL_init) 7 = .ok (.newarray .int, 2) := by decide +kernel
theorem d_WL_init_9 : decode (xcode m_WL_init) 9 = .ok (.putfield 9, 3) := by decide +kernel
theorem d_WL_init_12 : decode (xcode m_WL_init) 12 = .ok (.aload_n 0, 1) := by decide +kernel
theorem d_WL_init_13 : decode (xcode m_WL_init) 13 = .ok (.bipush 100, 2) := by decide +kernel
theorem d_WL_init_15 : decode (xcode m_WL_init) 15 = .ok (.newarray .int, 2) := by decide +kernel
theorem d_WL_init_17 : decode (xcode m_WL_init) 17 = .ok (.putfield 15, 3) := by decide +kernel
theorem d_WL_init_20 : decode (xcode m_WL_init) 20 = .ok (.aload_n 0, 1) := by decide +kernel
theorem d_WL_init_21 : decode (xcode m_WL_init) 21 = .ok (.bipush 100, 2) := by decide +kernel
theorem d_WL_init_23 : decode (xcode m_WL_init) 23 = .ok (.newarray .int, 2) := by decide +kernel
theorem d_WL_init_25 : decode (xcode m_WL_init) 25 = .ok (.putfield 18, 3) := by decide +kernel
theorem d_WL_init_28 : decode (xcode m_WL_init) 28 = .ok (.aload_n 0, 1) := by decide +kernel
theorem d_WL_init_29 : decode (xcode m_WL_init) 29 = .ok (.iconst 0, 1) := by decide +kernel
theorem d_WL_init_30 : decode (xcode m_WL_init) 30 = .ok (.putfield 21, 3) := by decide +kernel
theorem d_WL_init_33 : decode (xcode m_WL_init) 33 = .ok (.aload_n 0, 1) := by decide +kernel
theorem d_WL_init_34 : decode (xcode m_WL_init) 34 = .ok (.iconst 0, 1) := by decide +kernel
theorem d_WL_init_35 : decode (xcode m_WL_init) 35 = .ok (.putfield 25, 3) := by decide +kernel
theorem d_WL_init_38 : decode (xcode m_WL_init) 38 = .ok (.return_, 1) := by decide +kernel
theorem d_BT_init_0 : decode (xcode m_BT_init) 0 = .ok (.aload_n 0, 1) := by decide +kernel
theorem d_BT_init_1 : decode (xcode m_BT_init) 1 = .ok (.invokespecial 3, 3) := by decide +kernel
theorem d_BT_init_4 : decode (xcode m_BT_init) 4 = .ok (.aload_n 0, 1) := by decide +kernel
theorem d_BT_init_5 : decode (xcode m_BT_init) 5 = .ok (.sipush 256, 3) := by decide +kernel
theorem d_BT_init_8 : decode (xcode m_BT_init) 8 = .ok (.newarray .int, 2) := by decide +kernel
theorem d_BT_init_10 : decode (xcode m_BT_init) 10 = .ok (.putfield 9, 3) := by decide +kernel
theorem d_BT_init_13 : decode (xcode m_BT_init) 13 = .ok (.return_, 1) := by decide +kernel
theorem d_RW_length_0 : decode (xcode m_RW_length) 0 = .ok (.aload_n 0, 1) := by decide +kernel
theorem d_RW_length_1 : decode (xcode m_RW_length) 1 = .ok (.getfield 21, 3) := by decide +kernel
theorem d_RW_length_4 : decode (xcode m_RW_length) 4 = .ok (.ireturn, 1) := by decide +kernel
theorem d_RW_addFourBytes_0 : decode (xcode m_RW_addFourBytes) 0 = .ok (.bipush 24, 2) := by decide +kernel
theorem d_RW_addFourBytes_2 : decode (xcode m_RW_addFourBytes) 2 = .ok (.istore_n 2, 1) := by decide +kernel
theorem d_RW_addFourBytes_3 : decode (xcode m_RW_addFourBytes) 3 = .ok (.iload_n 2, 1) := by decide +kernel
theorem d_RW_addFourBytes_4 : decode (xcode m_RW_addFourBytes) 4 = .ok (.ifCond .lt 20, 3) := by decide +kernel
theorem d_RW_addFourBytes_7 : decode (xcode m_RW_addFourBytes) 7 = .ok (.aload_n 0, 1) := by decide +kernel
theorem d_RW_addFourBytes_8 : decode (xcode m_RW_addFourBytes) 8 = .ok (.iload_n 1, 1) := by decide +kernel
theorem d_RW_addFourBytes_9 : decode (xcode m_RW_addFourBytes) 9 = .ok (.iload_n 2, 1) := by decide +kernel
theorem d_RW_addFourBytes_10 : decode (xcode m_RW_addFourBytes) 10 = .ok (.ishr, 1) := by decide +kernel
theorem d_RW_addFourBytes_11 : decode (xcode m_RW_addFourBytes) 11 = .ok (.sipush 255, 3) := by decide +kernel
theorem d_RW_addFourBytes_14 : decode (xcode m_RW_addFourBytes) 14 = .ok (.iand, 1) := by decide +kernel
theorem d_RW_addFourBytes_15 : decode (xcode m_RW_addFourBytes) 15 = .ok (.invokevirtual 25, 3) := by decide +kernel
theorem d_RW_addFourBytes_18 : decode (xcode m_RW_addFourBytes) 18 = .ok (.iinc 2 (-8), 3) := by decide +kernel
theorem d_RW_addFourBytes_21 : decode (xcode m_RW_addFourBytes) 21 = .ok (.goto (-18), 3) := by decide +kernel
theorem d_RW_addFourBytes_24 : decode (xcode m_RW_addFourBytes) 24 = .ok (.return_, 1) := by decide +kernel
theorem d_RW_add_0 : decode (xcode m_RW_add) 0 = .ok (.aload_n 0, 1) := by decide +kernel
theorem d_RW_add_1 : decode (xcode m_RW_add) 1 = .ok (.getfield 21, 3) := by decide +kernel
theorem d_RW_add_4 : decode (xcode m_RW_add) 4 = .ok (.aload_n 0, 1) := by decide +kernel
theorem d_RW_add_5 : decode (xcode m_RW_add) 5 = .ok (.getfield 15, 3) := by decide +kernel
theorem d_RW_add_8 : decode (xcode m_RW_add) 8 = .ok (.arraylength, 1) := by decide +kernel
theorem d_RW_add_9 : decode (xcode m_RW_add) 9 = .ok (.if_icmp .ge 23, 3) := by decide +kernel
theorem d_RW_add_12 : decode (xcode m_RW_add) 12 = .ok (.aload_n 0, 1) := by decide +kernel
theorem d_RW_add_13 : decode (xcode m_RW_add) 13 = .ok (.getfield 15, 3) := by decide +kernel
theorem d_RW_add_16 : decode (xcode m_RW_add) 16 = .ok (.aload_n 0, 1) := by decide +kernel
theorem d_RW_add_17 : decode (xcode m_RW_add) 17 = .ok (.getfield 21, 3) := by decide +kernel
theorem d_RW_add_20 : decode (xcode m_RW_add) 20 = .ok (.iload_n 1, 1) := by decide +kernel
theorem d_RW_add_21 : decode (xcode m_RW_add) 21 = .ok (.iastore, 1) := by decide +kernel
theorem d_RW_add_22 : decode (xcode m_RW_add) 22 = .ok (.aload_n 0, 1) := by decide +kernel
theorem d_RW_add_23 : decode (xcode m_RW_add) 23 = .ok (.dup, 1) := by decide +kernel
theorem d_RW_add_24 : decode (xcode m_RW_add) 24 = .ok (.getfield 21, 3) := by decide +kernel
theorem d_RW_add_27 : decode (xcode m_RW_add) 27 = .ok (.iconst 1, 1) := by decide +kernel
theorem d_RW_add_28 : decode (xcode m_RW_add) 28 = .ok (.iadd, 1) := by decide +kernel
theorem d_RW_add_29 : decode (xcode m_RW_add) 29 = .ok (.putfield 21, 3) := by decide +kernel
theorem d_RW_add_32 : decode (xcode m_RW_add) 32 = .ok (.return_, 1) := by decide +kernel
theorem d_RW_shortenTo_0 : decode (xcode m_RW_shortenTo) 0 = .ok (.iload_n 1, 1) := by decide +kernel
theorem d_RW_shortenTo_1 : decode (xcode m_RW_shortenTo) 1 = .ok (.ifCond .lt 16, 3) := by decide +kernel
theorem d_RW_shortenTo_4 : decode (xcode m_RW_shortenTo) 4 = .ok (.iload_n 1, 1) := by decide +kernel
theorem d_RW_shortenTo_5 : decode (xcode m_RW_shortenTo) 5 = .ok (.aload_n 0, 1) := by decide +kernel
theorem d_RW_shortenTo_6 : decode (xcode m_RW_shortenTo) 6 = .ok (.getfield 21, 3) := by decide +kernel
theorem d_RW_shortenTo_9 : decode (xcode m_RW_shortenTo) 9 = .ok (.if_icmp .ge 8, 3) := by decide +kernel
theorem d_RW_shortenTo_12 : decode (xcode m_RW_shortenTo) 12 = .ok (.aload_n 0, 1) := by decide +kernel
theorem d_RW_shortenTo_13 : decode (xcode m_RW_shortenTo) 13 = .ok (.iload_n 1, 1) := by decide +kernel
theorem d_RW_shortenTo_14 : decode (xcode m_RW_shortenTo) 14 = .ok (.putfield 21, 3) := by decide +kernel
theorem d_RW_shortenTo_17 : decode (xcode m_RW_shortenTo) 17 = .ok (.return_, 1) := by decide +kernel
theorem d_RW_become_0 : decode (xcode m_RW_become) 0 = .ok (.aload_n 0, 1) := by decide +kernel
theorem d_RW_become_1 : decode (xcode m_RW_become) 1 = .ok (.iconst 0, 1) := by decide +kernel
theorem d_RW_become_2 : decode (xcode m_RW_become) 2 = .ok (.putfield 21, 3) := by decide +kernel
theorem d_RW_become_5 : decode (xcode m_RW_become) 5 = .ok (.aload_n 0, 1) := by decide +kernel
theorem d_RW_become_6 : decode (xcode m_RW_become) 6 = .ok (.aload_n 1, 1) := by decide +kernel
theorem d_RW_become_7 : decode (xcode m_RW_become) 7 = .ok (.invokevirtual 36, 3) := by decide +kernel
theorem d_RW_become_10 : decode (xcode m_RW_become) 10 = .ok (.return_, 1) := by decide +kernel
theorem d_RW_addRow_0 : decode (xcode m_RW_addRow) 0 = .ok (.aload_n 0, 1) := by decide +kernel
theorem d_RW_addRow_1 : decode (xcode m_RW_addRow) 1 = .ok (.aload_n 1, 1) := by decide +kernel
theorem d_RW_addRow_2 : decode (xcode m_RW_addRow) 2 = .ok (.iconst 0, 1) := by decide +kernel
theorem d_RW_addRow_3 : decode (xcode m_RW_addRow) 3 = .ok (.aload_n 1, 1) := by decide +kernel
theorem d_RW_addRow_4 : decode (xcode m_RW_addRow) 4 = .ok (.getfield 21, 3) := by decide +kernel
theorem d_RW_addRow_7 : decode (xcode m_RW_addRow) 7 = .ok (.invokevirtual 32, 3) := by decide +kernel
theorem d_RW_addRow_10 : decode (xcode m_RW_addRow) 10 = .ok (.return_, 1) := by decide +kernel
theorem d_RW_addRange_0 : decode (xcode m_RW_addRange) 0 = .ok (.iload_n 3, 1) := by decide +kernel
theorem d_RW_addRange_1 : decode (xcode m_RW_addRange) 1 = .ok (.aload_n 1, 1) := by decide +kernel
theorem d_RW_addRange_2 : decode (xcode m_RW_addRange) 2 = .ok (.getfield 21, 3) := by decide +kernel
theorem d_RW_addRange_5 : decode (xcode m_RW_addRange) 5 = .ok (.invokestatic 29, 3) := by decide +kernel
theorem d_RW_addRange_8 : decode (xcode m_RW_addRange) 8 = .ok (.istore 4, 2) := by decide +kernel
theorem d_RW_addRange_10 : decode (xcode m_RW_addRange) 10 = .ok (.iload_n 2, 1) := by decide +kernel
theorem d_RW_addRange_11 : decode (xcode m_RW_addRange) 11 = .ok (.iconst 0, 1) := by decide +kernel
theorem d_RW_addRange_12 : decode (xcode m_RW_addRange) 12 = .ok (.invokestatic 9, 3) := by decide +kernel
theorem d_RW_addRange_15 : decode (xcode m_RW_addRange) 15 = .ok (.istore 5, 2) := by decide +kernel
theorem d_RW_addRange_17 : decode (xcode m_RW_addRange) 17 = .ok (.iload 5, 2) := by decide +kernel
theorem d_RW_addRange_19 : decode (xcode m_RW_addRange) 19 = .ok (.iload 4, 2) := by decide +kernel
theorem d_RW_addRange_21 : decode (xcode m_RW_addRange) 21 = .ok (.if_icmp .ge 20, 3) := by decide +kernel
theorem d_RW_addRange_24 : decode (xcode m_RW_addRange) 24 = .ok (.aload_n 0, 1) := by decide +kernel
theorem d_RW_addRange_25 : decode (xcode m_RW_addRange) 25 = .ok (.aload_n 1, 1) := by decide +kernel
theorem d_RW_addRange_26 : decode (xcode m_RW_addRange) 26 = .ok (.getfield 15, 3) := by decide +kernel
theorem d_RW_addRange_29 : decode (xcode m_RW_addRange) 29 = .ok (.iload 5, 2) := by decide +kernel
theorem d_RW_addRange_31 : decode (xcode m_RW_addRange) 31 = .ok (.iaload, 1) := by decide +kernel
theorem d_RW_addRange_32 : decode (xcode m_RW_addRange) 32 = .ok (.invokevirtual 25, 3) := by decide +kernel
theorem d_RW_addRange_35 : decode (xcode m_RW_addRange) 35 = .ok (.iinc 5 1, 3) := by decide +kernel
theorem d_RW_addRange_38 : decode (xcode m_RW_addRange) 38 = .ok (.goto (-21), 3) := by decide +kernel
theorem d_RW_addRange_41 : decode (xcode m_RW_addRange) 41 = .ok (.return_, 1) := by decide +kernel
theorem d_RW_byteOr_0 : decode (xcode m_RW_byteOr) 0 = .ok (.iload_n 1, 1) := by decide +kernel
theorem d_RW_byteOr_1 : decode (xcode m_RW_byteOr) 1 = .ok (.ifCond .lt 20, 3) := by decide +kernel
theorem d_RW_byteOr_4 : decode (xcode m_RW_byteOr) 4 = .ok (.iload_n 1, 1) := by decide +kernel
theorem d_RW_byteOr_5 : decode (xcode m_RW_byteOr) 5 = .ok (.aload_n 0, 1) := by decide +kernel
theorem d_RW_byteOr_6 : decode (xcode m_RW_byteOr) 6 = .ok (.getfield 21, 3) := by decide +kernel
theorem d_RW_byteOr_9 : decode (xcode m_RW_byteOr) 9 = .ok (.if_icmp .ge 12, 3) := by decide +kernel
theorem d_RW_byteOr_12 : decode (xcode m_RW_byteOr) 12 = .ok (.aload_n 0, 1) := by decide +kernel
theorem d_RW_byteOr_13 : decode (xcode m_RW_byteOr) 13 = .ok (.getfield 15, 3) := by decide +kernel
theorem d_RW_byteOr_16 : decode (xcode m_RW_byteOr) 16 = .ok (.iload_n 1, 1) := by decide +kernel
theorem d_RW_byteOr_17 : decode (xcode m_RW_byteOr) 17 = .ok (.iaload, 1) := by decide +kernel
theorem d_RW_byteOr_18 : decode (xcode m_RW_byteOr) 18 = .ok (.goto 4, 3) := by decide +kernel
theorem d_RW_byteOr_21 : decode (xcode m_RW_byteOr) 21 = .ok (.iload_n 2, 1) := by decide +kernel
theorem d_RW_byteOr_22 : decode (xcode m_RW_byteOr) 22 = .ok (.ireturn, 1) := by decide +kernel
theorem d_RW_addTimes_0 : decode (xcode m_RW_addTimes) 0 = .ok (.iconst 0, 1) := by decide +kernel
theorem d_RW_addTimes_1 : decode (xcode m_RW_addTimes) 1 = .ok (.istore_n 3, 1) := by decide +kernel
theorem d_RW_addTimes_2 : decode (xcode m_RW_addTimes) 2 = .ok (.iload_n 3, 1) := by decide +kernel
theorem d_RW_addTimes_3 : decode (xcode m_RW_addTimes) 3 = .ok (.iload_n 2, 1) := by decide +kernel
theorem d_RW_addTimes_4 : decode (xcode m_RW_addTimes) 4 = .ok (.if_icmp .ge 14, 3) := by decide +kernel
theorem d_RW_addTimes_7 : decode (xcode m_RW_addTimes) 7 = .ok (.aload_n 0, 1) := by decide +kernel
theorem d_RW_addTimes_8 : decode (xcode m_RW_addTimes) 8 = .ok (.iload_n 1, 1) := by decide +kernel
theorem d_RW_addTimes_9 : decode (xcode m_RW_addTimes) 9 = .ok (.invokevirtual 25, 3) := by decide +kernel
theorem d_RW_addTimes_12 : decode (xcode m_RW_addTimes) 12 = .ok (.iinc 3 1, 3) := by decide +kernel
theorem d_RW_addTimes_15 : decode (xcode m_RW_addTimes) 15 = .ok (.goto (-13), 3) := by decide +kernel
theorem d_RW_addTimes_18 : decode (xcode m_RW_addTimes) 18 = .ok (.return_, 1) := by decide +kernel
theorem d_RW_lengthenTo_0 : decode (xcode m_RW_lengthenTo) 0 = .ok (.aload_n 0, 1) := by decide +kernel
theorem d_RW_lengthenTo_1 : decode (xcode m_RW_lengthenTo) 1 = .ok (.iload_n 2, 1) := by decide +kernel
theorem d_RW_lengthenTo_2 : decode (xcode m_RW_lengthenTo) 2 = .ok (.iload_n 1, 1) := by decide +kernel
theorem d_RW_lengthenTo_3 : decode (xcode m_RW_lengthenTo) 3 = .ok (.aload_n 0, 1) := by decide +kernel
theorem d_RW_lengthenTo_4 : decode (xcode m_RW_lengthenTo) 4 = .ok (.getfield 21, 3) := by decide +kernel
theorem d_RW_lengthenTo_7 : decode (xcode m_RW_lengthenTo) 7 = .ok (.isub, 1) := by decide +kernel
theorem d_RW_lengthenTo_8 : decode (xcode m_RW_lengthenTo) 8 = .ok (.invokevirtual 40, 3) := by decide +kernel
theorem d_RW_lengthenTo_11 : decode (xcode m_RW_lengthenTo) 11 = .ok (.return_, 1) := by decide +kernel
theorem d_RW_hasAt_0 : decode (xcode m_RW_hasAt) 0 = .ok (.aload_n 2, 1) := by decide +kernel
theorem d_RW_hasAt_1 : decode (xcode m_RW_hasAt) 1 = .ok (.getfield 21, 3) := by decide +kernel
theorem d_RW_hasAt_4 : decode (xcode m_RW_hasAt) 4 = .ok (.ifCond .le 21, 3) := by decide +kernel
theorem d_RW_hasAt_7 : decode (xcode m_RW_hasAt) 7 = .ok (.aload_n 0, 1) := by decide +kernel
theorem d_RW_hasAt_8 : decode (xcode m_RW_hasAt) 8 = .ok (.iload_n 1, 1) := by decide +kernel
theorem d_RW_hasAt_9 : decode (xcode m_RW_hasAt) 9 = .ok (.aload_n 2, 1) := by decide +kernel
theorem d_RW_hasAt_10 : decode (xcode m_RW_hasAt) 10 = .ok (.iconst 0, 1) := by decide +kernel
theorem d_RW_hasAt_11 : decode (xcode m_RW_hasAt) 11 = .ok (.aload_n 2, 1) := by decide +kernel
theorem d_RW_hasAt_12 : decode (xcode m_RW_hasAt) 12 = .ok (.getfield 21, 3) := by decide +kernel
theorem d_RW_hasAt_15 : decode (xcode m_RW_hasAt) 15 = .ok (.invokevirtual 44, 3) := by decide +kernel
theorem d_RW_hasAt_18 : decode (xcode m_RW_hasAt) 18 = .ok (.ifCond .eq 7, 3) := by decide +kernel
theorem d_RW_hasAt_21 : decode (xcode m_RW_hasAt) 21 = .ok (.iconst 1, 1) := by decide +kernel
theorem d_RW_hasAt_22 : decode (xcode m_RW_hasAt) 22 = .ok (.goto 4, 3) := by decide +kernel
theorem d_RW_hasAt_25 : decode (xcode m_RW_hasAt) 25 = .ok (.iconst 0, 1) := by decide +kernel
theorem d_RW_hasAt_26 : decode (xcode m_RW_hasAt) 26 = .ok (.ireturn, 1) := by decide +kernel
theorem d_RW_hasRangeAt_0 : decode (xcode m_RW_hasRangeAt) 0 = .ok (.iload_n 1, 1) := by decide +kernel
theorem d_RW_hasRangeAt_1 : decode (xcode m_RW_hasRangeAt) 1 = .ok (.ifCond .lt 14, 3) := by decide +kernel
theorem d_RW_hasRangeAt_4 : decode (xcode m_RW_hasRangeAt) 4 = .ok (.iload 4, 2) := by decide +kernel
theorem d_RW_hasRangeAt_6 : decode (xcode m_RW_hasRangeAt) 6 = .ok (.aload_n 0, 1) := by decide +kernel
theorem d_RW_hasRangeAt_7 : decode (xcode m_RW_hasRangeAt) 7 = .ok (.getfield 21, 3) := by decide +kernel
theorem d_RW_hasRangeAt_10 : decode (xcode m_RW_hasRangeAt) 10 = .ok (.iload_n 1, 1) := by decide +kernel
theorem d_RW_hasRangeAt_11 : decode (xcode m_RW_hasRangeAt) 11 = .ok (.isub, 1) := by decide +kernel
theorem d_RW_hasRangeAt_12 : decode (xcode m_RW_hasRangeAt) 12 = .ok (.if_icmp .le 5, 3) := by decide +kernel
theorem d_RW_hasRangeAt_15 : decode (xcode m_RW_hasRangeAt) 15 = .ok (.iconst 0, 1) := by decide +kernel
theorem d_RW_hasRangeAt_16 : decode (xcode m_RW_hasRangeAt) 16 = .ok (.ireturn, 1) := by decide +kernel
theorem d_RW_hasRangeAt_17 : decode (xcode m_RW_hasRangeAt) 17 = .ok (.iconst 0, 1) := by decide +kernel
theorem d_RW_hasRangeAt_18 : decode (xcode m_RW_hasRangeAt) 18 = .ok (.istore 5, 2) := by decide +kernel
theorem d_RW_hasRangeAt_20 : decode (xcode m_RW_hasRangeAt) 20 = .ok (.iload 5, 2) := by decide +kernel
theorem d_RW_hasRangeAt_22 : decode (xcode m_RW_hasRangeAt) 22 = .ok (.iload 4, 2) := by decide +kernel
theorem d_RW_hasRangeAt_24 : decode (xcode m_RW_hasRangeAt) 24 = .ok (.if_icmp .ge 32, 3) := by decide +kernel
theorem d_RW_hasRangeAt_27 : decode (xcode m_RW_hasRangeAt) 27 = .ok (.aload_n 0, 1) := by decide +kernel
theorem d_RW_hasRangeAt_28 : decode (xcode m_RW_hasRangeAt) 28 = .ok (.iload_n 1, 1) := by decide +kernel
theorem d_RW_hasRangeAt_29 : decode (xcode m_RW_hasRangeAt) 29 = .ok (.iload 5, 2) := by decide +kernel
theorem d_RW_hasRangeAt_31 : decode (xcode m_RW_hasRangeAt) 31 = .ok (.iadd, 1) := by decide +kernel
theorem d_RW_hasRangeAt_32 : decode (xcode m_RW_hasRangeAt) 32 = .ok (.iconst (-1), 1) := by decide +kernel
theorem d_RW_hasRangeAt_33 : decode (xcode m_RW_hasRangeAt) 33 = .ok (.invokevirtual 48, 3) := by decide +kernel
theorem d_RW_hasRangeAt_36 : decode (xcode m_RW_hasRangeAt) 36 = .ok (.aload_n 2, 1) := by decide +kernel
theorem d_RW_hasRangeAt_37 : decode (xcode m_RW_hasRangeAt) 37 = .ok (.iload_n 3, 1) := by decide +kernel
theorem d_RW_hasRangeAt_38 : decode (xcode m_RW_hasRangeAt) 38 = .ok (.iload 5, 2) := by decide +kernel
theorem d_RW_hasRangeAt_40 : decode (xcode m_RW_hasRangeAt) 40 = .ok (.iadd, 1) := by decide +kernel
theorem d_RW_hasRangeAt_41 : decode (xcode m_RW_hasRangeAt) 41 = .ok (.iconst (-1), 1) := by decide +kernel
theorem d_RW_hasRangeAt_42 : decode (xcode m_RW_hasRangeAt) 42 = .ok (.invokevirtual 48, 3) := by decide +kernel
theorem d_RW_hasRangeAt_45 : decode (xcode m_RW_hasRangeAt) 45 = .ok (.if_icmp .eq 5, 3) := by decide +kernel
theorem d_RW_hasRangeAt_48 : decode (xcode m_RW_hasRangeAt) 48 = .ok (.iconst 0, 1) := by decide +kernel
theorem d_RW_hasRangeAt_49 : decode (xcode m_RW_hasRangeAt) 49 = .ok (.ireturn, 1) := by decide +kernel
theorem d_RW_hasRangeAt_50 : decode (xcode m_RW_hasRangeAt) 50 = .ok (.iinc 5 1, 3) := by decide +kernel
theorem d_RW_hasRangeAt_53 : decode (xcode m_RW_hasRangeAt) 53 = .ok (.goto (-33), 3) := by decide +kernel
theorem d_RW_hasRangeAt_56 : decode (xcode m_RW_hasRangeAt) 56 = .ok (.iconst 1, 1) := by decide +kernel
theorem d_RW_hasRangeAt_57 : decode (xcode m_RW_hasRangeAt) 57 = .ok (.ireturn, 1) := by decide +kernel
theorem d_BT_setAll_0 : decode (xcode m_BT_setAll) 0 = .ok (.iconst 0, 1) := by decide +kernel
theorem d_BT_setAll_1 : decode (xcode m_BT_setAll) 1 = .ok (.istore_n 2, 1) := by decide +kernel
theorem d_BT_setAll_2 : decode (xcode m_BT_setAll) 2 = .ok (.iload_n 2, 1) := by decide +kernel
theorem d_BT_setAll_3 : decode (xcode m_BT_setAll) 3 = .ok (.sipush 256, 3) := by decide +kernel
theorem d_BT_setAll_6 : decode (xcode m_BT_setAll) 6 = .ok (.if_icmp .ge 16, 3) := by decide +kernel
theorem d_BT_setAll_9 : decode (xcode m_BT_setAll) 9 = .ok (.aload_n 0, 1) := by decide +kernel
theorem d_BT_setAll_10 : decode (xcode m_BT_setAll) 10 = .ok (.getfield 9, 3) := by decide +kernel
theorem d_BT_setAll_13 : decode (xcode m_BT_setAll) 13 = .ok (.iload_n 2, 1) := by decide +kernel
theorem d_BT_setAll_14 : decode (xcode m_BT_setAll) 14 = .ok (.iload_n 1, 1) := by decide +kernel
theorem d_BT_setAll_15 : decode (xcode m_BT_setAll) 15 = .ok (.iastore, 1) := by decide +kernel
theorem d_BT_setAll_16 : decode (xcode m_BT_setAll) 16 = .ok (.iinc 2 1, 3) := by decide +kernel
theorem d_BT_setAll_19 : decode (xcode m_BT_setAll) 19 = .ok (.goto (-17), 3) := by decide +kernel
theorem d_BT_setAll_22 : decode (xcode m_BT_setAll) 22 = .ok (.return_, 1) := by decide +kernel
theorem d_BT_noted_0 : decode (xcode m_BT_noted) 0 = .ok (.iload_n 1, 1) := by decide +kernel
theorem d_BT_noted_1 : decode (xcode m_BT_noted) 1 = .ok (.ifCond .lt 19, 3) := by decide +kernel
theorem d_BT_noted_4 : decode (xcode m_BT_noted) 4 = .ok (.iload_n 1, 1) := by decide +kernel
theorem d_BT_noted_5 : decode (xcode m_BT_noted) 5 = .ok (.sipush 256, 3) := by decide +kernel
theorem d_BT_noted_8 : decode (xcode m_BT_noted) 8 = .ok (.if_icmp .ge 12, 3) := by decide +kernel
theorem d_BT_noted_11 : decode (xcode m_BT_noted) 11 = .ok (.aload_n 0, 1) := by decide +kernel
theorem d_BT_noted_12 : decode (xcode m_BT_noted) 12 = .ok (.getfield 9, 3) := by decide +kernel
theorem d_BT_noted_15 : decode (xcode m_BT_noted) 15 = .ok (.iload_n 1, 1) := by decide +kernel
theorem d_BT_noted_16 : decode (xcode m_BT_noted) 16 = .ok (.iaload, 1) := by decide +kernel
theorem d_BT_noted_17 : decode (xcode m_BT_noted) 17 = .ok (.goto 4, 3) := by decide +kernel
theorem d_BT_noted_20 : decode (xcode m_BT_noted) 20 = .ok (.iconst (-1), 1) := by decide +kernel
theorem d_BT_noted_21 : decode (xcode m_BT_noted) 21 = .ok (.ireturn, 1) := by decide +kernel
theorem d_BT_note_0 : decode (xcode m_BT_note) 0 = .ok (.iload_n 1, 1) := by decide +kernel
theorem d_BT_note_1 : decode (xcode m_BT_note) 1 = .ok (.ifCond .lt 17, 3) := by decide +kernel
theorem d_BT_note_4 : decode (xcode m_BT_note) 4 = .ok (.iload_n 1, 1) := by decide +kernel
theorem d_BT_note_5 : decode (xcode m_BT_note) 5 = .ok (.sipush 256, 3) := by decide +kernel
theorem d_BT_note_8 : decode (xcode m_BT_note) 8 = .ok (.if_icmp .ge 10, 3) := by decide +kernel
theorem d_BT_note_11 : decode (xcode m_BT_note) 11 = .ok (.aload_n 0, 1) := by decide +kernel
theorem d_BT_note_12 : decode (xcode m_BT_note) 12 = .ok (.getfield 9, 3) := by decide +kernel
theorem d_BT_note_15 : decode (xcode m_BT_note) 15 = .ok (.iload_n 1, 1) := by decide +kernel
theorem d_BT_note_16 : decode (xcode m_BT_note) 16 = .ok (.iload_n 2, 1) := by decide +kernel
theorem d_BT_note_17 : decode (xcode m_BT_note) 17 = .ok (.iastore, 1) := by decide +kernel
theorem d_BT_note_18 : decode (xcode m_BT_note) 18 = .ok (.return_, 1) := by decide +kernel
theorem d_WL_read_0 : decode (xcode m_WL_read) 0 = .ok (.aload_n 0, 1) := by decide +kernel
theorem d_WL_read_1 : decode (xcode m_WL_read) 1 = .ok (.iconst 0, 1) := by decide +kernel
theorem d_WL_read_2 : decode (xcode m_WL_read) 2 = .ok (.putfield 21, 3) := by decide +kernel
theorem d_WL_read_5 : decode (xcode m_WL_read) 5 = .ok (.aload_n 0, 1) := by decide +kernel
theorem d_WL_read_6 : decode (xcode m_WL_read) 6 = .ok (.aload_n 1, 1) := by decide +kernel
theorem d_WL_read_7 : decode (xcode m_WL_read) 7 = .ok (.invokevirtual 28, 3) := by decide +kernel
theorem d_WL_read_10 : decode (xcode m_WL_read) 10 = .ok (.putfield 25, 3) := by decide +kernel
theorem d_WL_read_13 : decode (xcode m_WL_read) 13 = .ok (.iconst (-1), 1) := by decide +kernel
theorem d_WL_read_14 : decode (xcode m_WL_read) 14 = .ok (.istore_n 2, 1) := by decide +kernel
theorem d_WL_read_15 : decode (xcode m_WL_read) 15 = .ok (.iconst 0, 1) := by decide +kernel
theorem d_WL_read_16 : decode (xcode m_WL_read) 16 = .ok (.istore_n 3, 1) := by decide +kernel
theorem d_WL_read_17 : decode (xcode m_WL_read) 17 = .ok (.iload_n 3, 1) := by decide +kernel
theorem d_WL_read_18 : decode (xcode m_WL_read) 18 = .ok (.aload_n 0, 1) := by decide +kernel
theorem d_WL_read_19 : decode (xcode m_WL_read) 19 = .ok (.getfield 25, 3) := by decide +kernel
theorem d_WL_read_22 : decode (xcode m_WL_read) 22 = .ok (.if_icmp .gt 61, 3) := by decide +kernel
theorem d_WL_read_25 : decode (xcode m_WL_read) 25 = .ok (.aload_n 1, 1) := by decide +kernel
theorem d_WL_read_26 : decode (xcode m_WL_read) 26 = .ok (.iload_n 3, 1) := by decide +kernel
theorem d_WL_read_27 : decode (xcode m_WL_read) 27 = .ok (.bipush 32, 2) := by decide +kernel
theorem d_WL_read_29 : decode (xcode m_WL_read) 29 = .ok (.invokevirtual 34, 3) := by decide +kernel
theorem d_WL_read_32 : decode (xcode m_WL_read) 32 = .ok (.bipush 32, 2) := by decide +kernel
theorem d_WL_read_34 : decode (xcode m_WL_read) 34 = .ok (.if_icmp .eq 7, 3) := by decide +kernel
theorem d_WL_read_37 : decode (xcode m_WL_read) 37 = .ok (.iconst 1, 1) := by decide +kernel
theorem d_WL_read_38 : decode (xcode m_WL_read) 38 = .ok (.goto 4, 3) := by decide +kernel
theorem d_WL_read_41 : decode (xcode m_WL_read) 41 = .ok (.iconst 0, 1) := by decide +kernel
theorem d_WL_read_42 : decode (xcode m_WL_read) 42 = .ok (.istore 4, 2) := by decide +kernel
theorem d_WL_read_44 : decode (xcode m_WL_read) 44 = .ok (.iload 4, 2) := by decide +kernel
theorem d_WL_read_46 : decode (xcode m_WL_read) 46 = .ok (.ifCond .eq 13, 3) := by decide +kernel
theorem d_WL_read_49 : decode (xcode m_WL_read) 49 = .ok (.iload_n 2, 1) := by decide +kernel
theorem d_WL_read_50 : decode (xcode m_WL_read) 50 = .ok (.iconst (-1), 1) := by decide +kernel
theorem d_WL_read_51 : decode (xcode m_WL_read) 51 = .ok (.if_icmp .ne 8, 3) := by decide +kernel
theorem d_WL_read_54 : decode (xcode m_WL_read) 54 = .ok (.iload_n 3, 1) := by decide +kernel
theorem d_WL_read_55 : decode (xcode m_WL_read) 55 = .ok (.istore_n 2, 1) := by decide +kernel
theorem d_WL_read_56 : decode (xcode m_WL_read) 56 = .ok (.goto 21, 3) := by decide +kernel
theorem d_WL_read_59 : decode (xcode m_WL_read) 59 = .ok (.iload 4, 2) := by decide +kernel
theorem d_WL_read_61 : decode (xcode m_WL_read) 61 = .ok (.ifCond .ne 16, 3) := by decide +kernel
theorem d_WL_read_64 : decode (xcode m_WL_read) 64 = .ok (.iload_n 2, 1) := by decide +kernel
theorem d_WL_read_65 : decode (xcode m_WL_read) 65 = .ok (.iconst (-1), 1) := by decide +kernel
theorem d_WL_read_66 : decode (xcode m_WL_read) 66 = .ok (.if_icmp .eq 11, 3) := by decide +kernel
theorem d_WL_read_69 : decode (xcode m_WL_read) 69 = .ok (.aload_n 0, 1) := by decide +kernel
theorem d_WL_read_70 : decode (xcode m_WL_read) 70 = .ok (.iload_n 2, 1) := by decide +kernel
theorem d_WL_read_71 : decode (xcode m_WL_read) 71 = .ok (.iload_n 3, 1) := by decide +kernel
theorem d_WL_read_72 : decode (xcode m_WL_read) 72 = .ok (.invokevirtual 38, 3) := by decide +kernel
theorem d_WL_read_75 : decode (xcode m_WL_read) 75 = .ok (.iconst (-1), 1) := by decide +kernel
theorem d_WL_read_76 : decode (xcode m_WL_read) 76 = .ok (.istore_n 2, 1) := by decide +kernel
theorem d_WL_read_77 : decode (xcode m_WL_read) 77 = .ok (.iinc 3 1, 3) := by decide +kernel
theorem d_WL_read_80 : decode (xcode m_WL_read) 80 = .ok (.goto (-63), 3) := by decide +kernel
theorem d_WL_read_83 : decode (xcode m_WL_read) 83 = .ok (.return_, 1) := by decide +kernel
theorem d_WL_addWord_0 : decode (xcode m_WL_addWord) 0 = .ok (.aload_n 0, 1) := by decide +kernel
theorem d_WL_addWord_1 : decode (xcode m_WL_addWord) 1 = .ok (.getfield 21, 3) := by decide +kernel
theorem d_WL_addWord_4 : decode (xcode m_WL_addWord) 4 = .ok (.bipush 100, 2) := by decide +kernel
theorem d_WL_addWord_6 : decode (xcode m_WL_addWord) 6 = .ok (.if_icmp .ge 33, 3) := by decide +kernel
theorem d_WL_addWord_9 : decode (xcode m_WL_addWord) 9 = .ok (.aload_n 0, 1) := by decide +kernel
theorem d_WL_addWord_10 : decode (xcode m_WL_addWord) 10 = .ok (.getfield 9, 3) := by decide +kernel
theorem d_WL_addWord_13 : decode (xcode m_WL_addWord) 13 = .ok (.aload_n 0, 1) := by decide +kernel
theorem d_WL_addWord_14 : decode (xcode m_WL_addWord) 14 = .ok (.getfield 21, 3) := by decide +kernel
theorem d_WL_addWord_17 : decode (xcode m_WL_addWord) 17 = .ok (.iload_n 1, 1) := by decide +kernel
theorem d_WL_addWord_18 : decode (xcode m_WL_addWord) 18 = .ok (.iastore, 1) := by decide +kernel
theorem d_WL_addWord_19 : decode (xcode m_WL_addWord) 19 = .ok (.aload_n 0, 1) := by decide +kernel
theorem d_WL_addWord_20 : decode (xcode m_WL_addWord) 20 = .ok (.getfield 15, 3) := by decide +kernel
theorem d_WL_addWord_23 : decode (xcode m_WL_addWord) 23 = .ok (.aload_n 0, 1) := by decide +kernel
theorem d_WL_addWord_24 : decode (xcode m_WL_addWord) 24 = .ok (.getfield 21, 3) := by decide +kernel
theorem d_WL_addWord_27 : decode (xcode m_WL_addWord) 27 = .ok (.iload_n 2, 1) := by decide +kernel
theorem d_WL_addWord_28 : decode (xcode m_WL_addWord) 28 = .ok (.iastore, 1) := by decide +kernel
theorem d_WL_addWord_29 : decode (xcode m_WL_addWord) 29 = .ok (.aload_n 0, 1) := by decide +kernel
theorem d_WL_addWord_30 : decode (xcode m_WL_addWord) 30 = .ok (.dup, 1) := by decide +kernel
theorem d_WL_addWord_31 : decode (xcode m_WL_addWord) 31 = .ok (.getfield 21, 3) := by decide +kernel
theorem d_WL_addWord_34 : decode (xcode m_WL_addWord) 34 = .ok (.iconst 1, 1) := by decide +kernel
theorem d_WL_addWord_35 : decode (xcode m_WL_addWord) 35 = .ok (.iadd, 1) := by decide +kernel
theorem d_WL_addWord_36 : decode (xcode m_WL_addWord) 36 = .ok (.putfield 21, 3) := by decide +kernel
theorem d_WL_addWord_39 : decode (xcode m_WL_addWord) 39 = .ok (.return_, 1) := by decide +kernel
theorem d_WL_count_0 : decode (xcode m_WL_count) 0 = .ok (.aload_n 0, 1) := by decide +kernel
theorem d_WL_count_1 : decode (xcode m_WL_count) 1 = .ok (.getfield 21, 3) := by decide +kernel
theorem d_WL_count_4 : decode (xcode m_WL_count) 4 = .ok (.ireturn, 1) := by decide +kernel
theorem d_WL_bytesInWords_0 : decode (xcode m_WL_bytesInWords) 0 = .ok (.iconst 0, 1) := by decide +kernel
theorem d_WL_bytesInWords_1 : decode (xcode m_WL_bytesInWords) 1 = .ok (.istore_n 1, 1) := by decide +kernel
theorem d_WL_bytesInWords_2 : decode (xcode m_WL_bytesInWords) 2 = .ok (.iconst 0, 1) := by decide +kernel
theorem d_WL_bytesInWords_3 : decode (xcode m_WL_bytesInWords) 3 = .ok (.istore_n 2, 1) := by decide +kernel
theorem d_WL_bytesInWords_4 : decode (xcode m_WL_bytesInWords) 4 = .ok (.iload_n 2, 1) := by decide +kernel
theorem d_WL_bytesInWords_5 : decode (xcode m_WL_bytesInWords) 5 = .ok (.aload_n 0, 1) := by decide +kernel
theorem d_WL_bytesInWords_6 : decode (xcode m_WL_bytesInWords) 6 = .ok (.getfield 21, 3) := by decide +kernel
theorem d_WL_bytesInWords_9 : decode (xcode m_WL_bytesInWords) 9 = .ok (.if_icmp .ge 17, 3) := by decide +kernel
theorem d_WL_bytesInWords_12 : decode (xcode m_WL_bytesInWords) 12 = .ok (.iload_n 1, 1) := by decide +kernel
theorem d_WL_bytesInWords_13 : decode (xcode m_WL_bytesInWords) 13 = .ok (.aload_n 0, 1) := by decide +kernel
theorem d_WL_bytesInWords_14 : decode (xcode m_WL_bytesInWords) 14 = .ok (.iload_n 2, 1) := by decide +kernel
theorem d_WL_bytesInWords_15 : decode (xcode m_WL_bytesInWords) 15 = .ok (.invokevirtual 49, 3) := by decide +kernel
theorem d_WL_bytesInWords_18 : decode (xcode m_WL_bytesInWords) 18 = .ok (.iadd, 1) := by decide +kernel
theorem d_WL_bytesInWords_19 : decode (xcode m_WL_bytesInWords) 19 = .ok (.istore_n 1, 1) := by decide +kernel
theorem d_WL_bytesInWords_20 : decode (xcode m_WL_bytesInWords) 20 = .ok (.iinc 2 1, 3) := by decide +kernel
theorem d_WL_bytesInWords_23 : decode (xcode m_WL_bytesInWords) 23 = .ok (.goto (-19), 3) := by decide +kernel
theorem d_WL_bytesInWords_26 : decode (xcode m_WL_bytesInWords) 26 = .ok (.iload_n 1, 1) := by decide +kernel
theorem d_WL_bytesInWords_27 : decode (xcode m_WL_bytesInWords) 27 = .ok (.ireturn, 1) := by decide +kernel
theorem d_WL_lengthOf_0 : decode (xcode m_WL_lengthOf) 0 = .ok (.aload_n 0, 1) := by decide +kernel
theorem d_WL_lengthOf_1 : decode (xcode m_WL_lengthOf) 1 = .ok (.iload_n 1, 1) := by decide +kernel
theorem d_WL_lengthOf_2 : decode (xcode m_WL_lengthOf) 2 = .ok (.invokevirtual 42, 3) := by decide +kernel
theorem d_WL_lengthOf_5 : decode (xcode m_WL_lengthOf) 5 = .ok (.aload_n 0, 1) := by decide +kernel
theorem d_WL_lengthOf_6 : decode (xcode m_WL_lengthOf) 6 = .ok (.iload_n 1, 1) := by decide +kernel
theorem d_WL_lengthOf_7 : decode (xcode m_WL_lengthOf) 7 = .ok (.invokevirtual 46, 3) := by decide +kernel
theorem d_WL_lengthOf_10 : decode (xcode m_WL_lengthOf) 10 = .ok (.isub, 1) := by decide +kernel
theorem d_WL_lengthOf_11 : decode (xcode m_WL_lengthOf) 11 = .ok (.ireturn, 1) := by decide +kernel
theorem d_WL_stopOf_0 : decode (xcode m_WL_stopOf) 0 = .ok (.iload_n 1, 1) := by decide +kernel
theorem d_WL_stopOf_1 : decode (xcode m_WL_stopOf) 1 = .ok (.ifCond .lt 20, 3) := by decide +kernel
theorem d_WL_stopOf_4 : decode (xcode m_WL_stopOf) 4 = .ok (.iload_n 1, 1) := by decide +kernel
theorem d_WL_stopOf_5 : decode (xcode m_WL_stopOf) 5 = .ok (.aload_n 0, 1) := by decide +kernel
theorem d_WL_stopOf_6 : decode (xcode m_WL_stopOf) 6 = .ok (.getfield 21, 3) := by decide +kernel
theorem d_WL_stopOf_9 : decode (xcode m_WL_stopOf) 9 = .ok (.if_icmp .ge 12, 3) := by decide +kernel
theorem d_WL_stopOf_12 : decode (xcode m_WL_stopOf) 12 = .ok (.aload_n 0, 1) := by decide +kernel
theorem d_WL_stopOf_13 : decode (xcode m_WL_stopOf) 13 = .ok (.getfield 15, 3) := by decide +kernel
theorem d_WL_stopOf_16 : decode (xcode m_WL_stopOf) 16 = .ok (.iload_n 1, 1) := by decide +kernel
theorem d_WL_stopOf_17 : decode (xcode m_WL_stopOf) 17 = .ok (.iaload, 1) := by decide +kernel
theorem d_WL_stopOf_18 : decode (xcode m_WL_stopOf) 18 = .ok (.goto 7, 3) := by decide +kernel
theorem d_WL_stopOf_21 : decode (xcode m_WL_stopOf) 21 = .ok (.aload_n 0, 1) := by decide +kernel
theorem d_WL_stopOf_22 : decode (xcode m_WL_stopOf) 22 = .ok (.getfield 25, 3) := by decide +kernel
theorem d_WL_stopOf_25 : decode (xcode m_WL_stopOf) 25 = .ok (.ireturn, 1) := by decide +kernel
theorem d_WL_startOf_0 : decode (xcode m_WL_startOf) 0 = .ok (.iload_n 1, 1) := by decide +kernel
theorem d_WL_startOf_1 : decode (xcode m_WL_startOf) 1 = .ok (.ifCond .lt 20, 3) := by decide +kernel
theorem d_WL_startOf_4 : decode (xcode m_WL_startOf) 4 = .ok (.iload_n 1, 1) := by decide +kernel
theorem d_WL_startOf_5 : decode (xcode m_WL_startOf) 5 = .ok (.aload_n 0, 1) := by decide +kernel
theorem d_WL_startOf_6 : decode (xcode m_WL_startOf) 6 = .ok (.getfield 21, 3) := by decide +kernel
theorem d_WL_startOf_9 : decode (xcode m_WL_startOf) 9 = .ok (.if_icmp .ge 12, 3) := by decide +kernel
theorem d_WL_startOf_12 : decode (xcode m_WL_startOf) 12 = .ok (.aload_n 0, 1) := by decide +kernel
theorem d_WL_startOf_13 : decode (xcode m_WL_startOf) 13 = .ok (.getfield 9, 3) := by decide +kernel
theorem d_WL_startOf_16 : decode (xcode m_WL_startOf) 16 = .ok (.iload_n 1, 1) := by decide +kernel
theorem d_WL_startOf_17 : decode (xcode m_WL_startOf) 17 = .ok (.iaload, 1) := by decide +kernel
theorem d_WL_startOf_18 : decode (xcode m_WL_startOf) 18 = .ok (.goto 7, 3) := by decide +kernel
theorem d_WL_startOf_21 : decode (xcode m_WL_startOf) 21 = .ok (.aload_n 0, 1) := by decide +kernel
theorem d_WL_startOf_22 : decode (xcode m_WL_startOf) 22 = .ok (.getfield 25, 3) := by decide +kernel
theorem d_WL_startOf_25 : decode (xcode m_WL_startOf) 25 = .ok (.ireturn, 1) := by decide +kernel
theorem d_WL_rankLastFirst_0 : decode (xcode m_WL_rankLastFirst) 0 = .ok (.iconst 0, 1) := by decide +kernel
theorem d_WL_rankLastFirst_1 : decode (xcode m_WL_rankLastFirst) 1 = .ok (.istore_n 1, 1) := by decide +kernel
theorem d_WL_rankLastFirst_2 : decode (xcode m_WL_rankLastFirst) 2 = .ok (.iload_n 1, 1) := by decide +kernel
theorem d_WL_rankLastFirst_3 : decode (xcode m_WL_rankLastFirst) 3 = .ok (.aload_n 0, 1) := by decide +kernel
theorem d_WL_rankLastFirst_4 : decode (xcode m_WL_rankLastFirst) 4 = .ok (.getfield 21, 3) := by decide +kernel
theorem d_WL_rankLastFirst_7 : decode (xcode m_WL_rankLastFirst) 7 = .ok (.if_icmp .ge 23, 3) := by decide +kernel
theorem d_WL_rankLastFirst_10 : decode (xcode m_WL_rankLastFirst) 10 = .ok (.aload_n 0, 1) := by decide +kernel
theorem d_WL_rankLastFirst_11 : decode (xcode m_WL_rankLastFirst) 11 = .ok (.getfield 18, 3) := by decide +kernel
theorem d_WL_rankLastFirst_14 : decode (xcode m_WL_rankLastFirst) 14 = .ok (.iload_n 1, 1) := by decide +kernel
theorem d_WL_rankLastFirst_15 : decode (xcode m_WL_rankLastFirst) 15 = .ok (.aload_n 0, 1) := by decide +kernel
theorem d_WL_rankLastFirst_16 : decode (xcode m_WL_rankLastFirst) 16 = .ok (.getfield 21, 3) := by decide +kernel
theorem d_WL_rankLastFirst_19 : decode (xcode m_WL_rankLastFirst) 19 = .ok (.iconst 1, 1) := by decide +kernel
theorem d_WL_rankLastFirst_20 : decode (xcode m_WL_rankLastFirst) 20 = .ok (.isub, 1) := by decide +kernel
theorem d_WL_rankLastFirst_21 : decode (xcode m_WL_rankLastFirst) 21 = .ok (.iload_n 1, 1) := by decide +kernel
theorem d_WL_rankLastFirst_22 : decode (xcode m_WL_rankLastFirst) 22 = .ok (.isub, 1) := by decide +kernel
theorem d_WL_rankLastFirst_23 : decode (xcode m_WL_rankLastFirst) 23 = .ok (.iastore, 1) := by decide +kernel
theorem d_WL_rankLastFirst_24 : decode (xcode m_WL_rankLastFirst) 24 = .ok (.iinc 1 1, 3) := by decide +kernel
theorem d_WL_rankLastFirst_27 : decode (xcode m_WL_rankLastFirst) 27 = .ok (.goto (-25), 3) := by decide +kernel
theorem d_WL_rankLastFirst_30 : decode (xcode m_WL_rankLastFirst) 30 = .ok (.return_, 1) := by decide +kernel
theorem d_WL_rankByBytes_0 : decode (xcode m_WL_rankByBytes) 0 = .ok (.iconst 0, 1) := by decide +kernel
theorem d_WL_rankByBytes_1 : decode (xcode m_WL_rankByBytes) 1 = .ok (.istore_n 2, 1) := by decide +kernel
theorem d_WL_rankByBytes_2 : decode (xcode m_WL_rankByBytes) 2 = .ok (.iload_n 2, 1) := by decide +kernel
theorem d_WL_rankByBytes_3 : decode (xcode m_WL_rankByBytes) 3 = .ok (.aload_n 0, 1) := by decide +kernel
theorem d_WL_rankByBytes_4 : decode (xcode m_WL_rankByBytes) 4 = .ok (.getfield 21, 3) := by decide +kernel
theorem d_WL_rankByBytes_7 : decode (xcode m_WL_rankByBytes) 7 = .ok (.if_icmp .ge 59, 3) := by decide +kernel
theorem d_WL_rankByBytes_10 : decode (xcode m_WL_rankByBytes) 10 = .ok (.iload_n 2, 1) := by decide +kernel
theorem d_WL_rankByBytes_11 : decode (xcode m_WL_rankByBytes) 11 = .ok (.istore_n 3, 1) := by decide +kernel
theorem d_WL_rankByBytes_12 : decode (xcode m_WL_rankByBytes) 12 = .ok (.iload_n 3, 1) := by decide +kernel
theorem d_WL_rankByBytes_13 : decode (xcode m_WL_rankByBytes) 13 = .ok (.ifCond .le 40, 3) := by decide +kernel
theorem d_WL_rankByBytes_16 : decode (xcode m_WL_rankByBytes) 16 = .ok (.aload_n 0, 1) := by decide +kernel
theorem d_WL_rankByBytes_17 : decode (xcode m_WL_rankByBytes) 17 = .ok (.aload_n 1, 1) := by decide +kernel
theorem d_WL_rankByBytes_18 : decode (xcode m_WL_rankByBytes) 18 = .ok (.iload_n 2, 1) := by decide +kernel
theorem d_WL_rankByBytes_19 : decode (xcode m_WL_rankByBytes) 19 = .ok (.aload_n 0, 1) := by decide +kernel
theorem d_WL_rankByBytes_20 : decode (xcode m_WL_rankByBytes) 20 = .ok (.getfield 18, 3) := by decide +kernel
theorem d_WL_rankByBytes_23 : decode (xcode m_WL_rankByBytes) 23 = .ok (.iload_n 3, 1) := by decide +kernel
theorem d_WL_rankByBytes_24 : decode (xcode m_WL_rankByBytes) 24 = .ok (.iconst 1, 1) := by decide +kernel
theorem d_WL_rankByBytes_25 : decode (xcode m_WL_rankByBytes) 25 = .ok (.isub, 1) := by decide +kernel
theorem d_WL_rankByBytes_26 : decode (xcode m_WL_rankByBytes) 26 = .ok (.iaload, 1) := by decide +kernel
theorem d_WL_rankByBytes_27 : decode (xcode m_WL_rankByBytes) 27 = .ok (.invokevirtual 52, 3) := by decide +kernel
theorem d_WL_rankByBytes_30 : decode (xcode m_WL_rankByBytes) 30 = .ok (.ifCond .ge 23, 3) := by decide +kernel
theorem d_WL_rankByBytes_33 : decode (xcode m_WL_rankByBytes) 33 = .ok (.aload_n 0, 1) := by decide +kernel
theorem d_WL_rankByBytes_34 : decode (xcode m_WL_rankByBytes) 34 = .ok (.getfield 18, 3) := by decide +kernel
theorem d_WL_rankByBytes_37 : decode (xcode m_WL_rankByBytes) 37 = .ok (.iload_n 3, 1) := by decide +kernel
theorem d_WL_rankByBytes_38 : decode (xcode m_WL_rankByBytes) 38 = .ok (.aload_n 0, 1) := by decide +kernel
theorem d_WL_rankByBytes_39 : decode (xcode m_WL_rankByBytes) 39 = .ok (.getfield 18, 3) := by decide +kernel
theorem d_WL_rankByBytes_42 : decode (xcode m_WL_rankByBytes) 42 = .ok (.iload_n 3, 1) := by decide +kernel
theorem d_WL_rankByBytes_43 : decode (xcode m_WL_rankByBytes) 43 = .ok (.iconst 1, 1) := by decide +kernel
theorem d_WL_rankByBytes_44 : decode (xcode m_WL_rankByBytes) 44 = .ok (.isub, 1) := by decide +kernel
theorem d_WL_rankByBytes_45 : decode (xcode m_WL_rankByBytes) 45 = .ok (.iaload, 1) := by decide +kernel
theorem d_WL_rankByBytes_46 : decode (xcode m_WL_rankByBytes) 46 = .ok (.iastore, 1) := by decide +kernel
theorem d_WL_rankByBytes_47 : decode (xcode m_WL_rankByBytes) 47 = .ok (.iinc 3 (-1), 3) := by decide +kernel
theorem d_WL_rankByBytes_50 : decode (xcode m_WL_rankByBytes) 50 = .ok (.goto (-38), 3) := by decide +kernel
theorem d_WL_rankByBytes_53 : decode (xcode m_WL_rankByBytes) 53 = .ok (.aload_n 0, 1) := by decide +kernel
theorem d_WL_rankByBytes_54 : decode (xcode m_WL_rankByBytes) 54 = .ok (.getfield 18, 3) := by decide +kernel
theorem d_WL_rankByBytes_57 : decode (xcode m_WL_rankByBytes) 57 = .ok (.iload_n 3, 1) := by decide +kernel
theorem d_WL_rankByBytes_58 : decode (xcode m_WL_rankByBytes) 58 = .ok (.iload_n 2, 1) := by decide +kernel
theorem d_WL_rankByBytes_59 : decode (xcode m_WL_rankByBytes) 59 = .ok (.iastore, 1) := by decide +kernel
theorem d_WL_rankByBytes_60 : decode (xcode m_WL_rankByBytes) 60 = .ok (.iinc 2 1, 3) := by decide +kernel
theorem d_WL_rankByBytes_63 : decode (xcode m_WL_rankByBytes) 63 = .ok (.goto (-61), 3) := by decide +kernel
theorem d_WL_rankByBytes_66 : decode (xcode m_WL_rankByBytes) 66 = .ok (.return_, 1) := by decide +kernel
theorem d_WL_compareWords_0 : decode (xcode m_WL_compareWords) 0 = .ok (.aload_n 0, 1) := by decide +kernel
theorem d_WL_compareWords_1 : decode (xcode m_WL_compareWords) 1 = .ok (.iload_n 2, 1) := by decide +kernel
theorem d_WL_compareWords_2 : decode (xcode m_WL_compareWords) 2 = .ok (.invokevirtual 49, 3) := by decide +kernel
theorem d_WL_compareWords_5 : decode (xcode m_WL_compareWords) 5 = .ok (.aload_n 0, 1) := by decide +kernel
theorem d_WL_compareWords_6 : decode (xcode m_WL_compareWords) 6 = .ok (.iload_n 3, 1) := by decide +kernel
theorem d_WL_compareWords_7 : decode (xcode m_WL_compareWords) 7 = .ok (.invokevirtual 49, 3) := by decide +kernel
theorem d_WL_compareWords_10 : decode (xcode m_WL_compareWords) 10 = .ok (.invokestatic 56, 3) := by decide +kernel
theorem d_WL_compareWords_13 : decode (xcode m_WL_compareWords) 13 = .ok (.istore 4, 2) := by decide +kernel
theorem d_WL_compareWords_15 : decode (xcode m_WL_compareWords) 15 = .ok (.iconst 0, 1) := by decide +kernel
theorem d_WL_compareWords_16 : decode (xcode m_WL_compareWords) 16 = .ok (.istore 5, 2) := by decide +kernel
theorem d_WL_compareWords_18 : decode (xcode m_WL_compareWords) 18 = .ok (.iload 5, 2) := by decide +kernel
theorem d_WL_compareWords_20 : decode (xcode m_WL_compareWords) 20 = .ok (.iload 4, 2) := by decide +kernel
theorem d_WL_compareWords_22 : decode (xcode m_WL_compareWords) 22 = .ok (.if_icmp .ge 46, 3) := by decide +kernel
theorem d_WL_compareWords_25 : decode (xcode m_WL_compareWords) 25 = .ok (.aload_n 1, 1) := by decide +kernel
theorem d_WL_compareWords_26 : decode (xcode m_WL_compareWords) 26 = .ok (.aload_n 0, 1) := by decide +kernel
theorem d_WL_compareWords_27 : decode (xcode m_WL_compareWords) 27 = .ok (.iload_n 2, 1) := by decide +kernel
theorem d_WL_compareWords_28 : decode (xcode m_WL_compareWords) 28 = .ok (.invokevirtual 46, 3) := by decide +kernel
theorem d_WL_compareWords_31 : decode (xcode m_WL_compareWords) 31 = .ok (.iload 5, 2) := by decide +kernel
theorem d_WL_compareWords_33 : decode (xcode m_WL_compareWords) 33 = .ok (.iadd, 1) := by decide +kernel
theorem d_WL_compareWords_34 : decode (xcode m_WL_compareWords) 34 = .ok (.iconst 0, 1) := by decide +kernel
theorem d_WL_compareWords_35 : decode (xcode m_WL_compareWords) 35 = .ok (.invokevirtual 34, 3) := by decide +kernel
theorem d_WL_compareWords_38 : decode (xcode m_WL_compareWords) 38 = .ok (.aload_n 1, 1) := by decide +kernel
theorem d_WL_compareWords_39 : decode (xcode m_WL_compareWords) 39 = .ok (.aload_n 0, 1) := by decide +kernel
theorem d_WL_compareWords_40 : decode (xcode m_WL_compareWords) 40 = .ok (.iload_n 3, 1) := by decide +kernel
theorem d_WL_compareWords_41 : decode (xcode m_WL_compareWords) 41 = .ok (.invokevirtual 46, 3) := by decide +kernel
theorem d_WL_compareWords_44 : decode (xcode m_WL_compareWords) 44 = .ok (.iload 5, 2) := by decide +kernel
theorem d_WL_compareWords_46 : decode (xcode m_WL_compareWords) 46 = .ok (.iadd, 1) := by decide +kernel
theorem d_WL_compareWords_47 : decode (xcode m_WL_compareWords) 47 = .ok (.iconst 0, 1) := by decide +kernel
theorem d_WL_compareWords_48 : decode (xcode m_WL_compareWords) 48 = .ok (.invokevirtual 34, 3) := by decide +kernel
theorem d_WL_compareWords_51 : decode (xcode m_WL_compareWords) 51 = .ok (.isub, 1) := by decide +kernel
theorem d_WL_compareWords_52 : decode (xcode m_WL_compareWords) 52 = .ok (.istore 6, 2) := by decide +kernel
theorem d_WL_compareWords_54 : decode (xcode m_WL_compareWords) 54 = .ok (.iload 6, 2) := by decide +kernel
theorem d_WL_compareWords_56 : decode (xcode m_WL_compareWords) 56 = .ok (.ifCond .eq 6, 3) := by decide +kernel
theorem d_WL_compareWords_59 : decode (xcode m_WL_compareWords) 59 = .ok (.iload 6, 2) := by decide +kernel
theorem d_WL_compareWords_61 : decode (xcode m_WL_compareWords) 61 = .ok (.ireturn, 1) := by decide +kernel
theorem d_WL_compareWords_62 : decode (xcode m_WL_compareWords) 62 = .ok (.iinc 5 1, 3) := by decide +kernel
theorem d_WL_compareWords_65 : decode (xcode m_WL_compareWords) 65 = .ok (.goto (-47), 3) := by decide +kernel
theorem d_WL_compareWords_68 : decode (xcode m_WL_compareWords) 68 = .ok (.aload_n 0, 1) := by decide +kernel
theorem d_WL_compareWords_69 : decode (xcode m_WL_compareWords) 69 = .ok (.iload_n 2, 1) := by decide +kernel
theorem d_WL_compareWords_70 : decode (xcode m_WL_compareWords) 70 = .ok (.invokevirtual 49, 3) := by decide +kernel
theorem d_WL_compareWords_73 : decode (xcode m_WL_compareWords) 73 = .ok (.aload_n 0, 1) := by decide +kernel
theorem d_WL_compareWords_74 : decode (xcode m_WL_compareWords) 74 = .ok (.iload_n 3, 1) := by decide +kernel
theorem d_WL_compareWords_75 : decode (xcode m_WL_compareWords) 75 = .ok (.invokevirtual 49, 3) := by decide +kernel
theorem d_WL_compareWords_78 : decode (xcode m_WL_compareWords) 78 = .ok (.isub, 1) := by decide +kernel
theorem d_WL_compareWords_79 : decode (xcode m_WL_compareWords) 79 = .ok (.ireturn, 1) := by decide +kernel
theorem d_WL_rankedAt_0 : decode (xcode m_WL_rankedAt) 0 = .ok (.iload_n 1, 1) := by decide +kernel
theorem d_WL_rankedAt_1 : decode (xcode m_WL_rankedAt) 1 = .ok (.ifCond .lt 20, 3) := by decide +kernel
theorem d_WL_rankedAt_4 : decode (xcode m_WL_rankedAt) 4 = .ok (.iload_n 1, 1) := by decide +kernel
theorem d_WL_rankedAt_5 : decode (xcode m_WL_rankedAt) 5 = .ok (.aload_n 0, 1) := by decide +kernel
theorem d_WL_rankedAt_6 : decode (xcode m_WL_rankedAt) 6 = .ok (.getfield 21, 3) := by decide +kernel
theorem d_WL_rankedAt_9 : decode (xcode m_WL_rankedAt) 9 = .ok (.if_icmp .ge 12, 3) := by decide +kernel
theorem d_WL_rankedAt_12 : decode (xcode m_WL_rankedAt) 12 = .ok (.aload_n 0, 1) := by decide +kernel
theorem d_WL_rankedAt_13 : decode (xcode m_WL_rankedAt) 13 = .ok (.getfield 18, 3) := by decide +kernel
theorem d_WL_rankedAt_16 : decode (xcode m_WL_rankedAt) 16 = .ok (.iload_n 1, 1) := by decide +kernel
theorem d_WL_rankedAt_17 : decode (xcode m_WL_rankedAt) 17 = .ok (.iaload, 1) := by decide +kernel
theorem d_WL_rankedAt_18 : decode (xcode m_WL_rankedAt) 18 = .ok (.goto 4, 3) := by decide +kernel
theorem d_WL_rankedAt_21 : decode (xcode m_WL_rankedAt) 21 = .ok (.iload_n 1, 1) := by decide +kernel
theorem d_WL_rankedAt_22 : decode (xcode m_WL_rankedAt) 22 = .ok (.ireturn, 1) := by decide +kernel
