theorem dX9_join_19 : decode cX9_join 19 = .ok (.sipush (-1003), 3) := by decide +kernel
theorem dX9_join_22 : decode cX9_join 22 = .ok (.ireturn, 1) := by decide +kernel
theorem dX9_join_23 : decode cX9_join 23 = .ok (.aload_n 0, 1) := by decide +kernel
theorem dX9_join_24 : decode cX9_join 24 = .ok (.iload_n 1, 1) := by decide +kernel
theorem dX9_join_25 : decode cX9_join 25 = .ok (.invokevirtual 107, 3) := by decide +kernel
theorem dX9_join_28 : decode cX9_join 28 = .ok (.aload_n 0, 1) := by decide +kernel
theorem dX9_join_29 : decode cX9_join 29 = .ok (.invokevirtual 151, 3) := by decide +kernel
theorem dX9_join_32 : decode cX9_join 32 = .ok (.ireturn, 1) := by decide +kernel
theorem dX9_hasReadyEnd_0 : decode cX9_hasReadyEnd 0 = .ok (.aload_n 0, 1) := by decide +kernel
theorem dX9_hasReadyEnd_1 : decode cX9_hasReadyEnd 1 = .ok (.getfield 17, 3) := by decide +kernel
theorem dX9_hasReadyEnd_4 : decode cX9_hasReadyEnd 4 = .ok (.iload_n 1, 1) := by decide +kernel
theorem dX9_hasReadyEnd_5 : decode cX9_hasReadyEnd 5 = .ok (.invokestatic 154, 3) := by decide +kernel
theorem dX9_hasReadyEnd_8 : decode cX9_hasReadyEnd 8 = .ok (.aaload, 1) := by decide +kernel
theorem dX9_hasReadyEnd_9 : decode cX9_hasReadyEnd 9 = .ok (.getfield 158, 3) := by decide +kernel
theorem dX9_hasReadyEnd_12 : decode cX9_hasReadyEnd 12 = .ok (.iconst 1, 1) := by decide +kernel
theorem dX9_hasReadyEnd_13 : decode cX9_hasReadyEnd 13 = .ok (.if_icmp .eq 22, 3) := by decide +kernel
theorem dX9_hasReadyEnd_16 : decode cX9_hasReadyEnd 16 = .ok (.aload_n 0, 1) := by decide +kernel
theorem dX9_hasReadyEnd_17 : decode cX9_hasReadyEnd 17 = .ok (.getfield 17, 3) := by decide +kernel
theorem dX9_hasReadyEnd_20 : decode cX9_hasReadyEnd 20 = .ok (.iload_n 1, 1) := by decide +kernel
theorem dX9_hasReadyEnd_21 : decode cX9_hasReadyEnd 21 = .ok (.invokestatic 154, 3) := by decide +kernel
theorem dX9_hasReadyEnd_24 : decode cX9_hasReadyEnd 24 = .ok (.invokestatic 161, 3) := by decide +kernel
theorem dX9_hasReadyEnd_27 : decode cX9_hasReadyEnd 27 = .ok (.aaload, 1) := by decide +kernel
theorem dX9_hasReadyEnd_28 : decode cX9_hasReadyEnd 28 = .ok (.getfield 158, 3) := by decide +kernel
theorem dX9_hasReadyEnd_31 : decode cX9_hasReadyEnd 31 = .ok (.iconst 1, 1) := by decide +kernel
theorem dX9_hasReadyEnd_32 : decode cX9_hasReadyEnd 32 = .ok (.if_icmp .ne 7, 3) := by decide +kernel
theorem dX9_hasReadyEnd_35 : decode cX9_hasReadyEnd 35 = .ok (.iconst 1, 1) := by decide +kernel
theorem dX9_hasReadyEnd_36 : decode cX9_hasReadyEnd 36 = .ok (.goto 4, 3) := by decide +kernel
theorem dX9_hasReadyEnd_39 : decode cX9_hasReadyEnd 39 = .ok (.iconst 0, 1) := by decide +kernel
theorem dX9_hasReadyEnd_40 : decode cX9_hasReadyEnd 40 = .ok (.ireturn, 1) := by decide +kernel
theorem dX9_joinLine_0 : decode cX9_joinLine 0 = .ok (.aload_n 0, 1) := by decide +kernel
theorem dX9_joinLine_1 : decode cX9_joinLine 1 = .ok (.getfield 17, 3) := by decide +kernel
theorem dX9_joinLine_4 : decode cX9_joinLine 4 = .ok (.iload_n 1, 1) := by decide +kernel
theorem dX9_joinLine_5 : decode cX9_joinLine 5 = .ok (.invokestatic 154, 3) := by decide +kernel
theorem dX9_joinLine_8 : decode cX9_joinLine 8 = .ok (.aaload, 1) := by decide +kernel
theorem dX9_joinLine_9 : decode cX9_joinLine 9 = .ok (.iconst 1, 1) := by decide +kernel
theorem dX9_joinLine_10 : decode cX9_joinLine 10 = .ok (.invokevirtual 164, 3) := by decide +kernel
theorem dX9_joinLine_13 : decode cX9_joinLine 13 = .ok (.aload_n 0, 1) := by decide +kernel
theorem dX9_joinLine_14 : decode cX9_joinLine 14 = .ok (.getfield 17, 3) := by decide +kernel
theorem dX9_joinLine_17 : decode cX9_joinLine 17 = .ok (.iload_n 1, 1) := by decide +kernel
theorem dX9_joinLine_18 : decode cX9_joinLine 18 = .ok (.invokestatic 154, 3) := by decide +kernel
theorem dX9_joinLine_21 : decode cX9_joinLine 21 = .ok (.invokestatic 161, 3) := by decide +kernel
theorem dX9_joinLine_24 : decode cX9_joinLine 24 = .ok (.aaload, 1) := by decide +kernel
theorem dX9_joinLine_25 : decode cX9_joinLine 25 = .ok (.iconst 1, 1) := by decide +kernel
theorem dX9_joinLine_26 : decode cX9_joinLine 26 = .ok (.invokevirtual 164, 3) := by decide +kernel
theorem dX9_joinLine_29 : decode cX9_joinLine 29 = .ok (.aload_n 0, 1) := by decide +kernel
theorem dX9_joinLine_30 : decode cX9_joinLine 30 = .ok (.getfield 24, 3) := by decide +kernel
theorem dX9_joinLine_33 : decode cX9_joinLine 33 = .ok (.iload_n 1, 1) := by decide +kernel
theorem dX9_joinLine_34 : decode cX9_joinLine 34 = .ok (.invokevirtual 167, 3) := by decide +kernel
theorem dX9_joinLine_37 : decode cX9_joinLine 37 = .ok (.return_, 1) := by decide +kernel
theorem dX9_readyEnds_0 : decode cX9_readyEnds 0 = .ok (.iconst 0, 1) := by decide +kernel
theorem dX9_readyEnds_1 : decode cX9_readyEnds 1 = .ok (.istore_n 1, 1) := by decide +kernel
theorem dX9_readyEnds_2 : decode cX9_readyEnds 2 = .ok (.iconst 0, 1) := by decide +kernel
theorem dX9_readyEnds_3 : decode cX9_readyEnds 3 = .ok (.istore_n 2, 1) := by decide +kernel
theorem dX9_readyEnds_4 : decode cX9_readyEnds 4 = .ok (.iload_n 2, 1) := by decide +kernel
theorem dX9_readyEnds_5 : decode cX9_readyEnds 5 = .ok (.iconst 4, 1) := by decide +kernel
theorem dX9_readyEnds_6 : decode cX9_readyEnds 6 = .ok (.if_icmp .ge 25, 3) := by decide +kernel
theorem dX9_readyEnds_9 : decode cX9_readyEnds 9 = .ok (.aload_n 0, 1) := by decide +kernel
theorem dX9_readyEnds_10 : decode cX9_readyEnds 10 = .ok (.getfield 17, 3) := by decide +kernel
theorem dX9_readyEnds_13 : decode cX9_readyEnds 13 = .ok (.iload_n 2, 1) := by decide +kernel
theorem dX9_readyEnds_14 : decode cX9_readyEnds 14 = .ok (.aaload, 1) := by decide +kernel
theorem dX9_readyEnds_15 : decode cX9_readyEnds 15 = .ok (.getfield 158, 3) := by decide +kernel
theorem dX9_readyEnds_18 : decode cX9_readyEnds 18 = .ok (.iconst 1, 1) := by decide +kernel
theorem dX9_readyEnds_19 : decode cX9_readyEnds 19 = .ok (.if_icmp .ne 6, 3) := by decide +kernel
theorem dX9_readyEnds_22 : decode cX9_readyEnds 22 = .ok (.iinc 1 1, 3) := by decide +kernel
theorem dX9_readyEnds_25 : decode cX9_readyEnds 25 = .ok (.iinc 2 1, 3) := by decide +kernel
theorem dX9_readyEnds_28 : decode cX9_readyEnds 28 = .ok (.goto (-24), 3) := by decide +kernel
theorem dX9_readyEnds_31 : decode cX9_readyEnds 31 = .ok (.iload_n 1, 1) := by decide +kernel
theorem dX9_readyEnds_32 : decode cX9_readyEnds 32 = .ok (.ireturn, 1) := by decide +kernel
theorem dX9_tear_0 : decode cX9_tear 0 = .ok (.iload_n 1, 1) := by decide +kernel
theorem dX9_tear_1 : decode cX9_tear 1 = .ok (.invokestatic 170, 3) := by decide +kernel
theorem dX9_tear_4 : decode cX9_tear 4 = .ok (.ifCond .eq 7, 3) := by decide +kernel
theorem dX9_tear_7 : decode cX9_tear 7 = .ok (.sipush (-1001), 3) := by decide +kernel
theorem dX9_tear_10 : decode cX9_tear 10 = .ok (.ireturn, 1) := by decide +kernel
theorem dX9_tear_11 : decode cX9_tear 11 = .ok (.aload_n 0, 1) := by decide +kernel
theorem dX9_tear_12 : decode cX9_tear 12 = .ok (.getfield 17, 3) := by decide +kernel
theorem dX9_tear_15 : decode cX9_tear 15 = .ok (.iload_n 1, 1) := by decide +kernel
theorem dX9_tear_16 : decode cX9_tear 16 = .ok (.aaload, 1) := by decide +kernel
theorem dX9_tear_17 : decode cX9_tear 17 = .ok (.astore_n 2, 1) := by decide +kernel
theorem dX9_tear_18 : decode cX9_tear 18 = .ok (.aload_n 2, 1) := by decide +kernel
theorem dX9_tear_19 : decode cX9_tear 19 = .ok (.getfield 158, 3) := by decide +kernel
theorem dX9_tear_22 : decode cX9_tear 22 = .ok (.iconst 1, 1) := by decide +kernel
theorem dX9_tear_23 : decode cX9_tear 23 = .ok (.if_icmp .eq 7, 3) := by decide +kernel
theorem dX9_tear_26 : decode cX9_tear 26 = .ok (.sipush (-1003), 3) := by decide +kernel
theorem dX9_tear_29 : decode cX9_tear 29 = .ok (.ireturn, 1) := by decide +kernel
theorem dX9_tear_30 : decode cX9_tear 30 = .ok (.aload_n 2, 1) := by decide +kernel
theorem dX9_tear_31 : decode cX9_tear 31 = .ok (.getfield 173, 3) := by decide +kernel
theorem dX9_tear_34 : decode cX9_tear 34 = .ok (.aload_n 2, 1) := by decide +kernel
theorem dX9_tear_35 : decode cX9_tear 35 = .ok (.getfield 176, 3) := by decide +kernel
theorem dX9_tear_38 : decode cX9_tear 38 = .ok (.iadd, 1) := by decide +kernel
theorem dX9_tear_39 : decode cX9_tear 39 = .ok (.istore_n 3, 1) := by decide +kernel
theorem dX9_tear_40 : decode cX9_tear 40 = .ok (.aload_n 2, 1) := by decide +kernel
theorem dX9_tear_41 : decode cX9_tear 41 = .ok (.invokevirtual 179, 3) := by decide +kernel
theorem dX9_tear_44 : decode cX9_tear 44 = .ok (.iload_n 3, 1) := by decide +kernel
theorem dX9_tear_45 : decode cX9_tear 45 = .ok (.ireturn, 1) := by decide +kernel
theorem dX9_delay_0 : decode cX9_delay 0 = .ok (.iload_n 1, 1) := by decide +kernel
theorem dX9_delay_1 : decode cX9_delay 1 = .ok (.invokestatic 148, 3) := by decide +kernel
theorem dX9_delay_4 : decode cX9_delay 4 = .ok (.ifCond .eq 7, 3) := by decide +kernel
theorem dX9_delay_7 : decode cX9_delay 7 = .ok (.sipush (-1001), 3) := by decide +kernel
theorem dX9_delay_10 : decode cX9_delay 10 = .ok (.ireturn, 1) := by decide +kernel
theorem dX9_delay_11 : decode cX9_delay 11 = .ok (.iload_n 2, 1) := by decide +kernel
theorem dX9_delay_12 : decode cX9_delay 12 = .ok (.iconst 1, 1) := by decide +kernel
theorem dX9_delay_13 : decode cX9_delay 13 = .ok (.bipush 9, 2) := by decide +kernel
theorem dX9_delay_15 : decode cX9_delay 15 = .ok (.invokestatic 47, 3) := by decide +kernel
theorem dX9_delay_18 : decode cX9_delay 18 = .ok (.ifCond .eq 7, 3) := by decide +kernel
theorem dX9_delay_21 : decode cX9_delay 21 = .ok (.sipush (-1002), 3) := by decide +kernel
theorem dX9_delay_24 : decode cX9_delay 24 = .ok (.ireturn, 1) := by decide +kernel
theorem dX9_delay_25 : decode cX9_delay 25 = .ok (.aload_n 0, 1) := by decide +kernel
theorem dX9_delay_26 : decode cX9_delay 26 = .ok (.getfield 24, 3) := by decide +kernel
theorem dX9_delay_29 : decode cX9_delay 29 = .ok (.getfield 96, 3) := by decide +kernel
theorem dX9_delay_32 : decode cX9_delay 32 = .ok (.iload_n 1, 1) := by decide +kernel
theorem dX9_delay_33 : decode cX9_delay 33 = .ok (.iaload, 1) := by decide +kernel
theorem dX9_delay_34 : decode cX9_delay 34 = .ok (.istore_n 3, 1) := by decide +kernel
theorem dX9_delay_35 : decode cX9_delay 35 = .ok (.aload_n 0, 1) := by decide +kernel
theorem dX9_delay_36 : decode cX9_delay 36 = .ok (.getfield 24, 3) := by decide +kernel
theorem dX9_delay_39 : decode cX9_delay 39 = .ok (.getfield 96, 3) := by decide +kernel
theorem dX9_delay_42 : decode cX9_delay 42 = .ok (.iload_n 1, 1) := by decide +kernel
theorem dX9_delay_43 : decode cX9_delay 43 = .ok (.iload_n 2, 1) := by decide +kernel
theorem dX9_delay_44 : decode cX9_delay 44 = .ok (.iastore, 1) := by decide +kernel
theorem dX9_delay_45 : decode cX9_delay 45 = .ok (.iload_n 3, 1) := by decide +kernel
theorem dX9_delay_46 : decode cX9_delay 46 = .ok (.ireturn, 1) := by decide +kernel
theorem dX9_aim_0 : decode cX9_aim 0 = .ok (.iload_n 1, 1) := by decide +kernel
theorem dX9_aim_1 : decode cX9_aim 1 = .ok (.invokestatic 170, 3) := by decide +kernel
theorem dX9_aim_4 : decode cX9_aim 4 = .ok (.ifCond .ne 10, 3) := by decide +kernel
theorem dX9_aim_7 : decode cX9_aim 7 = .ok (.iload_n 2, 1) := by decide +kernel
theorem dX9_aim_8 : decode cX9_aim 8 = .ok (.invokestatic 125, 3) := by decide +kernel
theorem dX9_aim_11 : decode cX9_aim 11 = .ok (.ifCond .eq 7, 3) := by decide +kernel
theorem dX9_aim_14 : decode cX9_aim 14 = .ok (.sipush (-1001), 3) := by decide +kernel
theorem dX9_aim_17 : decode cX9_aim 17 = .ok (.ireturn, 1) := by decide +kernel
theorem dX9_aim_18 : decode cX9_aim 18 = .ok (.iload_n 3, 1) := by decide +kernel
theorem dX9_aim_19 : decode cX9_aim 19 = .ok (.iconst 0, 1) := by decide +kernel
theorem dX9_aim_20 : decode cX9_aim 20 = .ok (.bipush 11, 2) := by decide +kernel
theorem dX9_aim_22 : decode cX9_aim 22 = .ok (.invokestatic 47, 3) := by decide +kernel
theorem dX9_aim_25 : decode cX9_aim 25 = .ok (.ifCond .eq 7, 3) := by decide +kernel
theorem dX9_aim_28 : decode cX9_aim 28 = .ok (.sipush (-1002), 3) := by decide +kernel
theorem dX9_aim_31 : decode cX9_aim 31 = .ok (.ireturn, 1) := by decide +kernel
theorem dX9_aim_32 : decode cX9_aim 32 = .ok (.aload_n 0, 1) := by decide +kernel
theorem dX9_aim_33 : decode cX9_aim 33 = .ok (.getfield 17, 3) := by decide +kernel
theorem dX9_aim_36 : decode cX9_aim 36 = .ok (.iload_n 1, 1) := by decide +kernel
theorem dX9_aim_37 : decode cX9_aim 37 = .ok (.aaload, 1) := by decide +kernel
theorem dX9_aim_38 : decode cX9_aim 38 = .ok (.getfield 182, 3) := by decide +kernel
theorem dX9_aim_41 : decode cX9_aim 41 = .ok (.iload_n 2, 1) := by decide +kernel
theorem dX9_aim_42 : decode cX9_aim 42 = .ok (.if_icmp .ne 20, 3) := by decide +kernel
theorem dX9_aim_45 : decode cX9_aim 45 = .ok (.aload_n 0, 1) := by decide +kernel
theorem dX9_aim_46 : decode cX9_aim 46 = .ok (.getfield 17, 3) := by decide +kernel
theorem dX9_aim_49 : decode cX9_aim 49 = .ok (.iload_n 1, 1) := by decide +kernel
theorem dX9_aim_50 : decode cX9_aim 50 = .ok (.aaload, 1) := by decide +kernel
theorem dX9_aim_51 : decode cX9_aim 51 = .ok (.getfield 185, 3) := by decide +kernel
theorem dX9_aim_54 : decode cX9_aim 54 = .ok (.iload_n 3, 1) := by decide +kernel
theorem dX9_aim_55 : decode cX9_aim 55 = .ok (.if_icmp .ne 7, 3) := by decide +kernel
theorem dX9_aim_58 : decode cX9_aim 58 = .ok (.iconst 1, 1) := by decide +kernel
theorem dX9_aim_59 : decode cX9_aim 59 = .ok (.goto 4, 3) := by decide +kernel
theorem dX9_aim_62 : decode cX9_aim 62 = .ok (.iconst 0, 1) := by decide +kernel
theorem dX9_aim_63 : decode cX9_aim 63 = .ok (.istore 4, 2) := by decide +kernel
theorem dX9_aim_65 : decode cX9_aim 65 = .ok (.aload_n 0, 1) := by decide +kernel
theorem dX9_aim_66 : decode cX9_aim 66 = .ok (.getfield 17, 3) := by decide +kernel
theorem dX9_aim_69 : decode cX9_aim 69 = .ok (.iload_n 1, 1) := by decide +kernel
theorem dX9_aim_70 : decode cX9_aim 70 = .ok (.aaload, 1) := by decide +kernel
theorem dX9_aim_71 : decode cX9_aim 71 = .ok (.iload_n 2, 1) := by decide +kernel
theorem dX9_aim_72 : decode cX9_aim 72 = .ok (.iload_n 3, 1) := by decide +kernel
theorem dX9_aim_73 : decode cX9_aim 73 = .ok (.invokevirtual 99, 3) := by decide +kernel
theorem dX9_aim_76 : decode cX9_aim 76 = .ok (.iload 4, 2) := by decide +kernel
theorem dX9_aim_78 : decode cX9_aim 78 = .ok (.ifCond .eq 7, 3) := by decide +kernel
theorem dX9_aim_81 : decode cX9_aim 81 = .ok (.iconst 0, 1) := by decide +kernel
theorem dX9_aim_82 : decode cX9_aim 82 = .ok (.goto 4, 3) := by decide +kernel
theorem dX9_aim_85 : decode cX9_aim 85 = .ok (.iconst 1, 1) := by decide +kernel
theorem dX9_aim_86 : decode cX9_aim 86 = .ok (.ireturn, 1) := by decide +kernel
theorem dX9_send_0 : decode cX9_send 0 = .ok (.iload_n 1, 1) := by decide +kernel
theorem dX9_send_1 : decode cX9_send 1 = .ok (.invokestatic 170, 3) := by decide +kernel
theorem dX9_send_4 : decode cX9_send 4 = .ok (.ifCond .eq 7, 3) := by decide +kernel
theorem dX9_send_7 : decode cX9_send 7 = .ok (.sipush (-1001), 3) := by decide +kernel
theorem dX9_send_10 : decode cX9_send 10 = .ok (.ireturn, 1) := by decide +kernel
theorem dX9_send_11 : decode cX9_send 11 = .ok (.iload_n 2, 1) := by decide +kernel
theorem dX9_send_12 : decode cX9_send 12 = .ok (.invokestatic 122, 3) := by decide +kernel
theorem dX9_send_15 : decode cX9_send 15 = .ok (.ifCond .eq 9, 3) := by decide +kernel
theorem dX9_send_18 : decode cX9_send 18 = .ok (.sipush (-1002), 3) := by decide +kernel
theorem dX9_send_21 : decode cX9_send 21 = .ok (.goto 16, 3) := by decide +kernel
theorem dX9_send_24 : decode cX9_send 24 = .ok (.aload_n 0, 1) := by decide +kernel
theorem dX9_send_25 : decode cX9_send 25 = .ok (.getfield 17, 3) := by decide +kernel
theorem dX9_send_28 : decode cX9_send 28 = .ok (.iload_n 1, 1) := by decide +kernel
theorem dX9_send_29 : decode cX9_send 29 = .ok (.aaload, 1) := by decide +kernel
theorem dX9_send_30 : decode cX9_send 30 = .ok (.iconst 0, 1) := by decide +kernel
theorem dX9_send_31 : decode cX9_send 31 = .ok (.iload_n 2, 1) := by decide +kernel
theorem dX9_send_32 : decode cX9_send 32 = .ok (.iconst 0, 1) := by decide +kernel
theorem dX9_send_33 : decode cX9_send 33 = .ok (.iconst 0, 1) := by decide +kernel
theorem dX9_send_34 : decode cX9_send 34 = .ok (.invokevirtual 188, 3) := by decide +kernel
theorem dX9_send_37 : decode cX9_send 37 = .ok (.ireturn, 1) := by decide +kernel
theorem dX9_store_0 : decode cX9_store 0 = .ok (.iload_n 1, 1) := by decide +kernel
theorem dX9_store_1 : decode cX9_store 1 = .ok (.invokestatic 170, 3) := by decide +kernel
theorem dX9_store_4 : decode cX9_store 4 = .ok (.ifCond .eq 7, 3) := by decide +kernel
theorem dX9_store_7 : decode cX9_store 7 = .ok (.sipush (-1001), 3) := by decide +kernel
theorem dX9_store_10 : decode cX9_store 10 = .ok (.ireturn, 1) := by decide +kernel
theorem dX9_store_11 : decode cX9_store 11 = .ok (.iload_n 2, 1) := by decide +kernel
theorem dX9_store_12 : decode cX9_store 12 = .ok (.invokestatic 122, 3) := by decide +kernel
theorem dX9_store_15 : decode cX9_store 15 = .ok (.ifCond .eq 9, 3) := by decide +kernel
theorem dX9_store_18 : decode cX9_store 18 = .ok (.sipush (-1002), 3) := by decide +kernel
theorem dX9_store_21 : decode cX9_store 21 = .ok (.goto 16, 3) := by decide +kernel
theorem dX9_store_24 : decode cX9_store 24 = .ok (.aload_n 0, 1) := by decide +kernel
theorem dX9_store_25 : decode cX9_store 25 = .ok (.getfield 17, 3) := by decide +kernel
theorem dX9_store_28 : decode cX9_store 28 = .ok (.iload_n 1, 1) := by decide +kernel
theorem dX9_store_29 : decode cX9_store 29 = .ok (.aaload, 1) := by decide +kernel
theorem dX9_store_30 : decode cX9_store 30 = .ok (.iconst 1, 1) := by decide +kernel
theorem dX9_store_31 : decode cX9_store 31 = .ok (.iload_n 2, 1) := by decide +kernel
theorem dX9_store_32 : decode cX9_store 32 = .ok (.iconst 0, 1) := by decide +kernel
theorem dX9_store_33 : decode cX9_store 33 = .ok (.iconst 0, 1) := by decide +kernel
theorem dX9_store_34 : decode cX9_store 34 = .ok (.invokevirtual 188, 3) := by decide +kernel
theorem dX9_store_37 : decode cX9_store 37 = .ok (.ireturn, 1) := by decide +kernel
theorem dX9_read_0 : decode cX9_read 0 = .ok (.iload_n 1, 1) := by decide +kernel
theorem dX9_read_1 : decode cX9_read 1 = .ok (.invokestatic 170, 3) := by decide +kernel
theorem dX9_read_4 : decode cX9_read 4 = .ok (.ifCond .ne 10, 3) := by decide +kernel
theorem dX9_read_7 : decode cX9_read 7 = .ok (.iload_n 2, 1) := by decide +kernel
theorem dX9_read_8 : decode cX9_read 8 = .ok (.invokestatic 119, 3) := by decide +kernel
theorem dX9_read_11 : decode cX9_read 11 = .ok (.ifCond .eq 7, 3) := by decide +kernel
theorem dX9_read_14 : decode cX9_read 14 = .ok (.sipush (-1001), 3) := by decide +kernel
theorem dX9_read_17 : decode cX9_read 17 = .ok (.ireturn, 1) := by decide +kernel
theorem dX9_read_18 : decode cX9_read 18 = .ok (.aload_n 0, 1) := by decide +kernel
theorem dX9_read_19 : decode cX9_read 19 = .ok (.getfield 17, 3) := by decide +kernel
theorem dX9_read_22 : decode cX9_read 22 = .ok (.iload_n 1, 1) := by decide +kernel
theorem dX9_read_23 : decode cX9_read 23 = .ok (.aaload, 1) := by decide +kernel
theorem dX9_read_24 : decode cX9_read 24 = .ok (.iconst 2, 1) := by decide +kernel
theorem dX9_read_25 : decode cX9_read 25 = .ok (.iconst 0, 1) := by decide +kernel
theorem dX9_read_26 : decode cX9_read 26 = .ok (.iconst 0, 1) := by decide +kernel
theorem dX9_read_27 : decode cX9_read 27 = .ok (.iload_n 2, 1) := by decide +kernel
theorem dX9_read_28 : decode cX9_read 28 = .ok (.invokevirtual 188, 3) := by decide +kernel
theorem dX9_read_31 : decode cX9_read 31 = .ok (.ireturn, 1) := by decide +kernel
theorem dX9_add_0 : decode cX9_add 0 = .ok (.iload_n 1, 1) := by decide +kernel
theorem dX9_add_1 : decode cX9_add 1 = .ok (.invokestatic 170, 3) := by decide +kernel
theorem dX9_add_4 : decode cX9_add 4 = .ok (.ifCond .ne 10, 3) := by decide +kernel
theorem dX9_add_7 : decode cX9_add 7 = .ok (.iload_n 3, 1) := by decide +kernel
theorem dX9_add_8 : decode cX9_add 8 = .ok (.invokestatic 119, 3) := by decide +kernel
theorem dX9_add_11 : decode cX9_add 11 = .ok (.ifCond .eq 7, 3) := by decide +kernel
theorem dX9_add_14 : decode cX9_add 14 = .ok (.sipush (-1001), 3) := by decide +kernel
theorem dX9_add_17 : decode cX9_add 17 = .ok (.ireturn, 1) := by decide +kernel
theorem dX9_add_18 : decode cX9_add 18 = .ok (.iload_n 2, 1) := by decide +kernel
theorem dX9_add_19 : decode cX9_add 19 = .ok (.invokestatic 122, 3) := by decide +kernel
theorem dX9_add_22 : decode cX9_add 22 = .ok (.ifCond .eq 9, 3) := by decide +kernel
theorem dX9_add_25 : decode cX9_add 25 = .ok (.sipush (-1002), 3) := by decide +kernel
theorem dX9_add_28 : decode cX9_add 28 = .ok (.goto 16, 3) := by decide +kernel
theorem dX9_add_31 : decode cX9_add 31 = .ok (.aload_n 0, 1) := by decide +kernel
theorem dX9_add_32 : decode cX9_add 32 = .ok (.getfield 17, 3) := by decide +kernel
theorem dX9_add_35 : decode cX9_add 35 = .ok (.iload_n 1, 1) := by decide +kernel
theorem dX9_add_36 : decode cX9_add 36 = .ok (.aaload, 1) := by decide +kernel
theorem dX9_add_37 : decode cX9_add 37 = .ok (.iconst 3, 1) := by decide +kernel
theorem dX9_add_38 : decode cX9_add 38 = .ok (.iload_n 2, 1) := by decide +kernel
theorem dX9_add_39 : decode cX9_add 39 = .ok (.iconst 0, 1) := by decide +kernel
theorem dX9_add_40 : decode cX9_add 40 = .ok (.iload_n 3, 1) := by decide +kernel
theorem dX9_add_41 : decode cX9_add 41 = .ok (.invokevirtual 188, 3) := by decide +kernel
theorem dX9_add_44 : decode cX9_add 44 = .ok (.ireturn, 1) := by decide +kernel
theorem dX9_swap_0 : decode cX9_swap 0 = .ok (.iload_n 1, 1) := by decide +kernel
theorem dX9_swap_1 : decode cX9_swap 1 = .ok (.invokestatic 170, 3) := by decide +kernel
theorem dX9_swap_4 : decode cX9_swap 4 = .ok (.ifCond .ne 11, 3) := by decide +kernel
theorem dX9_swap_7 : decode cX9_swap 7 = .ok (.iload 4, 2) := by decide +kernel
theorem dX9_swap_9 : decode cX9_swap 9 = .ok (.invokestatic 119, 3) := by decide +kernel
theorem dX9_swap_12 : decode cX9_swap 12 = .ok (.ifCond .eq 7, 3) := by decide +kernel
theorem dX9_swap_15 : decode cX9_swap 15 = .ok (.sipush (-1001), 3) := by decide +kernel
theorem dX9_swap_18 : decode cX9_swap 18 = .ok (.ireturn, 1) := by decide +kernel
theorem dX9_swap_19 : decode cX9_swap 19 = .ok (.iload_n 2, 1) := by decide +kernel
theorem dX9_swap_20 : decode cX9_swap 20 = .ok (.invokestatic 122, 3) := by decide +kernel
theorem dX9_swap_23 : decode cX9_swap 23 = .ok (.ifCond .ne 10, 3) := by decide +kernel
theorem dX9_swap_26 : decode cX9_swap 26 = .ok (.iload_n 3, 1) := by decide +kernel
theorem dX9_swap_27 : decode cX9_swap 27 = .ok (.invokestatic 122, 3) := by decide +kernel
theorem dX9_swap_30 : decode cX9_swap 30 = .ok (.ifCond .eq 9, 3) := by decide +kernel
theorem dX9_swap_33 : decode cX9_swap 33 = .ok (.sipush (-1002), 3) := by decide +kernel
theorem dX9_swap_36 : decode cX9_swap 36 = .ok (.goto 17, 3) := by decide +kernel
theorem dX9_swap_39 : decode cX9_swap 39 = .ok (.aload_n 0, 1) := by decide +kernel
theorem dX9_swap_40 : decode cX9_swap 40 = .ok (.getfield 17, 3) := by decide +kernel
theorem dX9_swap_43 : decode cX9_swap 43 = .ok (.iload_n 1, 1) := by decide +kernel
theorem dX9_swap_44 : decode cX9_swap 44 = .ok (.aaload, 1) := by decide +kernel
theorem dX9_swap_45 : decode cX9_swap 45 = .ok (.iconst 4, 1) := by decide +kernel
theorem dX9_swap_46 : decode cX9_swap 46 = .ok (.iload_n 2, 1) := by decide +kernel
theorem dX9_swap_47 : decode cX9_swap 47 = .ok (.iload_n 3, 1) := by decide +kernel
theorem dX9_swap_48 : decode cX9_swap 48 = .ok (.iload 4, 2) := by decide +kernel
theorem dX9_swap_50 : decode cX9_swap 50 = .ok (.invokevirtual 188, 3) := by decide +kernel
theorem dX9_swap_53 : decode cX9_swap 53 = .ok (.ireturn, 1) := by decide +kernel
theorem dX9_receive_0 : decode cX9_receive 0 = .ok (.iload_n 1, 1) := by decide +kernel
theorem dX9_receive_1 : decode cX9_receive 1 = .ok (.invokestatic 170, 3) := by decide +kernel
theorem dX9_receive_4 : decode cX9_receive 4 = .ok (.ifCond .ne 10, 3) := by decide +kernel
theorem dX9_receive_7 : decode cX9_receive 7 = .ok (.iload_n 2, 1) := by decide +kernel
theorem dX9_receive_8 : decode cX9_receive 8 = .ok (.invokestatic 119, 3) := by decide +kernel
theorem dX9_receive_11 : decode cX9_receive 11 = .ok (.ifCond .eq 7, 3) := by decide +kernel
theorem dX9_receive_14 : decode cX9_receive 14 = .ok (.sipush (-1001), 3) := by decide +kernel
theorem dX9_receive_17 : decode cX9_receive 17 = .ok (.ireturn, 1) := by decide +kernel
theorem dX9_receive_18 : decode cX9_receive 18 = .ok (.aload_n 0, 1) := by decide +kernel
theorem dX9_receive_19 : decode cX9_receive 19 = .ok (.getfield 17, 3) := by decide +kernel
theorem dX9_receive_22 : decode cX9_receive 22 = .ok (.iload_n 1, 1) := by decide +kernel
theorem dX9_receive_23 : decode cX9_receive 23 = .ok (.aaload, 1) := by decide +kernel
theorem dX9_receive_24 : decode cX9_receive 24 = .ok (.iload_n 2, 1) := by decide +kernel
theorem dX9_receive_25 : decode cX9_receive 25 = .ok (.invokevirtual 192, 3) := by decide +kernel
theorem dX9_receive_28 : decode cX9_receive 28 = .ok (.ireturn, 1) := by decide +kernel
theorem dX9_step_0 : decode cX9_step 0 = .ok (.iload_n 1, 1) := by decide +kernel
theorem dX9_step_1 : decode cX9_step 1 = .ok (.iconst 0, 1) := by decide +kernel
theorem dX9_step_2 : decode cX9_step 2 = .ok (.iconst 2, 1) := by decide +kernel
theorem dX9_step_3 : decode cX9_step 3 = .ok (.invokestatic 47, 3) := by decide +kernel
theorem dX9_step_6 : decode cX9_step 6 = .ok (.ifCond .eq 7, 3) := by decide +kernel
theorem dX9_step_9 : decode cX9_step 9 = .ok (.sipush (-1002), 3) := by decide +kernel
theorem dX9_step_12 : decode cX9_step 12 = .ok (.ireturn, 1) := by decide +kernel
theorem dX9_step_13 : decode cX9_step 13 = .ok (.aload_n 0, 1) := by decide +kernel
theorem dX9_step_14 : decode cX9_step 14 = .ok (.getfield 24, 3) := by decide +kernel
theorem dX9_step_17 : decode cX9_step 17 = .ok (.invokevirtual 195, 3) := by decide +kernel
theorem dX9_step_20 : decode cX9_step 20 = .ok (.astore_n 2, 1) := by decide +kernel
theorem dX9_step_21 : decode cX9_step 21 = .ok (.aload_n 2, 1) := by decide +kernel
theorem dX9_step_22 : decode cX9_step 22 = .ok (.ifnonnull 7, 3) := by decide +kernel
theorem dX9_step_25 : decode cX9_step 25 = .ok (.sipush (-1003), 3) := by decide +kernel
theorem dX9_step_28 : decode cX9_step 28 = .ok (.ireturn, 1) := by decide +kernel
theorem dX9_step_29 : decode cX9_step 29 = .ok (.iload_n 1, 1) := by decide +kernel
theorem dX9_step_30 : decode cX9_step 30 = .ok (.iconst 1, 1) := by decide +kernel
theorem dX9_step_31 : decode cX9_step 31 = .ok (.if_icmp .ne 21, 3) := by decide +kernel
theorem dX9_step_34 : decode cX9_step 34 = .ok (.aload_n 0, 1) := by decide +kernel
theorem dX9_step_35 : decode cX9_step 35 = .ok (.getfield 24, 3) := by decide +kernel
theorem dX9_step_38 : decode cX9_step 38 = .ok (.dup, 1) := by decide +kernel
theorem dX9_step_39 : decode cX9_step 39 = .ok (.getfield 199, 3) := by decide +kernel
theorem dX9_step_42 : decode cX9_step 42 = .ok (.iconst 1, 1) := by decide +kernel
theorem dX9_step_43 : decode cX9_step 43 = .ok (.iadd, 1) := by decide +kernel
theorem dX9_step_44 : decode cX9_step 44 = .ok (.putfield 199, 3) := by decide +kernel
theorem dX9_step_47 : decode cX9_step 47 = .ok (.aload_n 2, 1) := by decide +kernel
theorem dX9_step_48 : decode cX9_step 48 = .ok (.getfield 202, 3) := by decide +kernel
theorem dX9_step_51 : decode cX9_step 51 = .ok (.ireturn, 1) := by decide +kernel
theorem dX9_step_52 : decode cX9_step 52 = .ok (.aload_n 0, 1) := by decide +kernel
theorem dX9_step_53 : decode cX9_step 53 = .ok (.getfield 24, 3) := by decide +kernel
theorem dX9_step_56 : decode cX9_step 56 = .ok (.aload_n 2, 1) := by decide +kernel
theorem dX9_step_57 : decode cX9_step 57 = .ok (.getfield 207, 3) := by decide +kernel
theorem dX9_step_60 : decode cX9_step 60 = .ok (.invokevirtual 210, 3) := by decide +kernel
theorem dX9_step_63 : decode cX9_step 63 = .ok (.iload_n 1, 1) := by decide +kernel
theorem dX9_step_64 : decode cX9_step 64 = .ok (.iconst 2, 1) := by decide +kernel
theorem dX9_step_65 : decode cX9_step 65 = .ok (.if_icmp .ne 11, 3) := by decide +kernel
theorem dX9_step_68 : decode cX9_step 68 = .ok (.aload_n 0, 1) := by decide +kernel
theorem dX9_step_69 : decode cX9_step 69 = .ok (.getfield 24, 3) := by decide +kernel
theorem dX9_step_72 : decode cX9_step 72 = .ok (.aload_n 2, 1) := by decide +kernel
theorem dX9_step_73 : decode cX9_step 73 = .ok (.invokevirtual 213, 3) := by decide +kernel
theorem dX9_step_76 : decode cX9_step 76 = .ok (.aload_n 0, 1) := by decide +kernel
theorem dX9_step_77 : decode cX9_step 77 = .ok (.getfield 17, 3) := by decide +kernel
theorem dX9_step_80 : decode cX9_step 80 = .ok (.aload_n 2, 1) := by decide +kernel
theorem dX9_step_81 : decode cX9_step 81 = .ok (.getfield 202, 3) := by decide +kernel
theorem dX9_step_84 : decode cX9_step 84 = .ok (.aaload, 1) := by decide +kernel
theorem dX9_step_85 : decode cX9_step 85 = .ok (.aload_n 2, 1) := by decide +kernel
theorem dX9_step_86 : decode cX9_step 86 = .ok (.invokevirtual 217, 3) := by decide +kernel
theorem dX9_step_89 : decode cX9_step 89 = .ok (.aload_n 2, 1) := by decide +kernel
theorem dX9_step_90 : decode cX9_step 90 = .ok (.getfield 202, 3) := by decide +kernel
theorem dX9_step_93 : decode cX9_step 93 = .ok (.ireturn, 1) := by decide +kernel
theorem dX9_tick_0 : decode cX9_tick 0 = .ok (.iload_n 1, 1) := by decide +kernel
theorem dX9_tick_1 : decode cX9_tick 1 = .ok (.invokestatic 170, 3) := by decide +kernel
theorem dX9_tick_4 : decode cX9_tick 4 = .ok (.ifCond .eq 7, 3) := by decide +kernel
theorem dX9_tick_7 : decode cX9_tick 7 = .ok (.sipush (-1001), 3) := by decide +kernel
theorem dX9_tick_10 : decode cX9_tick 10 = .ok (.ireturn, 1) := by decide +kernel
theorem dX9_tick_11 : decode cX9_tick 11 = .ok (.aload_n 0, 1) := by decide +kernel
theorem dX9_tick_12 : decode cX9_tick 12 = .ok (.getfield 17, 3) := by decide +kernel
theorem dX9_tick_15 : decode cX9_tick 15 = .ok (.iload_n 1, 1) := by decide +kernel
theorem dX9_tick_16 : decode cX9_tick 16 = .ok (.aaload, 1) := by decide +kernel
theorem dX9_tick_17 : decode cX9_tick 17 = .ok (.getfield 158, 3) := by decide +kernel
theorem dX9_tick_20 : decode cX9_tick 20 = .ok (.iconst 1, 1) := by decide +kernel
theorem dX9_tick_21 : decode cX9_tick 21 = .ok (.if_icmp .ne 15, 3) := by decide +kernel
theorem dX9_tick_24 : decode cX9_tick 24 = .ok (.aload_n 0, 1) := by decide +kernel
theorem dX9_tick_25 : decode cX9_tick 25 = .ok (.getfield 17, 3) := by decide +kernel
theorem dX9_tick_28 : decode cX9_tick 28 = .ok (.iload_n 1, 1) := by decide +kernel
theorem dX9_tick_29 : decode cX9_tick 29 = .ok (.aaload, 1) := by decide +kernel
theorem dX9_tick_30 : decode cX9_tick 30 = .ok (.getfield 173, 3) := by decide +kernel
theorem dX9_tick_33 : decode cX9_tick 33 = .ok (.ifCond .ne 7, 3) := by decide +kernel
theorem dX9_tick_36 : decode cX9_tick 36 = .ok (.sipush (-1003), 3) := by decide +kernel
theorem dX9_tick_39 : decode cX9_tick 39 = .ok (.ireturn, 1) := by decide +kernel
theorem dX9_tick_40 : decode cX9_tick 40 = .ok (.aload_n 0, 1) := by decide +kernel
theorem dX9_tick_41 : decode cX9_tick 41 = .ok (.getfield 17, 3) := by decide +kernel
theorem dX9_tick_44 : decode cX9_tick 44 = .ok (.iload_n 1, 1) := by decide +kernel
theorem dX9_tick_45 : decode cX9_tick 45 = .ok (.aaload, 1) := by decide +kernel
theorem dX9_tick_46 : decode cX9_tick 46 = .ok (.invokevirtual 220, 3) := by decide +kernel
theorem dX9_tick_49 : decode cX9_tick 49 = .ok (.aload_n 0, 1) := by decide +kernel
theorem dX9_tick_50 : decode cX9_tick 50 = .ok (.getfield 17, 3) := by decide +kernel
theorem dX9_tick_53 : decode cX9_tick 53 = .ok (.iload_n 1, 1) := by decide +kernel
theorem dX9_tick_54 : decode cX9_tick 54 = .ok (.aaload, 1) := by decide +kernel
theorem dX9_tick_55 : decode cX9_tick 55 = .ok (.getfield 223, 3) := by decide +kernel
theorem dX9_tick_58 : decode cX9_tick 58 = .ok (.ireturn, 1) := by decide +kernel
theorem dX9_take_0 : decode cX9_take 0 = .ok (.iload_n 1, 1) := by decide +kernel
theorem dX9_take_1 : decode cX9_take 1 = .ok (.invokestatic 116, 3) := by decide +kernel
theorem dX9_take_4 : decode cX9_take 4 = .ok (.ifCond .eq 7, 3) := by decide +kernel
theorem dX9_take_7 : decode cX9_take 7 = .ok (.sipush (-1001), 3) := by decide +kernel
theorem dX9_take_10 : decode cX9_take 10 = .ok (.ireturn, 1) := by decide +kernel
theorem dX9_take_11 : decode cX9_take 11 = .ok (.aload_n 0, 1) := by decide +kernel
theorem dX9_take_12 : decode cX9_take 12 = .ok (.getfield 11, 3) := by decide +kernel
theorem dX9_take_15 : decode cX9_take 15 = .ok (.iload_n 1, 1) := by decide +kernel
theorem dX9_take_16 : decode cX9_take 16 = .ok (.aaload, 1) := by decide +kernel
theorem dX9_take_17 : decode cX9_take 17 = .ok (.invokevirtual 226, 3) := by decide +kernel
theorem dX9_take_20 : decode cX9_take 20 = .ok (.astore_n 2, 1) := by decide +kernel
theorem dX9_take_21 : decode cX9_take 21 = .ok (.aload_n 2, 1) := by decide +kernel
theorem dX9_take_22 : decode cX9_take 22 = .ok (.ifnonnull 5, 3) := by decide +kernel
theorem dX9_take_25 : decode cX9_take 25 = .ok (.iconst (-1), 1) := by decide +kernel
theorem dX9_take_26 : decode cX9_take 26 = .ok (.ireturn, 1) := by decide +kernel
theorem dX9_take_27 : decode cX9_take 27 = .ok (.aload_n 0, 1) := by decide +kernel
theorem dX9_take_28 : decode cX9_take 28 = .ok (.aload_n 2, 1) := by decide +kernel
theorem dX9_take_29 : decode cX9_take 29 = .ok (.putfield 35, 3) := by decide +kernel
theorem dX9_take_32 : decode cX9_take 32 = .ok (.aload_n 0, 1) := by decide +kernel
theorem dX9_take_33 : decode cX9_take 33 = .ok (.iload_n 1, 1) := by decide +kernel
theorem dX9_take_34 : decode cX9_take 34 = .ok (.putfield 39, 3) := by decide +kernel
theorem dX9_take_37 : decode cX9_take 37 = .ok (.aload_n 2, 1) := by decide +kernel
theorem dX9_take_38 : decode cX9_take 38 = .ok (.getfield 230, 3) := by decide +kernel
theorem dX9_take_41 : decode cX9_take 41 = .ok (.ireturn, 1) := by decide +kernel
theorem dX9_taken_0 : decode cX9_taken 0 = .ok (.iload_n 1, 1) := by decide +kernel
theorem dX9_taken_1 : decode cX9_taken 1 = .ok (.iconst 0, 1) := by decide +kernel
theorem dX9_taken_2 : decode cX9_taken 2 = .ok (.iconst 5, 1) := by decide +kernel
theorem dX9_taken_3 : decode cX9_taken 3 = .ok (.invokestatic 47, 3) := by decide +kernel
theorem dX9_taken_6 : decode cX9_taken 6 = .ok (.ifCond .eq 7, 3) := by decide +kernel
theorem dX9_taken_9 : decode cX9_taken 9 = .ok (.sipush (-1002), 3) := by decide +kernel
theorem dX9_taken_12 : decode cX9_taken 12 = .ok (.ireturn, 1) := by decide +kernel
theorem dX9_taken_13 : decode cX9_taken 13 = .ok (.aload_n 0, 1) := by decide +kernel
theorem dX9_taken_14 : decode cX9_taken 14 = .ok (.getfield 35, 3) := by decide +kernel
theorem dX9_taken_17 : decode cX9_taken 17 = .ok (.ifnonnull 5, 3) := by decide +kernel
theorem dX9_taken_20 : decode cX9_taken 20 = .ok (.iconst (-1), 1) := by decide +kernel
theorem dX9_taken_21 : decode cX9_taken 21 = .ok (.ireturn, 1) := by decide +kernel
theorem dX9_taken_22 : decode cX9_taken 22 = .ok (.iload_n 1, 1) := by decide +kernel
theorem dX9_taken_23 : decode cX9_taken 23 = .ok (.tableswitch 70 0 4 #[33, 38, 46, 54, 62], 33) := by decide +kernel
theorem dX9_taken_56 : decode cX9_taken 56 = .ok (.aload_n 0, 1) := by decide +kernel
theorem dX9_taken_57 : decode cX9_taken 57 = .ok (.getfield 39, 3) := by decide +kernel
theorem dX9_taken_60 : decode cX9_taken 60 = .ok (.ireturn, 1) := by decide +kernel
theorem dX9_taken_61 : decode cX9_taken 61 = .ok (.aload_n 0, 1) := by decide +kernel
theorem dX9_taken_62 : decode cX9_taken 62 = .ok (.getfield 35, 3) := by decide +kernel
theorem dX9_taken_65 : decode cX9_taken 65 = .ok (.getfield 235, 3) := by decide +kernel
theorem dX9_taken_68 : decode cX9_taken 68 = .ok (.ireturn, 1) := by decide +kernel
theorem dX9_taken_69 : decode cX9_taken 69 = .ok (.aload_n 0, 1) := by decide +kernel
theorem dX9_taken_70 : decode cX9_taken 70 = .ok (.getfield 35, 3) := by decide +kernel
theorem dX9_taken_73 : decode cX9_taken 73 = .ok (.getfield 238, 3) := by decide +kernel
theorem dX9_taken_76 : decode cX9_taken 76 = .ok (.ireturn, 1) := by decide +kernel
theorem dX9_taken_77 : decode cX9_taken 77 = .ok (.aload_n 0, 1) := by decide +kernel
theorem dX9_taken_78 : decode cX9_taken 78 = .ok (.getfield 35, 3) := by decide +kernel
theorem dX9_taken_81 : decode cX9_taken 81 = .ok (.getfield 241, 3) := by decide +kernel
theorem dX9_taken_84 : decode cX9_taken 84 = .ok (.ireturn, 1) := by decide +kernel
theorem dX9_taken_85 : decode cX9_taken 85 = .ok (.aload_n 0, 1) := by decide +kernel
theorem dX9_taken_86 : decode cX9_taken 86 = .ok (.getfield 35, 3) := by decide +kernel
theorem dX9_taken_89 : decode cX9_taken 89 = .ok (.getfield 230, 3) := by decide +kernel
theorem dX9_taken_92 : decode cX9_taken 92 = .ok (.ireturn, 1) := by decide +kernel
theorem dX9_taken_93 : decode cX9_taken 93 = .ok (.aload_n 0, 1) := by decide +kernel
theorem dX9_taken_94 : decode cX9_taken 94 = .ok (.getfield 35, 3) := by decide +kernel
theorem dX9_taken_97 : decode cX9_taken 97 = .ok (.getfield 244, 3) := by decide +kernel
theorem dX9_taken_100 : decode cX9_taken 100 = .ok (.ireturn, 1) := by decide +kernel
theorem dX9_end_0 : decode cX9_end 0 = .ok (.iload_n 1, 1) := by decide +kernel
theorem dX9_end_1 : decode cX9_end 1 = .ok (.invokestatic 170, 3) := by decide +kernel
theorem dX9_end_4 : decode cX9_end 4 = .ok (.ifCond .eq 7, 3) := by decide +kernel
theorem dX9_end_7 : decode cX9_end 7 = .ok (.sipush (-1001), 3) := by decide +kernel
theorem dX9_end_10 : decode cX9_end 10 = .ok (.ireturn, 1) := by decide +kernel
theorem dX9_end_11 : decode cX9_end 11 = .ok (.aload_n 0, 1) := by decide +kernel
theorem dX9_end_12 : decode cX9_end 12 = .ok (.getfield 17, 3) := by decide +kernel
theorem dX9_end_15 : decode cX9_end 15 = .ok (.iload_n 1, 1) := by decide +kernel
theorem dX9_end_16 : decode cX9_end 16 = .ok (.aaload, 1) := by decide +kernel
theorem dX9_end_17 : decode cX9_end 17 = .ok (.astore_n 3, 1) := by decide +kernel
theorem dX9_end_18 : decode cX9_end 18 = .ok (.iload_n 2, 1) := by decide +kernel
theorem dX9_end_19 : decode cX9_end 19 = .ok (.tableswitch 123 0 10 #[57, 62, 67, 72, 77, 82, 87, 92, 105, 113, 118], 57) := by decide +kernel
theorem dX9_end_76 : decode cX9_end 76 = .ok (.aload_n 3, 1) := by decide +kernel
theorem dX9_end_77 : decode cX9_end 77 = .ok (.getfield 158, 3) := by decide +kernel
theorem dX9_end_80 : decode cX9_end 80 = .ok (.ireturn, 1) := by decide +kernel
theorem dX9_end_81 : decode cX9_end 81 = .ok (.aload_n 3, 1) := by decide +kernel
theorem dX9_end_82 : decode cX9_end 82 = .ok (.getfield 247, 3) := by decide +kernel
theorem dX9_end_85 : decode cX9_end 85 = .ok (.ireturn, 1) := by decide +kernel
theorem dX9_end_86 : decode cX9_end 86 = .ok (.aload_n 3, 1) := by decide +kernel
theorem dX9_end_87 : decode cX9_end 87 = .ok (.getfield 173, 3) := by decide +kernel
theorem dX9_end_90 : decode cX9_end 90 = .ok (.ireturn, 1) := by decide +kernel
theorem dX9_end_91 : decode cX9_end 91 = .ok (.aload_n 3, 1) := by decide +kernel
theorem dX9_end_92 : decode cX9_end 92 = .ok (.getfield 250, 3) := by decide +kernel
theorem dX9_end_95 : decode cX9_end 95 = .ok (.ireturn, 1) := by decide +kernel
theorem dX9_end_96 : decode cX9_end 96 = .ok (.aload_n 3, 1) := by decide +kernel
theorem dX9_end_97 : decode cX9_end 97 = .ok (.getfield 176, 3) := by decide +kernel
theorem dX9_end_100 : decode cX9_end 100 = .ok (.ireturn, 1) := by decide +kernel
theorem dX9_end_101 : decode cX9_end 101 = .ok (.aload_n 3, 1) := by decide +kernel
theorem dX9_end_102 : decode cX9_end 102 = .ok (.getfield 223, 3) := by decide +kernel
theorem dX9_end_105 : decode cX9_end 105 = .ok (.ireturn, 1) := by decide +kernel
theorem dX9_end_106 : decode cX9_end 106 = .ok (.aload_n 3, 1) := by decide +kernel
theorem dX9_end_107 : decode cX9_end 107 = .ok (.getfield 253, 3) := by decide +kernel
theorem dX9_end_110 : decode cX9_end 110 = .ok (.ireturn, 1) := by decide +kernel
theorem dX9_end_111 : decode cX9_end 111 = .ok (.aload_n 3, 1) := by decide +kernel
theorem dX9_end_112 : decode cX9_end 112 = .ok (.getfield 256, 3) := by decide +kernel
theorem dX9_end_115 : decode cX9_end 115 = .ok (.ifCond .eq 7, 3) := by decide +kernel
theorem dX9_end_118 : decode cX9_end 118 = .ok (.iconst 1, 1) := by decide +kernel
theorem dX9_end_119 : decode cX9_end 119 = .ok (.goto 4, 3) := by decide +kernel
theorem dX9_end_122 : decode cX9_end 122 = .ok (.iconst 0, 1) := by decide +kernel
theorem dX9_end_123 : decode cX9_end 123 = .ok (.ireturn, 1) := by decide +kernel
theorem dX9_end_124 : decode cX9_end 124 = .ok (.aload_n 3, 1) := by decide +kernel
theorem dX9_end_125 : decode cX9_end 125 = .ok (.getfield 259, 3) := by decide +kernel
theorem dX9_end_128 : decode cX9_end 128 = .ok (.getfield 263, 3) := by decide +kernel
theorem dX9_end_131 : decode cX9_end 131 = .ok (.ireturn, 1) := by decide +kernel
theorem dX9_end_132 : decode cX9_end 132 = .ok (.aload_n 3, 1) := by decide +kernel
theorem dX9_end_133 : decode cX9_end 133 = .ok (.getfield 182, 3) := by decide +kernel
theorem dX9_end_136 : decode cX9_end 136 = .ok (.ireturn, 1) := by decide +kernel
theorem dX9_end_137 : decode cX9_end 137 = .ok (.aload_n 3, 1) := by decide +kernel
theorem dX9_end_138 : decode cX9_end 138 = .ok (.getfield 185, 3) := by decide +kernel
theorem dX9_end_141 : decode cX9_end 141 = .ok (.ireturn, 1) := by decide +kernel
theorem dX9_end_142 : decode cX9_end 142 = .ok (.sipush (-1002), 3) := by decide +kernel
theorem dX9_end_145 : decode cX9_end 145 = .ok (.ireturn, 1) := by decide +kernel
theorem dX9_open_0 : decode cX9_open 0 = .ok (.iload_n 1, 1) := by decide +kernel
theorem dX9_open_1 : decode cX9_open 1 = .ok (.invokestatic 170, 3) := by decide +kernel
theorem dX9_open_4 : decode cX9_open 4 = .ok (.ifCond .ne 22, 3) := by decide +kernel
theorem dX9_open_7 : decode cX9_open 7 = .ok (.iload_n 2, 1) := by decide +kernel
theorem dX9_open_8 : decode cX9_open 8 = .ok (.iconst 0, 1) := by decide +kernel
theorem dX9_open_9 : decode cX9_open 9 = .ok (.aload_n 0, 1) := by decide +kernel
theorem dX9_open_10 : decode cX9_open 10 = .ok (.getfield 17, 3) := by decide +kernel
theorem dX9_open_13 : decode cX9_open 13 = .ok (.iload_n 1, 1) := by decide +kernel
theorem dX9_open_14 : decode cX9_open 14 = .ok (.aaload, 1) := by decide +kernel
theorem dX9_open_15 : decode cX9_open 15 = .ok (.getfield 173, 3) := by decide +kernel
theorem dX9_open_18 : decode cX9_open 18 = .ok (.iconst 1, 1) := by decide +kernel
theorem dX9_open_19 : decode cX9_open 19 = .ok (.isub, 1) := by decide +kernel
theorem dX9_open_20 : decode cX9_open 20 = .ok (.invokestatic 47, 3) := by decide +kernel
theorem dX9_open_23 : decode cX9_open 23 = .ok (.ifCond .eq 7, 3) := by decide +kernel
theorem dX9_open_26 : decode cX9_open 26 = .ok (.sipush (-1001), 3) := by decide +kernel
theorem dX9_open_29 : decode cX9_open 29 = .ok (.ireturn, 1) := by decide +kernel
theorem dX9_open_30 : decode cX9_open 30 = .ok (.aload_n 0, 1) := by decide +kernel
theorem dX9_open_31 : decode cX9_open 31 = .ok (.getfield 17, 3) := by decide +kernel
theorem dX9_open_34 : decode cX9_open 34 = .ok (.iload_n 1, 1) := by decide +kernel
theorem dX9_open_35 : decode cX9_open 35 = .ok (.aaload, 1) := by decide +kernel
theorem dX9_open_36 : decode cX9_open 36 = .ok (.getfield 268, 3) := by decide +kernel
theorem dX9_open_39 : decode cX9_open 39 = .ok (.iload_n 2, 1) := by decide +kernel
theorem dX9_open_40 : decode cX9_open 40 = .ok (.aaload, 1) := by decide +kernel
theorem dX9_open_41 : decode cX9_open 41 = .ok (.astore 4, 2) := by decide +kernel
theorem dX9_open_43 : decode cX9_open 43 = .ok (.iload_n 3, 1) := by decide +kernel
theorem dX9_open_44 : decode cX9_open 44 = .ok (.tableswitch 66 0 4 #[36, 42, 48, 54, 60], 36) := by decide +kernel
theorem dX9_open_80 : decode cX9_open 80 = .ok (.aload 4, 2) := by decide +kernel
theorem dX9_open_82 : decode cX9_open 82 = .ok (.getfield 272, 3) := by decide +kernel
theorem dX9_open_85 : decode cX9_open 85 = .ok (.ireturn, 1) := by decide +kernel
theorem dX9_open_86 : decode cX9_open 86 = .ok (.aload 4, 2) := by decide +kernel
theorem dX9_open_88 : decode cX9_open 88 = .ok (.getfield 275, 3) := by decide +kernel
theorem dX9_open_91 : decode cX9_open 91 = .ok (.ireturn, 1) := by decide +kernel
theorem dX9_open_92 : decode cX9_open 92 = .ok (.aload 4, 2) := by decide +kernel
theorem dX9_open_94 : decode cX9_open 94 = .ok (.getfield 276, 3) := by decide +kernel
theorem dX9_open_97 : decode cX9_open 97 = .ok (.ireturn, 1) := by decide +kernel
theorem dX9_open_98 : decode cX9_open 98 = .ok (.aload 4, 2) := by decide +kernel
theorem dX9_open_100 : decode cX9_open 100 = .ok (.getfield 279, 3) := by decide +kernel
theorem dX9_open_103 : decode cX9_open 103 = .ok (.ireturn, 1) := by decide +kernel
theorem dX9_open_104 : decode cX9_open 104 = .ok (.aload 4, 2) := by decide +kernel
theorem dX9_open_106 : decode cX9_open 106 = .ok (.getfield 282, 3) := by decide +kernel
theorem dX9_open_109 : decode cX9_open 109 = .ok (.ireturn, 1) := by decide +kernel
theorem dX9_open_110 : decode cX9_open 110 = .ok (.sipush (-1002), 3) := by decide +kernel
theorem dX9_open_113 : decode cX9_open 113 = .ok (.ireturn, 1) := by decide +kernel
theorem dX9_packet_0 : decode cX9_packet 0 = .ok (.iload_n 1, 1) := by decide +kernel
theorem dX9_packet_1 : decode cX9_packet 1 = .ok (.iconst 0, 1) := by decide +kernel
theorem dX9_packet_2 : decode cX9_packet 2 = .ok (.iconst 4, 1) := by decide +kernel
theorem dX9_packet_3 : decode cX9_packet 3 = .ok (.invokestatic 47, 3) := by decide +kernel
theorem dX9_packet_6 : decode cX9_packet 6 = .ok (.ifCond .eq 7, 3) := by decide +kernel
theorem dX9_packet_9 : decode cX9_packet 9 = .ok (.sipush (-1002), 3) := by decide +kernel
theorem dX9_packet_12 : decode cX9_packet 12 = .ok (.ireturn, 1) := by decide +kernel
theorem dX9_packet_13 : decode cX9_packet 13 = .ok (.aload_n 0, 1) := by decide +kernel
theorem dX9_packet_14 : decode cX9_packet 14 = .ok (.getfield 24, 3) := by decide +kernel
theorem dX9_packet_17 : decode cX9_packet 17 = .ok (.invokevirtual 285, 3) := by decide +kernel
theorem dX9_packet_20 : decode cX9_packet 20 = .ok (.istore_n 2, 1) := by decide +kernel
theorem dX9_packet_21 : decode cX9_packet 21 = .ok (.iload_n 2, 1) := by decide +kernel
theorem dX9_packet_22 : decode cX9_packet 22 = .ok (.iconst (-1), 1) := by decide +kernel
theorem dX9_packet_23 : decode cX9_packet 23 = .ok (.if_icmp .ne 7, 3) := by decide +kernel
theorem dX9_packet_26 : decode cX9_packet 26 = .ok (.sipush (-1003), 3) := by decide +kernel
theorem dX9_packet_29 : decode cX9_packet 29 = .ok (.ireturn, 1) := by decide +kernel
theorem dX9_packet_30 : decode cX9_packet 30 = .ok (.aload_n 0, 1) := by decide +kernel
theorem dX9_packet_31 : decode cX9_packet 31 = .ok (.getfield 24, 3) := by decide +kernel
theorem dX9_packet_34 : decode cX9_packet 34 = .ok (.getfield 288, 3) := by decide +kernel
theorem dX9_packet_37 : decode cX9_packet 37 = .ok (.iload_n 2, 1) := by decide +kernel
theorem dX9_packet_38 : decode cX9_packet 38 = .ok (.aaload, 1) := by decide +kernel
theorem dX9_packet_39 : decode cX9_packet 39 = .ok (.astore_n 3, 1) := by decide +kernel
theorem dX9_packet_40 : decode cX9_packet 40 = .ok (.iload_n 1, 1) := by decide +kernel
theorem dX9_packet_41 : decode cX9_packet 41 = .ok (.tableswitch 51 0 3 #[31, 36, 41, 46], 31) := by decide +kernel
theorem dX9_packet_72 : decode cX9_packet 72 = .ok (.aload_n 3, 1) := by decide +kernel
theorem dX9_packet_73 : decode cX9_packet 73 = .ok (.getfield 202, 3) := by decide +kernel
theorem dX9_packet_76 : decode cX9_packet 76 = .ok (.ireturn, 1) := by decide +kernel
theorem dX9_packet_77 : decode cX9_packet 77 = .ok (.aload_n 3, 1) := by decide +kernel
theorem dX9_packet_78 : decode cX9_packet 78 = .ok (.getfield 292, 3) := by decide +kernel
theorem dX9_packet_81 : decode cX9_packet 81 = .ok (.ireturn, 1) := by decide +kernel
theorem dX9_packet_82 : decode cX9_packet 82 = .ok (.aload_n 3, 1) := by decide +kernel
theorem dX9_packet_83 : decode cX9_packet 83 = .ok (.getfield 295, 3) := by decide +kernel
theorem dX9_packet_86 : decode cX9_packet 86 = .ok (.ireturn, 1) := by decide +kernel
theorem dX9_packet_87 : decode cX9_packet 87 = .ok (.aload_n 3, 1) := by decide +kernel
theorem dX9_packet_88 : decode cX9_packet 88 = .ok (.getfield 207, 3) := by decide +kernel
theorem dX9_packet_91 : decode cX9_packet 91 = .ok (.ireturn, 1) := by decide +kernel
theorem dX9_packet_92 : decode cX9_packet 92 = .ok (.aload_n 3, 1) := by decide +kernel
theorem dX9_packet_93 : decode cX9_packet 93 = .ok (.getfield 296, 3) := by decide +kernel
theorem dX9_packet_96 : decode cX9_packet 96 = .ok (.ireturn, 1) := by decide +kernel
theorem dX9_count_0 : decode cX9_count 0 = .ok (.iload_n 1, 1) := by decide +kernel
theorem dX9_count_1 : decode cX9_count 1 = .ok (.tableswitch 148 0 8 #[51, 59, 67, 77, 87, 92, 112, 132, 140], 51) := by decide +kernel
theorem dX9_count_52 : decode cX9_count 52 = .ok (.aload_n 0, 1) := by decide +kernel
theorem dX9_count_53 : decode cX9_count 53 = .ok (.getfield 24, 3) := by decide +kernel
theorem dX9_count_56 : decode cX9_count 56 = .ok (.getfield 297, 3) := by decide +kernel
theorem dX9_count_59 : decode cX9_count 59 = .ok (.ireturn, 1) := by decide +kernel
theorem dX9_count_60 : decode cX9_count 60 = .ok (.aload_n 0, 1) := by decide +kernel
theorem dX9_count_61 : decode cX9_count 61 = .ok (.getfield 24, 3) := by decide +kernel
theorem dX9_count_64 : decode cX9_count 64 = .ok (.getfield 300, 3) := by decide +kernel
theorem dX9_count_67 : decode cX9_count 67 = .ok (.ireturn, 1) := by decide +kernel
theorem dX9_count_68 : decode cX9_count 68 = .ok (.aload_n 0, 1) := by decide +kernel
theorem dX9_count_69 : decode cX9_count 69 = .ok (.getfield 11, 3) := by decide +kernel
theorem dX9_count_72 : decode cX9_count 72 = .ok (.iconst 0, 1) := by decide +kernel
theorem dX9_count_73 : decode cX9_count 73 = .ok (.aaload, 1) := by decide +kernel
theorem dX9_count_74 : decode cX9_count 74 = .ok (.getfield 303, 3) := by decide +kernel
theorem dX9_count_77 : decode cX9_count 77 = .ok (.ireturn, 1) := by decide +kernel
theorem dX9_count_78 : decode cX9_count 78 = .ok (.aload_n 0, 1) := by decide +kernel
theorem dX9_count_79 : decode cX9_count 79 = .ok (.getfield 11, 3) := by decide +kernel
theorem dX9_count_82 : decode cX9_count 82 = .ok (.iconst 1, 1) := by decide +kernel
theorem dX9_count_83 : decode cX9_count 83 = .ok (.aaload, 1) := by decide +kernel
theorem dX9_count_84 : decode cX9_count 84 = .ok (.getfield 303, 3) := by decide +kernel
theorem dX9_count_87 : decode cX9_count 87 = .ok (.ireturn, 1) := by decide +kernel
theorem dX9_count_88 : decode cX9_count 88 = .ok (.aload_n 0, 1) := by decide +kernel
theorem dX9_count_89 : decode cX9_count 89 = .ok (.invokevirtual 151, 3) := by decide +kernel
theorem dX9_count_92 : decode cX9_count 92 = .ok (.ireturn, 1) := by decide +kernel
theorem dX9_count_93 : decode cX9_count 93 = .ok (.aload_n 0, 1) := by decide +kernel
theorem dX9_count_94 : decode cX9_count 94 = .ok (.getfield 11, 3) := by decide +kernel
theorem dX9_count_97 : decode cX9_count 97 = .ok (.iconst 0, 1) := by decide +kernel
theorem dX9_count_98 : decode cX9_count 98 = .ok (.aaload, 1) := by decide +kernel
theorem dX9_count_99 : decode cX9_count 99 = .ok (.invokevirtual 306, 3) := by decide +kernel
theorem dX9_count_102 : decode cX9_count 102 = .ok (.aload_n 0, 1) := by decide +kernel
theorem dX9_count_103 : decode cX9_count 103 = .ok (.getfield 11, 3) := by decide +kernel
theorem dX9_count_106 : decode cX9_count 106 = .ok (.iconst 1, 1) := by decide +kernel
theorem dX9_count_107 : decode cX9_count 107 = .ok (.aaload, 1) := by decide +kernel
theorem dX9_count_108 : decode cX9_count 108 = .ok (.invokevirtual 306, 3) := by decide +kernel
theorem dX9_count_111 : decode cX9_count 111 = .ok (.iadd, 1) := by decide +kernel
theorem dX9_count_112 : decode cX9_count 112 = .ok (.ireturn, 1) := by decide +kernel
theorem dX9_count_113 : decode cX9_count 113 = .ok (.aload_n 0, 1) := by decide +kernel
theorem dX9_count_114 : decode cX9_count 114 = .ok (.getfield 11, 3) := by decide +kernel
theorem dX9_count_117 : decode cX9_count 117 = .ok (.iconst 0, 1) := by decide +kernel
theorem dX9_count_118 : decode cX9_count 118 = .ok (.aaload, 1) := by decide +kernel
theorem dX9_count_119 : decode cX9_count 119 = .ok (.getfield 309, 3) := by decide +kernel
theorem dX9_count_122 : decode cX9_count 122 = .ok (.aload_n 0, 1) := by decide +kernel
theorem dX9_count_123 : decode cX9_count 123 = .ok (.getfield 11, 3) := by decide +kernel
theorem dX9_count_126 : decode cX9_count 126 = .ok (.iconst 1, 1) := by decide +kernel
theorem dX9_count_127 : decode cX9_count 127 = .ok (.aaload, 1) := by decide +kernel
theorem dX9_count_128 : decode cX9_count 128 = .ok (.getfield 309, 3) := by decide +kernel
theorem dX9_count_131 : decode cX9_count 131 = .ok (.iadd, 1) := by decide +kernel
theorem dX9_count_132 : decode cX9_count 132 = .ok (.ireturn, 1) := by decide +kernel
theorem dX9_count_133 : decode cX9_count 133 = .ok (.aload_n 0, 1) := by decide +kernel
theorem dX9_count_134 : decode cX9_count 134 = .ok (.getfield 31, 3) := by decide +kernel
theorem dX9_count_137 : decode cX9_count 137 = .ok (.getfield 51, 3) := by decide +kernel
theorem dX9_count_140 : decode cX9_count 140 = .ok (.ireturn, 1) := by decide +kernel
theorem dX9_count_141 : decode cX9_count 141 = .ok (.aload_n 0, 1) := by decide +kernel
theorem dX9_count_142 : decode cX9_count 142 = .ok (.getfield 24, 3) := by decide +kernel
theorem dX9_count_145 : decode cX9_count 145 = .ok (.getfield 199, 3) := by decide +kernel
theorem dX9_count_148 : decode cX9_count 148 = .ok (.ireturn, 1) := by decide +kernel
theorem dX9_count_149 : decode cX9_count 149 = .ok (.sipush (-1002), 3) := by decide +kernel
theorem dX9_count_152 : decode cX9_count 152 = .ok (.ireturn, 1) := by decide +kernel
theorem dX9_isOutside_0 : decode cX9_isOutside 0 = .ok (.iload_n 0, 1) := by decide +kernel
theorem dX9_isOutside_1 : decode cX9_isOutside 1 = .ok (.iload_n 1, 1) := by decide +kernel
theorem dX9_isOutside_2 : decode cX9_isOutside 2 = .ok (.if_icmp .lt 8, 3) := by decide +kernel
theorem dX9_isOutside_5 : decode cX9_isOutside 5 = .ok (.iload_n 0, 1) := by decide +kernel
theorem dX9_isOutside_6 : decode cX9_isOutside 6 = .ok (.iload_n 2, 1) := by decide +kernel
theorem dX9_isOutside_7 : decode cX9_isOutside 7 = .ok (.if_icmp .le 7, 3) := by decide +kernel
theorem dX9_isOutside_10 : decode cX9_isOutside 10 = .ok (.iconst 1, 1) := by decide +kernel
theorem dX9_isOutside_11 : decode cX9_isOutside 11 = .ok (.goto 4, 3) := by decide +kernel
theorem dX9_isOutside_14 : decode cX9_isOutside 14 = .ok (.iconst 0, 1) := by decide +kernel
theorem dX9_isOutside_15 : decode cX9_isOutside 15 = .ok (.ireturn, 1) := by decide +kernel
theorem dX9_isNoHost_0 : decode cX9_isNoHost 0 = .ok (.iload_n 0, 1) := by decide +kernel
theorem dX9_isNoHost_1 : decode cX9_isNoHost 1 = .ok (.iconst 0, 1) := by decide +kernel
theorem dX9_isNoHost_2 : decode cX9_isNoHost 2 = .ok (.iconst 1, 1) := by decide +kernel
theorem dX9_isNoHost_3 : decode cX9_isNoHost 3 = .ok (.invokestatic 47, 3) := by decide +kernel
theorem dX9_isNoHost_6 : decode cX9_isNoHost 6 = .ok (.ireturn, 1) := by decide +kernel
theorem dX9_isNoCell_0 : decode cX9_isNoCell 0 = .ok (.iload_n 0, 1) := by decide +kernel
theorem dX9_isNoCell_1 : decode cX9_isNoCell 1 = .ok (.iconst 0, 1) := by decide +kernel
theorem dX9_isNoCell_2 : decode cX9_isNoCell 2 = .ok (.bipush 11, 2) := by decide +kernel
theorem dX9_isNoCell_4 : decode cX9_isNoCell 4 = .ok (.invokestatic 47, 3) := by decide +kernel
theorem dX9_isNoCell_7 : decode cX9_isNoCell 7 = .ok (.ireturn, 1) := by decide +kernel
theorem dX9_isNoKey_0 : decode cX9_isNoKey 0 = .ok (.iload_n 0, 1) := by decide +kernel
theorem dX9_isNoKey_1 : decode cX9_isNoKey 1 = .ok (.iconst 0, 1) := by decide +kernel
theorem dX9_isNoKey_2 : decode cX9_isNoKey 2 = .ok (.iconst 3, 1) := by decide +kernel
theorem dX9_isNoKey_3 : decode cX9_isNoKey 3 = .ok (.invokestatic 47, 3) := by decide +kernel
theorem dX9_isNoKey_6 : decode cX9_isNoKey 6 = .ok (.ireturn, 1) := by decide +kernel
theorem dX9_isNoLine_0 : decode cX9_isNoLine 0 = .ok (.iload_n 0, 1) := by decide +kernel
theorem dX9_isNoLine_1 : decode cX9_isNoLine 1 = .ok (.iconst 0, 1) := by decide +kernel
theorem dX9_isNoLine_2 : decode cX9_isNoLine 2 = .ok (.iconst 1, 1) := by decide +kernel
theorem dX9_isNoLine_3 : decode cX9_isNoLine 3 = .ok (.invokestatic 47, 3) := by decide +kernel
theorem dX9_isNoLine_6 : decode cX9_isNoLine 6 = .ok (.ireturn, 1) := by decide +kernel
theorem dX9_isNoEnd_0 : decode cX9_isNoEnd 0 = .ok (.iload_n 0, 1) := by decide +kernel
theorem dX9_isNoEnd_1 : decode cX9_isNoEnd 1 = .ok (.iconst 0, 1) := by decide +kernel
theorem dX9_isNoEnd_2 : decode cX9_isNoEnd 2 = .ok (.iconst 3, 1) := by decide +kernel
theorem dX9_isNoEnd_3 : decode cX9_isNoEnd 3 = .ok (.invokestatic 47, 3) := by decide +kernel
theorem dX9_isNoEnd_6 : decode cX9_isNoEnd 6 = .ok (.ireturn, 1) := by decide +kernel
theorem dX9_isNoValue_0 : decode cX9_isNoValue 0 = .ok (.iload_n 0, 1) := by decide +kernel
theorem dX9_isNoValue_1 : decode cX9_isNoValue 1 = .ok (.iconst 0, 1) := by decide +kernel
theorem dX9_isNoValue_2 : decode cX9_isNoValue 2 = .ok (.sipush 9999, 3) := by decide +kernel
theorem dX9_isNoValue_5 : decode cX9_isNoValue 5 = .ok (.invokestatic 47, 3) := by decide +kernel
theorem dX9_isNoValue_8 : decode cX9_isNoValue 8 = .ok (.ireturn, 1) := by decide +kernel
theorem dX9_lineOf_0 : decode cX9_lineOf 0 = .ok (.iload_n 0, 1) := by decide +kernel
theorem dX9_lineOf_1 : decode cX9_lineOf 1 = .ok (.iconst 2, 1) := by decide +kernel
theorem dX9_lineOf_2 : decode cX9_lineOf 2 = .ok (.idiv, 1) := by decide +kernel
theorem dX9_lineOf_3 : decode cX9_lineOf 3 = .ok (.ireturn, 1) := by decide +kernel
theorem dX9_firstEndOf_0 : decode cX9_firstEndOf 0 = .ok (.iload_n 0, 1) := by decide +kernel
theorem dX9_firstEndOf_1 : decode cX9_firstEndOf 1 = .ok (.iconst 2, 1) := by decide +kernel
theorem dX9_firstEndOf_2 : decode cX9_firstEndOf 2 = .ok (.imul, 1) := by decide +kernel
theorem dX9_firstEndOf_3 : decode cX9_firstEndOf 3 = .ok (.ireturn, 1) := by decide +kernel
theorem dX9_otherEnd_0 : decode cX9_otherEnd 0 = .ok (.iload_n 0, 1) := by decide +kernel
theorem dX9_otherEnd_1 : decode cX9_otherEnd 1 = .ok (.iconst 2, 1) := by decide +kernel
theorem dX9_otherEnd_2 : decode cX9_otherEnd 2 = .ok (.irem, 1) := by decide +kernel
theorem dX9_otherEnd_3 : decode cX9_otherEnd 3 = .ok (.ifCond .ne 9, 3) := by decide +kernel
theorem dX9_otherEnd_6 : decode cX9_otherEnd 6 = .ok (.iload_n 0, 1) := by decide +kernel
theorem dX9_otherEnd_7 : decode cX9_otherEnd 7 = .ok (.iconst 1, 1) := by decide +kernel
theorem dX9_otherEnd_8 : decode cX9_otherEnd 8 = .ok (.iadd, 1) := by decide +kernel
theorem dX9_otherEnd_9 : decode cX9_otherEnd 9 = .ok (.goto 6, 3) := by decide +kernel
theorem dX9_otherEnd_12 : decode cX9_otherEnd 12 = .ok (.iload_n 0, 1) := by decide +kernel
theorem dX9_otherEnd_13 : decode cX9_otherEnd 13 = .ok (.iconst 1, 1) := by decide +kernel
theorem dX9_otherEnd_14 : decode cX9_otherEnd 14 = .ok (.isub, 1) := by decide +kernel
theorem dX9_otherEnd_15 : decode cX9_otherEnd 15 = .ok (.ireturn, 1) := by decide +kernel
theorem dX9_isFetch_0 : decode cX9_isFetch 0 = .ok (.iload_n 0, 1) := by decide +kernel
theorem dX9_isFetch_1 : decode cX9_isFetch 1 = .ok (.iconst 2, 1) := by decide +kernel
theorem dX9_isFetch_2 : decode cX9_isFetch 2 = .ok (.if_icmp .eq 13, 3) := by decide +kernel
theorem dX9_isFetch_5 : decode cX9_isFetch 5 = .ok (.iload_n 0, 1) := by decide +kernel
theorem dX9_isFetch_6 : decode cX9_isFetch 6 = .ok (.iconst 3, 1) := by decide +kernel
theorem dX9_isFetch_7 : decode cX9_isFetch 7 = .ok (.if_icmp .eq 8, 3) := by decide +kernel
theorem dX9_isFetch_10 : decode cX9_isFetch 10 = .ok (.iload_n 0, 1) := by decide +kernel
theorem dX9_isFetch_11 : decode cX9_isFetch 11 = .ok (.iconst 4, 1) := by decide +kernel
theorem dX9_isFetch_12 : decode cX9_isFetch 12 = .ok (.if_icmp .ne 7, 3) := by decide +kernel
theorem dX9_isFetch_15 : decode cX9_isFetch 15 = .ok (.iconst 1, 1) := by decide +kernel
theorem dX9_isFetch_16 : decode cX9_isFetch 16 = .ok (.goto 4, 3) := by decide +kernel
theorem dX9_isFetch_19 : decode cX9_isFetch 19 = .ok (.iconst 0, 1) := by decide +kernel
theorem dX9_isFetch_20 : decode cX9_isFetch 20 = .ok (.ireturn, 1) := by decide +kernel
theorem dX10_init_0 : decode cX10_init 0 = .ok (.aload_n 0, 1) := by decide +kernel
theorem dX10_init_1 : decode cX10_init 1 = .ok (.invokespecial 1, 3) := by decide +kernel
theorem dX10_init_4 : decode cX10_init 4 = .ok (.aload_n 0, 1) := by decide +kernel
theorem dX10_init_5 : decode cX10_init 5 = .ok (.bipush 24, 2) := by decide +kernel
theorem dX10_init_7 : decode cX10_init 7 = .ok (.newarray .int, 2) := by decide +kernel
theorem dX10_init_9 : decode cX10_init 9 = .ok (.putfield 7, 3) := by decide +kernel
theorem dX10_init_12 : decode cX10_init 12 = .ok (.aload_n 0, 1) := by decide +kernel
theorem dX10_init_13 : decode cX10_init 13 = .ok (.bipush 8, 2) := by decide +kernel
theorem dX10_init_15 : decode cX10_init 15 = .ok (.newarray .int, 2) := by decide +kernel
theorem dX10_init_17 : decode cX10_init 17 = .ok (.putfield 13, 3) := by decide +kernel
theorem dX10_init_20 : decode cX10_init 20 = .ok (.aload_n 0, 1) := by decide +kernel
theorem dX10_init_21 : decode cX10_init 21 = .ok (.bipush 8, 2) := by decide +kernel
theorem dX10_init_23 : decode cX10_init 23 = .ok (.newarray .int, 2) := by decide +kernel
theorem dX10_init_25 : decode cX10_init 25 = .ok (.putfield 16, 3) := by decide +kernel
theorem dX10_init_28 : decode cX10_init 28 = .ok (.aload_n 0, 1) := by decide +kernel
theorem dX10_init_29 : decode cX10_init 29 = .ok (.bipush 8, 2) := by decide +kernel
theorem dX10_init_31 : decode cX10_init 31 = .ok (.newarray .int, 2) := by decide +kernel
theorem dX10_init_33 : decode cX10_init 33 = .ok (.putfield 19, 3) := by decide +kernel
theorem dX10_init_36 : decode cX10_init 36 = .ok (.aload_n 0, 1) := by decide +kernel
theorem dX10_init_37 : decode cX10_init 37 = .ok (.iconst 4, 1) := by decide +kernel
theorem dX10_init_38 : decode cX10_init 38 = .ok (.newarray .int, 2) := by decide +kernel
theorem dX10_init_40 : decode cX10_init 40 = .ok (.putfield 22, 3) := by decide +kernel
theorem dX10_init_43 : decode cX10_init 43 = .ok (.aload_n 0, 1) := by decide +kernel
theorem dX10_init_44 : decode cX10_init 44 = .ok (.iconst 4, 1) := by decide +kernel
theorem dX10_init_45 : decode cX10_init 45 = .ok (.newarray .int, 2) := by decide +kernel
theorem dX10_init_47 : decode cX10_init 47 = .ok (.putfield 25, 3) := by decide +kernel
theorem dX10_init_50 : decode cX10_init 50 = .ok (.aload_n 0, 1) := by decide +kernel
theorem dX10_init_51 : decode cX10_init 51 = .ok (.iconst 4, 1) := by decide +kernel
theorem dX10_init_52 : decode cX10_init 52 = .ok (.newarray .int, 2) := by decide +kernel
theorem dX10_init_54 : decode cX10_init 54 = .ok (.putfield 28, 3) := by decide +kernel
theorem dX10_init_57 : decode cX10_init 57 = .ok (.aload_n 0, 1) := by decide +kernel
theorem dX10_init_58 : decode cX10_init 58 = .ok (.bipush 112, 2) := by decide +kernel
theorem dX10_init_60 : decode cX10_init 60 = .ok (.newarray .int, 2) := by decide +kernel
theorem dX10_init_62 : decode cX10_init 62 = .ok (.putfield 31, 3) := by decide +kernel
theorem dX10_init_65 : decode cX10_init 65 = .ok (.aload_n 0, 1) := by decide +kernel
theorem dX10_init_66 : decode cX10_init 66 = .ok (.iconst 4, 1) := by decide +kernel
theorem dX10_init_67 : decode cX10_init 67 = .ok (.newarray .int, 2) := by decide +kernel
theorem dX10_init_69 : decode cX10_init 69 = .ok (.putfield 34, 3) := by decide +kernel
theorem dX10_init_72 : decode cX10_init 72 = .ok (.aload_n 0, 1) := by decide +kernel
theorem dX10_init_73 : decode cX10_init 73 = .ok (.iconst 4, 1) := by decide +kernel
theorem dX10_init_74 : decode cX10_init 74 = .ok (.newarray .int, 2) := by decide +kernel
theorem dX10_init_76 : decode cX10_init 76 = .ok (.putfield 37, 3) := by decide +kernel
theorem dX10_init_79 : decode cX10_init 79 = .ok (.aload_n 0, 1) := by decide +kernel
theorem dX10_init_80 : decode cX10_init 80 = .ok (.bipush 12, 2) := by decide +kernel
theorem dX10_init_82 : decode cX10_init 82 = .ok (.newarray .int, 2) := by decide +kernel
theorem dX10_init_84 : decode cX10_init 84 = .ok (.putfield 40, 3) := by decide +kernel
theorem dX10_init_87 : decode cX10_init 87 = .ok (.aload_n 0, 1) := by decide +kernel
theorem dX10_init_88 : decode cX10_init 88 = .ok (.iconst 4, 1) := by decide +kernel
theorem dX10_init_89 : decode cX10_init 89 = .ok (.newarray .int, 2) := by decide +kernel
theorem dX10_init_91 : decode cX10_init 91 = .ok (.putfield 43, 3) := by decide +kernel
theorem dX10_init_94 : decode cX10_init 94 = .ok (.aload_n 0, 1) := by decide +kernel
theorem dX10_init_95 : decode cX10_init 95 = .ok (.iconst 4, 1) := by decide +kernel
theorem dX10_init_96 : decode cX10_init 96 = .ok (.newarray .int, 2) := by decide +kernel
theorem dX10_init_98 : decode cX10_init 98 = .ok (.putfield 46, 3) := by decide +kernel
theorem dX10_init_101 : decode cX10_init 101 = .ok (.aload_n 0, 1) := by decide +kernel
theorem dX10_init_102 : decode cX10_init 102 = .ok (.iconst 4, 1) := by decide +kernel
theorem dX10_init_103 : decode cX10_init 103 = .ok (.newarray .boolean, 2) := by decide +kernel
theorem dX10_init_105 : decode cX10_init 105 = .ok (.putfield 49, 3) := by decide +kernel
theorem dX10_init_108 : decode cX10_init 108 = .ok (.aload_n 0, 1) := by decide +kernel
theorem dX10_init_109 : decode cX10_init 109 = .ok (.iconst 4, 1) := by decide +kernel
theorem dX10_init_110 : decode cX10_init 110 = .ok (.newarray .int, 2) := by decide +kernel
theorem dX10_init_112 : decode cX10_init 112 = .ok (.putfield 53, 3) := by decide +kernel
theorem dX10_init_115 : decode cX10_init 115 = .ok (.aload_n 0, 1) := by decide +kernel
theorem dX10_init_116 : decode cX10_init 116 = .ok (.bipush 16, 2) := by decide +kernel
theorem dX10_init_118 : decode cX10_init 118 = .ok (.newarray .int, 2) := by decide +kernel
theorem dX10_init_120 : decode cX10_init 120 = .ok (.putfield 56, 3) := by decide +kernel
theorem dX10_init_123 : decode cX10_init 123 = .ok (.aload_n 0, 1) := by decide +kernel
theorem dX10_init_124 : decode cX10_init 124 = .ok (.iconst 4, 1) := by decide +kernel
theorem dX10_init_125 : decode cX10_init 125 = .ok (.newarray .int, 2) := by decide +kernel
theorem dX10_init_127 : decode cX10_init 127 = .ok (.putfield 59, 3) := by decide +kernel
theorem dX10_init_130 : decode cX10_init 130 = .ok (.aload_n 0, 1) := by decide +kernel
theorem dX10_init_131 : decode cX10_init 131 = .ok (.iconst 4, 1) := by decide +kernel
theorem dX10_init_132 : decode cX10_init 132 = .ok (.newarray .int, 2) := by decide +kernel
theorem dX10_init_134 : decode cX10_init 134 = .ok (.putfield 62, 3) := by decide +kernel
theorem dX10_init_137 : decode cX10_init 137 = .ok (.aload_n 0, 1) := by decide +kernel
theorem dX10_init_138 : decode cX10_init 138 = .ok (.iconst 2, 1) := by decide +kernel
theorem dX10_init_139 : decode cX10_init 139 = .ok (.newarray .int, 2) := by decide +kernel
theorem dX10_init_141 : decode cX10_init 141 = .ok (.dup, 1) := by decide +kernel
theorem dX10_init_142 : decode cX10_init 142 = .ok (.iconst 0, 1) := by decide +kernel
theorem dX10_init_143 : decode cX10_init 143 = .ok (.iconst 1, 1) := by decide +kernel
theorem dX10_init_144 : decode cX10_init 144 = .ok (.iastore, 1) := by decide +kernel
theorem dX10_init_145 : decode cX10_init 145 = .ok (.dup, 1) := by decide +kernel
theorem dX10_init_146 : decode cX10_init 146 = .ok (.iconst 1, 1) := by decide +kernel
theorem dX10_init_147 : decode cX10_init 147 = .ok (.iconst 1, 1) := by decide +kernel
theorem dX10_init_148 : decode cX10_init 148 = .ok (.iastore, 1) := by decide +kernel
theorem dX10_init_149 : decode cX10_init 149 = .ok (.putfield 65, 3) := by decide +kernel
theorem dX10_init_152 : decode cX10_init 152 = .ok (.aload_n 0, 1) := by decide +kernel
theorem dX10_init_153 : decode cX10_init 153 = .ok (.sipush 264, 3) := by decide +kernel
theorem dX10_init_156 : decode cX10_init 156 = .ok (.newarray .int, 2) := by decide +kernel
theorem dX10_init_158 : decode cX10_init 158 = .ok (.putfield 68, 3) := by decide +kernel
theorem dX10_init_161 : decode cX10_init 161 = .ok (.aload_n 0, 1) := by decide +kernel
theorem dX10_init_162 : decode cX10_init 162 = .ok (.sipush 6000, 3) := by decide +kernel
theorem dX10_init_165 : decode cX10_init 165 = .ok (.newarray .int, 2) := by decide +kernel
theorem dX10_init_167 : decode cX10_init 167 = .ok (.putfield 71, 3) := by decide +kernel
theorem dX10_init_170 : decode cX10_init 170 = .ok (.aload_n 0, 1) := by decide +kernel
theorem dX10_init_171 : decode cX10_init 171 = .ok (.iconst 2, 1) := by decide +kernel
theorem dX10_init_172 : decode cX10_init 172 = .ok (.newarray .int, 2) := by decide +kernel
theorem dX10_init_174 : decode cX10_init 174 = .ok (.putfield 74, 3) := by decide +kernel
theorem dX10_init_177 : decode cX10_init 177 = .ok (.aload_n 0, 1) := by decide +kernel
theorem dX10_init_178 : decode cX10_init 178 = .ok (.iconst 2, 1) := by decide +kernel
theorem dX10_init_179 : decode cX10_init 179 = .ok (.newarray .int, 2) := by decide +kernel
theorem dX10_init_181 : decode cX10_init 181 = .ok (.putfield 77, 3) := by decide +kernel
theorem dX10_init_184 : decode cX10_init 184 = .ok (.aload_n 0, 1) := by decide +kernel
theorem dX10_init_185 : decode cX10_init 185 = .ok (.bipush 6, 2) := by decide +kernel
theorem dX10_init_187 : decode cX10_init 187 = .ok (.newarray .int, 2) := by decide +kernel
theorem dX10_init_189 : decode cX10_init 189 = .ok (.putfield 80, 3) := by decide +kernel
theorem dX10_init_192 : decode cX10_init 192 = .ok (.aload_n 0, 1) := by decide +kernel
theorem dX10_init_193 : decode cX10_init 193 = .ok (.sipush 200, 3) := by decide +kernel
theorem dX10_init_196 : decode cX10_init 196 = .ok (.newarray .int, 2) := by decide +kernel
theorem dX10_init_198 : decode cX10_init 198 = .ok (.putfield 83, 3) := by decide +kernel
theorem dX10_init_201 : decode cX10_init 201 = .ok (.aload_n 0, 1) := by decide +kernel
theorem dX10_init_202 : decode cX10_init 202 = .ok (.iconst 5, 1) := by decide +kernel
theorem dX10_init_203 : decode cX10_init 203 = .ok (.newarray .int, 2) := by decide +kernel
theorem dX10_init_205 : decode cX10_init 205 = .ok (.putfield 86, 3) := by decide +kernel
theorem dX10_init_208 : decode cX10_init 208 = .ok (.aload_n 0, 1) := by decide +kernel
theorem dX10_init_209 : decode cX10_init 209 = .ok (.bipush 30, 2) := by decide +kernel
theorem dX10_init_211 : decode cX10_init 211 = .ok (.newarray .int, 2) := by decide +kernel
theorem dX10_init_213 : decode cX10_init 213 = .ok (.dup, 1) := by decide +kernel
theorem dX10_init_214 : decode cX10_init 214 = .ok (.iconst 0, 1) := by decide +kernel
theorem dX10_init_215 : decode cX10_init 215 = .ok (.bipush 97, 2) := by decide +kernel
theorem dX10_init_217 : decode cX10_init 217 = .ok (.iastore, 1) := by decide +kernel
theorem dX10_init_218 : decode cX10_init 218 = .ok (.dup, 1) := by decide +kernel
theorem dX10_init_219 : decode cX10_init 219 = .ok (.iconst 1, 1) := by decide +kernel
theorem dX10_init_220 : decode cX10_init 220 = .ok (.bipush 108, 2) := by decide +kernel
theorem dX10_init_222 : decode cX10_init 222 = .ok (.iastore, 1) := by decide +kernel
theorem dX10_init_223 : decode cX10_init 223 = .ok (.dup, 1) := by decide +kernel
theorem dX10_init_224 : decode cX10_init 224 = .ok (.iconst 2, 1) := by decide +kernel
theorem dX10_init_225 : decode cX10_init 225 = .ok (.bipush 108, 2) := by decide +kernel
theorem dX10_init_227 : decode cX10_init 227 = .ok (.iastore, 1) := by decide +kernel
theorem dX10_init_228 : decode cX10_init 228 = .ok (.dup, 1) := by decide +kernel
theorem dX10_init_229 : decode cX10_init 229 = .ok (.iconst 3, 1) := by decide +kernel
theorem dX10_init_230 : decode cX10_init 230 = .ok (.iconst 0, 1) := by decide +kernel
theorem dX10_init_231 : decode cX10_init 231 = .ok (.iastore, 1) := by decide +kernel
theorem dX10_init_232 : decode cX10_init 232 = .ok (.dup, 1) := by decide +kernel
theorem dX10_init_233 : decode cX10_init 233 = .ok (.iconst 4, 1) := by decide +kernel
theorem dX10_init_234 : decode cX10_init 234 = .ok (.iconst 0, 1) := by decide +kernel
theorem dX10_init_235 : decode cX10_init 235 = .ok (.iastore, 1) := by decide +kernel
theorem dX10_init_236 : decode cX10_init 236 = .ok (.dup, 1) := by decide +kernel
theorem dX10_init_237 : decode cX10_init 237 = .ok (.iconst 5, 1) := by decide +kernel
theorem dX10_init_238 : decode cX10_init 238 = .ok (.bipush 107, 2) := by decide +kernel
theorem dX10_init_240 : decode cX10_init 240 = .ok (.iastore, 1) := by decide +kernel
theorem dX10_init_241 : decode cX10_init 241 = .ok (.dup, 1) := by decide +kernel
theorem dX10_init_242 : decode cX10_init 242 = .ok (.bipush 6, 2) := by decide +kernel
theorem dX10_init_244 : decode cX10_init 244 = .ok (.bipush 101, 2) := by decide +kernel
theorem dX10_init_246 : decode cX10_init 246 = .ok (.iastore, 1) := by decide +kernel
theorem dX10_init_247 : decode cX10_init 247 = .ok (.dup, 1) := by decide +kernel
theorem dX10_init_248 : decode cX10_init 248 = .ok (.bipush 7, 2) := by decide +kernel
theorem dX10_init_250 : decode cX10_init 250 = .ok (.bipush 121, 2) := by decide +kernel
theorem dX10_init_252 : decode cX10_init 252 = .ok (.iastore, 1) := by decide +kernel
theorem dX10_init_253 : decode cX10_init 253 = .ok (.dup, 1) := by decide +kernel
theorem dX10_init_254 : decode cX10_init 254 = .ok (.bipush 8, 2) := by decide +kernel
theorem dX10_init_256 : decode cX10_init 256 = .ok (.iconst 0, 1) := by decide +kernel
theorem dX10_init_257 : decode cX10_init 257 = .ok (.iastore, 1) := by decide +kernel
theorem dX10_init_258 : decode cX10_init 258 = .ok (.dup, 1) := by decide +kernel
theorem dX10_init_259 : decode cX10_init 259 = .ok (.bipush 9, 2) := by decide +kernel
theorem dX10_init_261 : decode cX10_init 261 = .ok (.iconst 0, 1) := by decide +kernel
theorem dX10_init_262 : decode cX10_init 262 = .ok (.iastore, 1) := by decide +kernel
theorem dX10_init_263 : decode cX10_init 263 = .ok (.dup, 1) := by decide +kernel
theorem dX10_init_264 : decode cX10_init 264 = .ok (.bipush 10, 2) := by decide +kernel
theorem dX10_init_266 : decode cX10_init 266 = .ok (.bipush 99, 2) := by decide +kernel
theorem dX10_init_268 : decode cX10_init 268 = .ok (.iastore, 1) := by decide +kernel
theorem dX10_init_269 : decode cX10_init 269 = .ok (.dup, 1) := by decide +kernel
theorem dX10_init_270 : decode cX10_init 270 = .ok (.bipush 11, 2) := by decide +kernel
theorem dX10_init_272 : decode cX10_init 272 = .ok (.bipush 101, 2) := by decide +kernel
theorem dX10_init_274 : decode cX10_init 274 = .ok (.iastore, 1) := by decide +kernel
theorem dX10_init_275 : decode cX10_init 275 = .ok (.dup, 1) := by decide +kernel
theorem dX10_init_276 : decode cX10_init 276 = .ok (.bipush 12, 2) := by decide +kernel
theorem dX10_init_278 : decode cX10_init 278 = .ok (.bipush 108, 2) := by decide +kernel
theorem dX10_init_280 : decode cX10_init 280 = .ok (.iastore, 1) := by decide +kernel
theorem dX10_init_281 : decode cX10_init 281 = .ok (.dup, 1) := by decide +kernel
theorem dX10_init_282 : decode cX10_init 282 = .ok (.bipush 13, 2) := by decide +kernel
theorem dX10_init_284 : decode cX10_init 284 = .ok (.bipush 108, 2) := by decide +kernel
theorem dX10_init_286 : decode cX10_init 286 = .ok (.iastore, 1) := by decide +kernel
theorem dX10_init_287 : decode cX10_init 287 = .ok (.dup, 1) := by decide +kernel
theorem dX10_init_288 : decode cX10_init 288 = .ok (.bipush 14, 2) := by decide +kernel
theorem dX10_init_290 : decode cX10_init 290 = .ok (.iconst 0, 1) := by decide +kernel
theorem dX10_init_291 : decode cX10_init 291 = .ok (.iastore, 1) := by decide +kernel
theorem dX10_init_292 : decode cX10_init 292 = .ok (.dup, 1) := by decide +kernel
theorem dX10_init_293 : decode cX10_init 293 = .ok (.bipush 15, 2) := by decide +kernel
theorem dX10_init_295 : decode cX10_init 295 = .ok (.bipush 100, 2) := by decide +kernel
theorem dX10_init_297 : decode cX10_init 297 = .ok (.iastore, 1) := by decide +kernel
theorem dX10_init_298 : decode cX10_init 298 = .ok (.dup, 1) := by decide +kernel
theorem dX10_init_299 : decode cX10_init 299 = .ok (.bipush 16, 2) := by decide +kernel
theorem dX10_init_301 : decode cX10_init 301 = .ok (.bipush 101, 2) := by decide +kernel
theorem dX10_init_303 : decode cX10_init 303 = .ok (.iastore, 1) := by decide +kernel
theorem dX10_init_304 : decode cX10_init 304 = .ok (.dup, 1) := by decide +kernel
theorem dX10_init_305 : decode cX10_init 305 = .ok (.bipush 17, 2) := by decide +kernel
theorem dX10_init_307 : decode cX10_init 307 = .ok (.bipush 108, 2) := by decide +kernel
theorem dX10_init_309 : decode cX10_init 309 = .ok (.iastore, 1) := by decide +kernel
theorem dX10_init_310 : decode cX10_init 310 = .ok (.dup, 1) := by decide +kernel
theorem dX10_init_311 : decode cX10_init 311 = .ok (.bipush 18, 2) := by decide +kernel
theorem dX10_init_313 : decode cX10_init 313 = .ok (.bipush 97, 2) := by decide +kernel
theorem dX10_init_315 : decode cX10_init 315 = .ok (.iastore, 1) := by decide +kernel
theorem dX10_init_316 : decode cX10_init 316 = .ok (.dup, 1) := by decide +kernel
theorem dX10_init_317 : decode cX10_init 317 = .ok (.bipush 19, 2) := by decide +kernel
theorem dX10_init_319 : decode cX10_init 319 = .ok (.bipush 121, 2) := by decide +kernel
theorem dX10_init_321 : decode cX10_init 321 = .ok (.iastore, 1) := by decide +kernel
theorem dX10_init_322 : decode cX10_init 322 = .ok (.dup, 1) := by decide +kernel
theorem dX10_init_323 : decode cX10_init 323 = .ok (.bipush 20, 2) := by decide +kernel
theorem dX10_init_325 : decode cX10_init 325 = .ok (.bipush 97, 2) := by decide +kernel
theorem dX10_init_327 : decode cX10_init 327 = .ok (.iastore, 1) := by decide +kernel
theorem dX10_init_328 : decode cX10_init 328 = .ok (.dup, 1) := by decide +kernel
theorem dX10_init_329 : decode cX10_init 329 = .ok (.bipush 21, 2) := by decide +kernel
theorem dX10_init_331 : decode cX10_init 331 = .ok (.bipush 105, 2) := by decide +kernel
theorem dX10_init_333 : decode cX10_init 333 = .ok (.iastore, 1) := by decide +kernel
theorem dX10_init_334 : decode cX10_init 334 = .ok (.dup, 1) := by decide +kernel
theorem dX10_init_335 : decode cX10_init 335 = .ok (.bipush 22, 2) := by decide +kernel
theorem dX10_init_337 : decode cX10_init 337 = .ok (.bipush 109, 2) := by decide +kernel
theorem dX10_init_339 : decode cX10_init 339 = .ok (.iastore, 1) := by decide +kernel
theorem dX10_init_340 : decode cX10_init 340 = .ok (.dup, 1) := by decide +kernel
theorem dX10_init_341 : decode cX10_init 341 = .ok (.bipush 23, 2) := by decide +kernel
theorem dX10_init_343 : decode cX10_init 343 = .ok (.iconst 0, 1) := by decide +kernel
theorem dX10_init_344 : decode cX10_init 344 = .ok (.iastore, 1) := by decide +kernel
theorem dX10_init_345 : decode cX10_init 345 = .ok (.dup, 1) := by decide +kernel
theorem dX10_init_346 : decode cX10_init 346 = .ok (.bipush 24, 2) := by decide +kernel
theorem dX10_init_348 : decode cX10_init 348 = .ok (.iconst 0, 1) := by decide +kernel
theorem dX10_init_349 : decode cX10_init 349 = .ok (.iastore, 1) := by decide +kernel
theorem dX10_init_350 : decode cX10_init 350 = .ok (.dup, 1) := by decide +kernel
theorem dX10_init_351 : decode cX10_init 351 = .ok (.bipush 25, 2) := by decide +kernel
theorem dX10_init_353 : decode cX10_init 353 = .ok (.bipush 106, 2) := by decide +kernel
theorem dX10_init_355 : decode cX10_init 355 = .ok (.iastore, 1) := by decide +kernel
theorem dX10_init_356 : decode cX10_init 356 = .ok (.dup, 1) := by decide +kernel
theorem dX10_init_357 : decode cX10_init 357 = .ok (.bipush 26, 2) := by decide +kernel
theorem dX10_init_359 : decode cX10_init 359 = .ok (.bipush 111, 2) := by decide +kernel
theorem dX10_init_361 : decode cX10_init 361 = .ok (.iastore, 1) := by decide +kernel
theorem dX10_init_362 : decode cX10_init 362 = .ok (.dup, 1) := by decide +kernel
theorem dX10_init_363 : decode cX10_init 363 = .ok (.bipush 27, 2) := by decide +kernel
theorem dX10_init_365 : decode cX10_init 365 = .ok (.bipush 105, 2) := by decide +kernel
theorem dX10_init_367 : decode cX10_init 367 = .ok (.iastore, 1) := by decide +kernel
theorem dX10_init_368 : decode cX10_init 368 = .ok (.dup, 1) := by decide +kernel
theorem dX10_init_369 : decode cX10_init 369 = .ok (.bipush 28, 2) := by decide +kernel
theorem dX10_init_371 : decode cX10_init 371 = .ok (.bipush 110, 2) := by decide +kernel
theorem dX10_init_373 : decode cX10_init 373 = .ok (.iastore, 1) := by decide +kernel
theorem dX10_init_374 : decode cX10_init 374 = .ok (.dup, 1) := by decide +kernel
theorem dX10_init_375 : decode cX10_init 375 = .ok (.bipush 29, 2) := by decide +kernel
theorem dX10_init_377 : decode cX10_init 377 = .ok (.iconst 0, 1) := by decide +kernel
theorem dX10_init_378 : decode cX10_init 378 = .ok (.iastore, 1) := by decide +kernel
theorem dX10_init_379 : decode cX10_init 379 = .ok (.putfield 89, 3) := by decide +kernel
theorem dX10_init_382 : decode cX10_init 382 = .ok (.aload_n 0, 1) := by decide +kernel
theorem dX10_init_383 : decode cX10_init 383 = .ok (.bipush 11, 2) := by decide +kernel
theorem dX10_init_385 : decode cX10_init 385 = .ok (.newarray .int, 2) := by decide +kernel
theorem dX10_init_387 : decode cX10_init 387 = .ok (.putfield 92, 3) := by decide +kernel
theorem dX10_init_390 : decode cX10_init 390 = .ok (.return_, 1) := by decide +kernel
theorem dX10_in_0 : decode cX10_in 0 = .ok (.lload_n 0, 1) := by decide +kernel
theorem dX10_in_1 : decode cX10_in 1 = .ok (.lload_n 2, 1) := by decide +kernel
theorem dX10_in_2 : decode cX10_in 2 = .ok (.lcmp, 1) := by decide +kernel
theorem dX10_in_3 : decode cX10_in 3 = .ok (.ifCond .lt 14, 3) := by decide +kernel
theorem dX10_in_6 : decode cX10_in 6 = .ok (.lload_n 0, 1) := by decide +kernel
theorem dX10_in_7 : decode cX10_in 7 = .ok (.lload 4, 2) := by decide +kernel
theorem dX10_in_9 : decode cX10_in 9 = .ok (.lcmp, 1) := by decide +kernel
theorem dX10_in_10 : decode cX10_in 10 = .ok (.ifCond .gt 7, 3) := by decide +kernel
theorem dX10_in_13 : decode cX10_in 13 = .ok (.iconst 1, 1) := by decide +kernel
theorem dX10_in_14 : decode cX10_in 14 = .ok (.goto 4, 3) := by decide +kernel
theorem dX10_in_17 : decode cX10_in 17 = .ok (.iconst 0, 1) := by decide +kernel
theorem dX10_in_18 : decode cX10_in 18 = .ok (.ireturn, 1) := by decide +kernel
theorem dX10_isHost_0 : decode cX10_isHost 0 = .ok (.iload_n 0, 1) := by decide +kernel
theorem dX10_isHost_1 : decode cX10_isHost 1 = .ok (.i2l, 1) := by decide +kernel
theorem dX10_isHost_2 : decode cX10_isHost 2 = .ok (.lconst 0, 1) := by decide +kernel
theorem dX10_isHost_3 : decode cX10_isHost 3 = .ok (.lconst 1, 1) := by decide +kernel
theorem dX10_isHost_4 : decode cX10_isHost 4 = .ok (.invokestatic 95, 3) := by decide +kernel
theorem dX10_isHost_7 : decode cX10_isHost 7 = .ok (.ireturn, 1) := by decide +kernel
theorem dX10_isCell_0 : decode cX10_isCell 0 = .ok (.iload_n 0, 1) := by decide +kernel
theorem dX10_isCell_1 : decode cX10_isCell 1 = .ok (.i2l, 1) := by decide +kernel
theorem dX10_isCell_2 : decode cX10_isCell 2 = .ok (.lconst 0, 1) := by decide +kernel
theorem dX10_isCell_3 : decode cX10_isCell 3 = .ok (.ldc2_w 99, 3) := by decide +kernel
theorem dX10_isCell_6 : decode cX10_isCell 6 = .ok (.invokestatic 95, 3) := by decide +kernel
theorem dX10_isCell_9 : decode cX10_isCell 9 = .ok (.ireturn, 1) := by decide +kernel
theorem dX10_isEnd_0 : decode cX10_isEnd 0 = .ok (.iload_n 0, 1) := by decide +kernel
theorem dX10_isEnd_1 : decode cX10_isEnd 1 = .ok (.i2l, 1) := by decide +kernel
theorem dX10_isEnd_2 : decode cX10_isEnd 2 = .ok (.lconst 0, 1) := by decide +kernel
theorem dX10_isEnd_3 : decode cX10_isEnd 3 = .ok (.ldc2_w 101, 3) := by decide +kernel
theorem dX10_isEnd_6 : decode cX10_isEnd 6 = .ok (.invokestatic 95, 3) := by decide +kernel
theorem dX10_isEnd_9 : decode cX10_isEnd 9 = .ok (.ireturn, 1) := by decide +kernel
theorem dX10_isNumber_0 : decode cX10_isNumber 0 = .ok (.iload_n 0, 1) := by decide +kernel
theorem dX10_isNumber_1 : decode cX10_isNumber 1 = .ok (.i2l, 1) := by decide +kernel
theorem dX10_isNumber_2 : decode cX10_isNumber 2 = .ok (.lconst 0, 1) := by decide +kernel
theorem dX10_isNumber_3 : decode cX10_isNumber 3 = .ok (.ldc2_w 103, 3) := by decide +kernel
theorem dX10_isNumber_6 : decode cX10_isNumber 6 = .ok (.invokestatic 95, 3) := by decide +kernel
theorem dX10_isNumber_9 : decode cX10_isNumber 9 = .ok (.ireturn, 1) := by decide +kernel
theorem dX10_allAnew_0 : decode cX10_allAnew 0 = .ok (.iconst 0, 1) := by decide +kernel
theorem dX10_allAnew_1 : decode cX10_allAnew 1 = .ok (.istore_n 1, 1) := by decide +kernel
theorem dX10_allAnew_2 : decode cX10_allAnew 2 = .ok (.iload_n 1, 1) := by decide +kernel
theorem dX10_allAnew_3 : decode cX10_allAnew 3 = .ok (.bipush 24, 2) := by decide +kernel
theorem dX10_allAnew_5 : decode cX10_allAnew 5 = .ok (.if_icmp .ge 16, 3) := by decide +kernel
theorem dX10_allAnew_8 : decode cX10_allAnew 8 = .ok (.aload_n 0, 1) := by decide +kernel
theorem dX10_allAnew_9 : decode cX10_allAnew 9 = .ok (.getfield 7, 3) := by decide +kernel
theorem dX10_allAnew_12 : decode cX10_allAnew 12 = .ok (.iload_n 1, 1) := by decide +kernel
theorem dX10_allAnew_13 : decode cX10_allAnew 13 = .ok (.iconst 0, 1) := by decide +kernel
theorem dX10_allAnew_14 : decode cX10_allAnew 14 = .ok (.iastore, 1) := by decide +kernel
theorem dX10_allAnew_15 : decode cX10_allAnew 15 = .ok (.iinc 1 1, 3) := by decide +kernel
theorem dX10_allAnew_18 : decode cX10_allAnew 18 = .ok (.goto (-16), 3) := by decide +kernel
theorem dX10_allAnew_21 : decode cX10_allAnew 21 = .ok (.iconst 0, 1) := by decide +kernel
theorem dX10_allAnew_22 : decode cX10_allAnew 22 = .ok (.istore_n 1, 1) := by decide +kernel
theorem dX10_allAnew_23 : decode cX10_allAnew 23 = .ok (.iload_n 1, 1) := by decide +kernel
theorem dX10_allAnew_24 : decode cX10_allAnew 24 = .ok (.bipush 8, 2) := by decide +kernel
theorem dX10_allAnew_26 : decode cX10_allAnew 26 = .ok (.if_icmp .ge 16, 3) := by decide +kernel
theorem dX10_allAnew_29 : decode cX10_allAnew 29 = .ok (.aload_n 0, 1) := by decide +kernel
theorem dX10_allAnew_30 : decode cX10_allAnew 30 = .ok (.getfield 16, 3) := by decide +kernel
theorem dX10_allAnew_33 : decode cX10_allAnew 33 = .ok (.iload_n 1, 1) := by decide +kernel
theorem dX10_allAnew_34 : decode cX10_allAnew 34 = .ok (.iconst 0, 1) := by decide +kernel
theorem dX10_allAnew_35 : decode cX10_allAnew 35 = .ok (.iastore, 1) := by decide +kernel
theorem dX10_allAnew_36 : decode cX10_allAnew 36 = .ok (.iinc 1 1, 3) := by decide +kernel
theorem dX10_allAnew_39 : decode cX10_allAnew 39 = .ok (.goto (-16), 3) := by decide +kernel
theorem dX10_allAnew_42 : decode cX10_allAnew 42 = .ok (.iconst 0, 1) := by decide +kernel
theorem dX10_allAnew_43 : decode cX10_allAnew 43 = .ok (.istore_n 1, 1) := by decide +kernel
theorem dX10_allAnew_44 : decode cX10_allAnew 44 = .ok (.iload_n 1, 1) := by decide +kernel
theorem dX10_allAnew_45 : decode cX10_allAnew 45 = .ok (.iconst 4, 1) := by decide +kernel
theorem dX10_allAnew_46 : decode cX10_allAnew 46 = .ok (.if_icmp .ge 29, 3) := by decide +kernel
theorem dX10_allAnew_49 : decode cX10_allAnew 49 = .ok (.aload_n 0, 1) := by decide +kernel
theorem dX10_allAnew_50 : decode cX10_allAnew 50 = .ok (.iload_n 1, 1) := by decide +kernel
theorem dX10_allAnew_51 : decode cX10_allAnew 51 = .ok (.iconst 0, 1) := by decide +kernel
theorem dX10_allAnew_52 : decode cX10_allAnew 52 = .ok (.invokevirtual 105, 3) := by decide +kernel
theorem dX10_allAnew_55 : decode cX10_allAnew 55 = .ok (.aload_n 0, 1) := by decide +kernel
theorem dX10_allAnew_56 : decode cX10_allAnew 56 = .ok (.getfield 59, 3) := by decide +kernel
theorem dX10_allAnew_59 : decode cX10_allAnew 59 = .ok (.iload_n 1, 1) := by decide +kernel
theorem dX10_allAnew_60 : decode cX10_allAnew 60 = .ok (.iconst 0, 1) := by decide +kernel
theorem dX10_allAnew_61 : decode cX10_allAnew 61 = .ok (.iastore, 1) := by decide +kernel
theorem dX10_allAnew_62 : decode cX10_allAnew 62 = .ok (.aload_n 0, 1) := by decide +kernel
theorem dX10_allAnew_63 : decode cX10_allAnew 63 = .ok (.getfield 62, 3) := by decide +kernel
theorem dX10_allAnew_66 : decode cX10_allAnew 66 = .ok (.iload_n 1, 1) := by decide +kernel
theorem dX10_allAnew_67 : decode cX10_allAnew 67 = .ok (.iconst 0, 1) := by decide +kernel
theorem dX10_allAnew_68 : decode cX10_allAnew 68 = .ok (.iastore, 1) := by decide +kernel
theorem dX10_allAnew_69 : decode cX10_allAnew 69 = .ok (.iinc 1 1, 3) := by decide +kernel
theorem dX10_allAnew_72 : decode cX10_allAnew 72 = .ok (.goto (-28), 3) := by decide +kernel
theorem dX10_allAnew_75 : decode cX10_allAnew 75 = .ok (.iconst 0, 1) := by decide +kernel
theorem dX10_allAnew_76 : decode cX10_allAnew 76 = .ok (.istore_n 1, 1) := by decide +kernel
theorem dX10_allAnew_77 : decode cX10_allAnew 77 = .ok (.iload_n 1, 1) := by decide +kernel
theorem dX10_allAnew_78 : decode cX10_allAnew 78 = .ok (.iconst 2, 1) := by decide +kernel
theorem dX10_allAnew_79 : decode cX10_allAnew 79 = .ok (.if_icmp .ge 30, 3) := by decide +kernel
theorem dX10_allAnew_82 : decode cX10_allAnew 82 = .ok (.aload_n 0, 1) := by decide +kernel
theorem dX10_allAnew_83 : decode cX10_allAnew 83 = .ok (.getfield 65, 3) := by decide +kernel
theorem dX10_allAnew_86 : decode cX10_allAnew 86 = .ok (.iload_n 1, 1) := by decide +kernel
theorem dX10_allAnew_87 : decode cX10_allAnew 87 = .ok (.iconst 1, 1) := by decide +kernel
theorem dX10_allAnew_88 : decode cX10_allAnew 88 = .ok (.iastore, 1) := by decide +kernel
theorem dX10_allAnew_89 : decode cX10_allAnew 89 = .ok (.aload_n 0, 1) := by decide +kernel
theorem dX10_allAnew_90 : decode cX10_allAnew 90 = .ok (.getfield 74, 3) := by decide +kernel
theorem dX10_allAnew_93 : decode cX10_allAnew 93 = .ok (.iload_n 1, 1) := by decide +kernel
theorem dX10_allAnew_94 : decode cX10_allAnew 94 = .ok (.iconst 0, 1) := by decide +kernel
theorem dX10_allAnew_95 : decode cX10_allAnew 95 = .ok (.iastore, 1) := by decide +kernel
theorem dX10_allAnew_96 : decode cX10_allAnew 96 = .ok (.aload_n 0, 1) := by decide +kernel
theorem dX10_allAnew_97 : decode cX10_allAnew 97 = .ok (.getfield 77, 3) := by decide +kernel
theorem dX10_allAnew_100 : decode cX10_allAnew 100 = .ok (.iload_n 1, 1) := by decide +kernel
theorem dX10_allAnew_101 : decode cX10_allAnew 101 = .ok (.iconst 0, 1) := by decide +kernel
theorem dX10_allAnew_102 : decode cX10_allAnew 102 = .ok (.iastore, 1) := by decide +kernel
theorem dX10_allAnew_103 : decode cX10_allAnew 103 = .ok (.iinc 1 1, 3) := by decide +kernel
theorem dX10_allAnew_106 : decode cX10_allAnew 106 = .ok (.goto (-29), 3) := by decide +kernel
theorem dX10_allAnew_109 : decode cX10_allAnew 109 = .ok (.aload_n 0, 1) := by decide +kernel
theorem dX10_allAnew_110 : decode cX10_allAnew 110 = .ok (.iconst 0, 1) := by decide +kernel
theorem dX10_allAnew_111 : decode cX10_allAnew 111 = .ok (.putfield 109, 3) := by decide +kernel
theorem dX10_allAnew_114 : decode cX10_allAnew 114 = .ok (.aload_n 0, 1) := by decide +kernel
theorem dX10_allAnew_115 : decode cX10_allAnew 115 = .ok (.iconst 0, 1) := by decide +kernel
theorem dX10_allAnew_116 : decode cX10_allAnew 116 = .ok (.putfield 113, 3) := by decide +kernel
theorem dX10_allAnew_119 : decode cX10_allAnew 119 = .ok (.aload_n 0, 1) := by decide +kernel
theorem dX10_allAnew_120 : decode cX10_allAnew 120 = .ok (.iconst 0, 1) := by decide +kernel
theorem dX10_allAnew_121 : decode cX10_allAnew 121 = .ok (.putfield 116, 3) := by decide +kernel
theorem dX10_allAnew_124 : decode cX10_allAnew 124 = .ok (.aload_n 0, 1) := by decide +kernel
theorem dX10_allAnew_125 : decode cX10_allAnew 125 = .ok (.iconst 0, 1) := by decide +kernel
theorem dX10_allAnew_126 : decode cX10_allAnew 126 = .ok (.putfield 120, 3) := by decide +kernel
theorem dX10_allAnew_129 : decode cX10_allAnew 129 = .ok (.aload_n 0, 1) := by decide +kernel
theorem dX10_allAnew_130 : decode cX10_allAnew 130 = .ok (.iconst 0, 1) := by decide +kernel
theorem dX10_allAnew_131 : decode cX10_allAnew 131 = .ok (.putfield 123, 3) := by decide +kernel
theorem dX10_allAnew_134 : decode cX10_allAnew 134 = .ok (.return_, 1) := by decide +kernel
theorem dX10_endAnew_0 : decode cX10_endAnew 0 = .ok (.aload_n 0, 1) := by decide +kernel
theorem dX10_endAnew_1 : decode cX10_endAnew 1 = .ok (.getfield 22, 3) := by decide +kernel
theorem dX10_endAnew_4 : decode cX10_endAnew 4 = .ok (.iload_n 1, 1) := by decide +kernel
theorem dX10_endAnew_5 : decode cX10_endAnew 5 = .ok (.iload_n 2, 1) := by decide +kernel
theorem dX10_endAnew_6 : decode cX10_endAnew 6 = .ok (.iastore, 1) := by decide +kernel
theorem dX10_endAnew_7 : decode cX10_endAnew 7 = .ok (.aload_n 0, 1) := by decide +kernel
theorem dX10_endAnew_8 : decode cX10_endAnew 8 = .ok (.getfield 25, 3) := by decide +kernel
theorem dX10_endAnew_11 : decode cX10_endAnew 11 = .ok (.iload_n 1, 1) := by decide +kernel
theorem dX10_endAnew_12 : decode cX10_endAnew 12 = .ok (.iconst 0, 1) := by decide +kernel
theorem dX10_endAnew_13 : decode cX10_endAnew 13 = .ok (.iastore, 1) := by decide +kernel
theorem dX10_endAnew_14 : decode cX10_endAnew 14 = .ok (.aload_n 0, 1) := by decide +kernel
theorem dX10_endAnew_15 : decode cX10_endAnew 15 = .ok (.getfield 28, 3) := by decide +kernel
theorem dX10_endAnew_18 : decode cX10_endAnew 18 = .ok (.iload_n 1, 1) := by decide +kernel
theorem dX10_endAnew_19 : decode cX10_endAnew 19 = .ok (.iconst 0, 1) := by decide +kernel
theorem dX10_endAnew_20 : decode cX10_endAnew 20 = .ok (.iastore, 1) := by decide +kernel
theorem dX10_endAnew_21 : decode cX10_endAnew 21 = .ok (.aload_n 0, 1) := by decide +kernel
theorem dX10_endAnew_22 : decode cX10_endAnew 22 = .ok (.getfield 34, 3) := by decide +kernel
theorem dX10_endAnew_25 : decode cX10_endAnew 25 = .ok (.iload_n 1, 1) := by decide +kernel
theorem dX10_endAnew_26 : decode cX10_endAnew 26 = .ok (.iconst 0, 1) := by decide +kernel
theorem dX10_endAnew_27 : decode cX10_endAnew 27 = .ok (.iastore, 1) := by decide +kernel
theorem dX10_endAnew_28 : decode cX10_endAnew 28 = .ok (.aload_n 0, 1) := by decide +kernel
theorem dX10_endAnew_29 : decode cX10_endAnew 29 = .ok (.getfield 37, 3) := by decide +kernel
theorem dX10_endAnew_32 : decode cX10_endAnew 32 = .ok (.iload_n 1, 1) := by decide +kernel
theorem dX10_endAnew_33 : decode cX10_endAnew 33 = .ok (.iconst 0, 1) := by decide +kernel
theorem dX10_endAnew_34 : decode cX10_endAnew 34 = .ok (.iastore, 1) := by decide +kernel
theorem dX10_endAnew_35 : decode cX10_endAnew 35 = .ok (.aload_n 0, 1) := by decide +kernel
theorem dX10_endAnew_36 : decode cX10_endAnew 36 = .ok (.getfield 43, 3) := by decide +kernel
theorem dX10_endAnew_39 : decode cX10_endAnew 39 = .ok (.iload_n 1, 1) := by decide +kernel
theorem dX10_endAnew_40 : decode cX10_endAnew 40 = .ok (.iconst 0, 1) := by decide +kernel
theorem dX10_endAnew_41 : decode cX10_endAnew 41 = .ok (.iastore, 1) := by decide +kernel
theorem dX10_endAnew_42 : decode cX10_endAnew 42 = .ok (.aload_n 0, 1) := by decide +kernel
theorem dX10_endAnew_43 : decode cX10_endAnew 43 = .ok (.getfield 46, 3) := by decide +kernel
theorem dX10_endAnew_46 : decode cX10_endAnew 46 = .ok (.iload_n 1, 1) := by decide +kernel
theorem dX10_endAnew_47 : decode cX10_endAnew 47 = .ok (.iconst 0, 1) := by decide +kernel
theorem dX10_endAnew_48 : decode cX10_endAnew 48 = .ok (.iastore, 1) := by decide +kernel
theorem dX10_endAnew_49 : decode cX10_endAnew 49 = .ok (.aload_n 0, 1) := by decide +kernel
theorem dX10_endAnew_50 : decode cX10_endAnew 50 = .ok (.getfield 49, 3) := by decide +kernel
theorem dX10_endAnew_53 : decode cX10_endAnew 53 = .ok (.iload_n 1, 1) := by decide +kernel
theorem dX10_endAnew_54 : decode cX10_endAnew 54 = .ok (.iconst 0, 1) := by decide +kernel
theorem dX10_endAnew_55 : decode cX10_endAnew 55 = .ok (.bastore, 1) := by decide +kernel
theorem dX10_endAnew_56 : decode cX10_endAnew 56 = .ok (.aload_n 0, 1) := by decide +kernel
theorem dX10_endAnew_57 : decode cX10_endAnew 57 = .ok (.getfield 53, 3) := by decide +kernel
theorem dX10_endAnew_60 : decode cX10_endAnew 60 = .ok (.iload_n 1, 1) := by decide +kernel
theorem dX10_endAnew_61 : decode cX10_endAnew 61 = .ok (.iconst 0, 1) := by decide +kernel
theorem dX10_endAnew_62 : decode cX10_endAnew 62 = .ok (.iastore, 1) := by decide +kernel
theorem dX10_endAnew_63 : decode cX10_endAnew 63 = .ok (.return_, 1) := by decide +kernel
theorem dX10_write_0 : decode cX10_write 0 = .ok (.iload_n 1, 1) := by decide +kernel
theorem dX10_write_1 : decode cX10_write 1 = .ok (.i2l, 1) := by decide +kernel
theorem dX10_write_2 : decode cX10_write 2 = .ok (.lconst 0, 1) := by decide +kernel
theorem dX10_write_3 : decode cX10_write 3 = .ok (.ldc2_w 126, 3) := by decide +kernel
theorem dX10_write_6 : decode cX10_write 6 = .ok (.invokestatic 95, 3) := by decide +kernel
theorem dX10_write_9 : decode cX10_write 9 = .ok (.ifCond .ne 7, 3) := by decide +kernel
theorem dX10_write_12 : decode cX10_write 12 = .ok (.sipush (-1002), 3) := by decide +kernel
theorem dX10_write_15 : decode cX10_write 15 = .ok (.ireturn, 1) := by decide +kernel
theorem dX10_write_16 : decode cX10_write 16 = .ok (.aload_n 0, 1) := by decide +kernel
theorem dX10_write_17 : decode cX10_write 17 = .ok (.getfield 128, 3) := by decide +kernel
theorem dX10_write_20 : decode cX10_write 20 = .ok (.sipush 200, 3) := by decide +kernel
theorem dX10_write_23 : decode cX10_write 23 = .ok (.if_icmp .ne 7, 3) := by decide +kernel
theorem dX10_write_26 : decode cX10_write 26 = .ok (.sipush (-1004), 3) := by decide +kernel
theorem dX10_write_29 : decode cX10_write 29 = .ok (.ireturn, 1) := by decide +kernel
theorem dX10_write_30 : decode cX10_write 30 = .ok (.aload_n 0, 1) := by decide +kernel
theorem dX10_write_31 : decode cX10_write 31 = .ok (.getfield 83, 3) := by decide +kernel
theorem dX10_write_34 : decode cX10_write 34 = .ok (.aload_n 0, 1) := by decide +kernel
theorem dX10_write_35 : decode cX10_write 35 = .ok (.getfield 128, 3) := by decide +kernel
theorem dX10_write_38 : decode cX10_write 38 = .ok (.iload_n 1, 1) := by decide +kernel
theorem dX10_write_39 : decode cX10_write 39 = .ok (.iastore, 1) := by decide +kernel
theorem dX10_write_40 : decode cX10_write 40 = .ok (.aload_n 0, 1) := by decide +kernel
theorem dX10_write_41 : decode cX10_write 41 = .ok (.dup, 1) := by decide +kernel
theorem dX10_write_42 : decode cX10_write 42 = .ok (.getfield 128, 3) := by decide +kernel
theorem dX10_write_45 : decode cX10_write 45 = .ok (.iconst 1, 1) := by decide +kernel
theorem dX10_write_46 : decode cX10_write 46 = .ok (.iadd, 1) := by decide +kernel
theorem dX10_write_47 : decode cX10_write 47 = .ok (.putfield 128, 3) := by decide +kernel
theorem dX10_write_50 : decode cX10_write 50 = .ok (.aload_n 0, 1) := by decide +kernel
theorem dX10_write_51 : decode cX10_write 51 = .ok (.getfield 128, 3) := by decide +kernel
theorem dX10_write_54 : decode cX10_write 54 = .ok (.ireturn, 1) := by decide +kernel
theorem dX10_erase_0 : decode cX10_erase 0 = .ok (.aload_n 0, 1) := by decide +kernel
theorem dX10_erase_1 : decode cX10_erase 1 = .ok (.getfield 128, 3) := by decide +kernel
theorem dX10_erase_4 : decode cX10_erase 4 = .ok (.istore_n 1, 1) := by decide +kernel
theorem dX10_erase_5 : decode cX10_erase 5 = .ok (.aload_n 0, 1) := by decide +kernel
theorem dX10_erase_6 : decode cX10_erase 6 = .ok (.iconst 0, 1) := by decide +kernel
theorem dX10_erase_7 : decode cX10_erase 7 = .ok (.putfield 128, 3) := by decide +kernel
theorem dX10_erase_10 : decode cX10_erase 10 = .ok (.iload_n 1, 1) := by decide +kernel
theorem dX10_erase_11 : decode cX10_erase 11 = .ok (.ireturn, 1) := by decide +kernel
theorem dX10_isSmall_0 : decode cX10_isSmall 0 = .ok (.iload_n 0, 1) := by decide +kernel
theorem dX10_isSmall_1 : decode cX10_isSmall 1 = .ok (.i2l, 1) := by decide +kernel
theorem dX10_isSmall_2 : decode cX10_isSmall 2 = .ok (.ldc2_w 131, 3) := by decide +kernel
theorem dX10_isSmall_5 : decode cX10_isSmall 5 = .ok (.ldc2_w 133, 3) := by decide +kernel
theorem dX10_isSmall_8 : decode cX10_isSmall 8 = .ok (.invokestatic 95, 3) := by decide +kernel
theorem dX10_isSmall_11 : decode cX10_isSmall 11 = .ok (.ireturn, 1) := by decide +kernel
theorem dX10_isDigit_0 : decode cX10_isDigit 0 = .ok (.iload_n 0, 1) := by decide +kernel
theorem dX10_isDigit_1 : decode cX10_isDigit 1 = .ok (.i2l, 1) := by decide +kernel
theorem dX10_isDigit_2 : decode cX10_isDigit 2 = .ok (.ldc2_w 135, 3) := by decide +kernel
theorem dX10_isDigit_5 : decode cX10_isDigit 5 = .ok (.ldc2_w 137, 3) := by decide +kernel
theorem dX10_isDigit_8 : decode cX10_isDigit 8 = .ok (.invokestatic 95, 3) := by decide +kernel
theorem dX10_isDigit_11 : decode cX10_isDigit 11 = .ok (.ireturn, 1) := by decide +kernel
theorem dX10_next_0 : decode cX10_next 0 = .ok (.aload_n 0, 1) := by decide +kernel
theorem dX10_next_1 : decode cX10_next 1 = .ok (.aload_n 0, 1) := by decide +kernel
theorem dX10_next_2 : decode cX10_next 2 = .ok (.getfield 139, 3) := by decide +kernel
theorem dX10_next_5 : decode cX10_next 5 = .ok (.putfield 142, 3) := by decide +kernel
theorem dX10_next_8 : decode cX10_next 8 = .ok (.aload_n 0, 1) := by decide +kernel
theorem dX10_next_9 : decode cX10_next 9 = .ok (.getfield 142, 3) := by decide +kernel
theorem dX10_next_12 : decode cX10_next 12 = .ok (.aload_n 0, 1) := by decide +kernel
theorem dX10_next_13 : decode cX10_next 13 = .ok (.getfield 128, 3) := by decide +kernel
theorem dX10_next_16 : decode cX10_next 16 = .ok (.if_icmp .ge 30, 3) := by decide +kernel
theorem dX10_next_19 : decode cX10_next 19 = .ok (.aload_n 0, 1) := by decide +kernel
theorem dX10_next_20 : decode cX10_next 20 = .ok (.getfield 83, 3) := by decide +kernel
theorem dX10_next_23 : decode cX10_next 23 = .ok (.aload_n 0, 1) := by decide +kernel
theorem dX10_next_24 : decode cX10_next 24 = .ok (.getfield 142, 3) := by decide +kernel
theorem dX10_next_27 : decode cX10_next 27 = .ok (.iaload, 1) := by decide +kernel
theorem dX10_next_28 : decode cX10_next 28 = .ok (.bipush 32, 2) := by decide +kernel
theorem dX10_next_30 : decode cX10_next 30 = .ok (.if_icmp .ne 16, 3) := by decide +kernel
theorem dX10_next_33 : decode cX10_next 33 = .ok (.aload_n 0, 1) := by decide +kernel
theorem dX10_next_34 : decode cX10_next 34 = .ok (.dup, 1) := by decide +kernel
theorem dX10_next_35 : decode cX10_next 35 = .ok (.getfield 142, 3) := by decide +kernel
theorem dX10_next_38 : decode cX10_next 38 = .ok (.iconst 1, 1) := by decide +kernel
theorem dX10_next_39 : decode cX10_next 39 = .ok (.iadd, 1) := by decide +kernel
theorem dX10_next_40 : decode cX10_next 40 = .ok (.putfield 142, 3) := by decide +kernel
theorem dX10_next_43 : decode cX10_next 43 = .ok (.goto (-35), 3) := by decide +kernel
theorem dX10_next_46 : decode cX10_next 46 = .ok (.aload_n 0, 1) := by decide +kernel
theorem dX10_next_47 : decode cX10_next 47 = .ok (.aload_n 0, 1) := by decide +kernel
theorem dX10_next_48 : decode cX10_next 48 = .ok (.getfield 142, 3) := by decide +kernel
theorem dX10_next_51 : decode cX10_next 51 = .ok (.aload_n 0, 1) := by decide +kernel
theorem dX10_next_52 : decode cX10_next 52 = .ok (.getfield 128, 3) := by decide +kernel
theorem dX10_next_55 : decode cX10_next 55 = .ok (.if_icmp .ge 12, 3) := by decide +kernel
theorem dX10_next_58 : decode cX10_next 58 = .ok (.aload_n 0, 1) := by decide +kernel
theorem dX10_next_59 : decode cX10_next 59 = .ok (.getfield 142, 3) := by decide +kernel
theorem dX10_next_62 : decode cX10_next 62 = .ok (.iconst 1, 1) := by decide +kernel
theorem dX10_next_63 : decode cX10_next 63 = .ok (.iadd, 1) := by decide +kernel
theorem dX10_next_64 : decode cX10_next 64 = .ok (.goto 7, 3) := by decide +kernel
theorem dX10_next_67 : decode cX10_next 67 = .ok (.aload_n 0, 1) := by decide +kernel
theorem dX10_next_68 : decode cX10_next 68 = .ok (.getfield 142, 3) := by decide +kernel
theorem dX10_next_71 : decode cX10_next 71 = .ok (.putfield 139, 3) := by decide +kernel
theorem dX10_next_74 : decode cX10_next 74 = .ok (.aload_n 0, 1) := by decide +kernel
theorem dX10_next_75 : decode cX10_next 75 = .ok (.getfield 142, 3) := by decide +kernel
theorem dX10_next_78 : decode cX10_next 78 = .ok (.aload_n 0, 1) := by decide +kernel
theorem dX10_next_79 : decode cX10_next 79 = .ok (.getfield 128, 3) := by decide +kernel
theorem dX10_next_82 : decode cX10_next 82 = .ok (.if_icmp .ge 22, 3) := by decide +kernel
theorem dX10_next_85 : decode cX10_next 85 = .ok (.aload_n 0, 1) := by decide +kernel
theorem dX10_next_86 : decode cX10_next 86 = .ok (.getfield 83, 3) := by decide +kernel
theorem dX10_next_89 : decode cX10_next 89 = .ok (.aload_n 0, 1) := by decide +kernel
theorem dX10_next_90 : decode cX10_next 90 = .ok (.getfield 142, 3) := by decide +kernel
theorem dX10_next_93 : decode cX10_next 93 = .ok (.iaload, 1) := by decide +kernel
