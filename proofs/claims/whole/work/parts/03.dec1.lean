theorem dX5_beRequest_2 : decode cX5_beRequest 2 = .ok (.putfield 18, 3) := by decide +kernel
theorem dX5_beRequest_5 : decode cX5_beRequest 5 = .ok (.aload_n 0, 1) := by decide +kernel
theorem dX5_beRequest_6 : decode cX5_beRequest 6 = .ok (.aload_n 1, 1) := by decide +kernel
theorem dX5_beRequest_7 : decode cX5_beRequest 7 = .ok (.getfield 42, 3) := by decide +kernel
theorem dX5_beRequest_10 : decode cX5_beRequest 10 = .ok (.putfield 21, 3) := by decide +kernel
theorem dX5_beRequest_13 : decode cX5_beRequest 13 = .ok (.aload_n 0, 1) := by decide +kernel
theorem dX5_beRequest_14 : decode cX5_beRequest 14 = .ok (.iconst 0, 1) := by decide +kernel
theorem dX5_beRequest_15 : decode cX5_beRequest 15 = .ok (.putfield 24, 3) := by decide +kernel
theorem dX5_beRequest_18 : decode cX5_beRequest 18 = .ok (.aload_n 0, 1) := by decide +kernel
theorem dX5_beRequest_19 : decode cX5_beRequest 19 = .ok (.aload_n 1, 1) := by decide +kernel
theorem dX5_beRequest_20 : decode cX5_beRequest 20 = .ok (.getfield 45, 3) := by decide +kernel
theorem dX5_beRequest_23 : decode cX5_beRequest 23 = .ok (.putfield 27, 3) := by decide +kernel
theorem dX5_beRequest_26 : decode cX5_beRequest 26 = .ok (.aload_n 0, 1) := by decide +kernel
theorem dX5_beRequest_27 : decode cX5_beRequest 27 = .ok (.aload_n 1, 1) := by decide +kernel
theorem dX5_beRequest_28 : decode cX5_beRequest 28 = .ok (.getfield 46, 3) := by decide +kernel
theorem dX5_beRequest_31 : decode cX5_beRequest 31 = .ok (.putfield 30, 3) := by decide +kernel
theorem dX5_beRequest_34 : decode cX5_beRequest 34 = .ok (.aload_n 0, 1) := by decide +kernel
theorem dX5_beRequest_35 : decode cX5_beRequest 35 = .ok (.aload_n 1, 1) := by decide +kernel
theorem dX5_beRequest_36 : decode cX5_beRequest 36 = .ok (.getfield 47, 3) := by decide +kernel
theorem dX5_beRequest_39 : decode cX5_beRequest 39 = .ok (.putfield 33, 3) := by decide +kernel
theorem dX5_beRequest_42 : decode cX5_beRequest 42 = .ok (.aload_n 0, 1) := by decide +kernel
theorem dX5_beRequest_43 : decode cX5_beRequest 43 = .ok (.aload_n 1, 1) := by decide +kernel
theorem dX5_beRequest_44 : decode cX5_beRequest 44 = .ok (.getfield 48, 3) := by decide +kernel
theorem dX5_beRequest_47 : decode cX5_beRequest 47 = .ok (.putfield 36, 3) := by decide +kernel
theorem dX5_beRequest_50 : decode cX5_beRequest 50 = .ok (.aload_n 0, 1) := by decide +kernel
theorem dX5_beRequest_51 : decode cX5_beRequest 51 = .ok (.aload_n 1, 1) := by decide +kernel
theorem dX5_beRequest_52 : decode cX5_beRequest 52 = .ok (.getfield 49, 3) := by decide +kernel
theorem dX5_beRequest_55 : decode cX5_beRequest 55 = .ok (.putfield 39, 3) := by decide +kernel
theorem dX5_beRequest_58 : decode cX5_beRequest 58 = .ok (.return_, 1) := by decide +kernel
theorem dX5_beCopyOf_0 : decode cX5_beCopyOf 0 = .ok (.aload_n 0, 1) := by decide +kernel
theorem dX5_beCopyOf_1 : decode cX5_beCopyOf 1 = .ok (.aload_n 1, 1) := by decide +kernel
theorem dX5_beCopyOf_2 : decode cX5_beCopyOf 2 = .ok (.getfield 9, 3) := by decide +kernel
theorem dX5_beCopyOf_5 : decode cX5_beCopyOf 5 = .ok (.putfield 9, 3) := by decide +kernel
theorem dX5_beCopyOf_8 : decode cX5_beCopyOf 8 = .ok (.aload_n 0, 1) := by decide +kernel
theorem dX5_beCopyOf_9 : decode cX5_beCopyOf 9 = .ok (.aload_n 1, 1) := by decide +kernel
theorem dX5_beCopyOf_10 : decode cX5_beCopyOf 10 = .ok (.getfield 15, 3) := by decide +kernel
theorem dX5_beCopyOf_13 : decode cX5_beCopyOf 13 = .ok (.putfield 15, 3) := by decide +kernel
theorem dX5_beCopyOf_16 : decode cX5_beCopyOf 16 = .ok (.aload_n 0, 1) := by decide +kernel
theorem dX5_beCopyOf_17 : decode cX5_beCopyOf 17 = .ok (.aload_n 1, 1) := by decide +kernel
theorem dX5_beCopyOf_18 : decode cX5_beCopyOf 18 = .ok (.getfield 18, 3) := by decide +kernel
theorem dX5_beCopyOf_21 : decode cX5_beCopyOf 21 = .ok (.putfield 18, 3) := by decide +kernel
theorem dX5_beCopyOf_24 : decode cX5_beCopyOf 24 = .ok (.aload_n 0, 1) := by decide +kernel
theorem dX5_beCopyOf_25 : decode cX5_beCopyOf 25 = .ok (.aload_n 1, 1) := by decide +kernel
theorem dX5_beCopyOf_26 : decode cX5_beCopyOf 26 = .ok (.getfield 21, 3) := by decide +kernel
theorem dX5_beCopyOf_29 : decode cX5_beCopyOf 29 = .ok (.putfield 21, 3) := by decide +kernel
theorem dX5_beCopyOf_32 : decode cX5_beCopyOf 32 = .ok (.aload_n 0, 1) := by decide +kernel
theorem dX5_beCopyOf_33 : decode cX5_beCopyOf 33 = .ok (.aload_n 1, 1) := by decide +kernel
theorem dX5_beCopyOf_34 : decode cX5_beCopyOf 34 = .ok (.getfield 24, 3) := by decide +kernel
theorem dX5_beCopyOf_37 : decode cX5_beCopyOf 37 = .ok (.putfield 24, 3) := by decide +kernel
theorem dX5_beCopyOf_40 : decode cX5_beCopyOf 40 = .ok (.aload_n 0, 1) := by decide +kernel
theorem dX5_beCopyOf_41 : decode cX5_beCopyOf 41 = .ok (.aload_n 1, 1) := by decide +kernel
theorem dX5_beCopyOf_42 : decode cX5_beCopyOf 42 = .ok (.getfield 27, 3) := by decide +kernel
theorem dX5_beCopyOf_45 : decode cX5_beCopyOf 45 = .ok (.putfield 27, 3) := by decide +kernel
theorem dX5_beCopyOf_48 : decode cX5_beCopyOf 48 = .ok (.aload_n 0, 1) := by decide +kernel
theorem dX5_beCopyOf_49 : decode cX5_beCopyOf 49 = .ok (.aload_n 1, 1) := by decide +kernel
theorem dX5_beCopyOf_50 : decode cX5_beCopyOf 50 = .ok (.getfield 30, 3) := by decide +kernel
theorem dX5_beCopyOf_53 : decode cX5_beCopyOf 53 = .ok (.putfield 30, 3) := by decide +kernel
theorem dX5_beCopyOf_56 : decode cX5_beCopyOf 56 = .ok (.aload_n 0, 1) := by decide +kernel
theorem dX5_beCopyOf_57 : decode cX5_beCopyOf 57 = .ok (.aload_n 1, 1) := by decide +kernel
theorem dX5_beCopyOf_58 : decode cX5_beCopyOf 58 = .ok (.getfield 33, 3) := by decide +kernel
theorem dX5_beCopyOf_61 : decode cX5_beCopyOf 61 = .ok (.putfield 33, 3) := by decide +kernel
theorem dX5_beCopyOf_64 : decode cX5_beCopyOf 64 = .ok (.aload_n 0, 1) := by decide +kernel
theorem dX5_beCopyOf_65 : decode cX5_beCopyOf 65 = .ok (.aload_n 1, 1) := by decide +kernel
theorem dX5_beCopyOf_66 : decode cX5_beCopyOf 66 = .ok (.getfield 36, 3) := by decide +kernel
theorem dX5_beCopyOf_69 : decode cX5_beCopyOf 69 = .ok (.putfield 36, 3) := by decide +kernel
theorem dX5_beCopyOf_72 : decode cX5_beCopyOf 72 = .ok (.aload_n 0, 1) := by decide +kernel
theorem dX5_beCopyOf_73 : decode cX5_beCopyOf 73 = .ok (.aload_n 1, 1) := by decide +kernel
theorem dX5_beCopyOf_74 : decode cX5_beCopyOf 74 = .ok (.getfield 39, 3) := by decide +kernel
theorem dX5_beCopyOf_77 : decode cX5_beCopyOf 77 = .ok (.putfield 39, 3) := by decide +kernel
theorem dX5_beCopyOf_80 : decode cX5_beCopyOf 80 = .ok (.return_, 1) := by decide +kernel
theorem dX6_init_0 : decode cX6_init 0 = .ok (.aload_n 0, 1) := by decide +kernel
theorem dX6_init_1 : decode cX6_init 1 = .ok (.invokespecial 3, 3) := by decide +kernel
theorem dX6_init_4 : decode cX6_init 4 = .ok (.aload_n 0, 1) := by decide +kernel
theorem dX6_init_5 : decode cX6_init 5 = .ok (.sipush 200, 3) := by decide +kernel
theorem dX6_init_8 : decode cX6_init 8 = .ok (.newarray .char, 2) := by decide +kernel
theorem dX6_init_10 : decode cX6_init 10 = .ok (.putfield 9, 3) := by decide +kernel
theorem dX6_init_13 : decode cX6_init 13 = .ok (.aload_n 0, 1) := by decide +kernel
theorem dX6_init_14 : decode cX6_init 14 = .ok (.iconst 5, 1) := by decide +kernel
theorem dX6_init_15 : decode cX6_init 15 = .ok (.newarray .int, 2) := by decide +kernel
theorem dX6_init_17 : decode cX6_init 17 = .ok (.putfield 15, 3) := by decide +kernel
theorem dX6_init_20 : decode cX6_init 20 = .ok (.aload_n 0, 1) := by decide +kernel
theorem dX6_init_21 : decode cX6_init 21 = .ok (.iconst 0, 1) := by decide +kernel
theorem dX6_init_22 : decode cX6_init 22 = .ok (.putfield 19, 3) := by decide +kernel
theorem dX6_init_25 : decode cX6_init 25 = .ok (.aload_n 0, 1) := by decide +kernel
theorem dX6_init_26 : decode cX6_init 26 = .ok (.iconst 0, 1) := by decide +kernel
theorem dX6_init_27 : decode cX6_init 27 = .ok (.putfield 23, 3) := by decide +kernel
theorem dX6_init_30 : decode cX6_init 30 = .ok (.aload_n 0, 1) := by decide +kernel
theorem dX6_init_31 : decode cX6_init 31 = .ok (.iconst 0, 1) := by decide +kernel
theorem dX6_init_32 : decode cX6_init 32 = .ok (.putfield 26, 3) := by decide +kernel
theorem dX6_init_35 : decode cX6_init 35 = .ok (.aload_n 0, 1) := by decide +kernel
theorem dX6_init_36 : decode cX6_init 36 = .ok (.iconst (-1), 1) := by decide +kernel
theorem dX6_init_37 : decode cX6_init 37 = .ok (.putfield 29, 3) := by decide +kernel
theorem dX6_init_40 : decode cX6_init 40 = .ok (.aload_n 0, 1) := by decide +kernel
theorem dX6_init_41 : decode cX6_init 41 = .ok (.iconst 0, 1) := by decide +kernel
theorem dX6_init_42 : decode cX6_init 42 = .ok (.putfield 32, 3) := by decide +kernel
theorem dX6_init_45 : decode cX6_init 45 = .ok (.return_, 1) := by decide +kernel
theorem dX6_append_0 : decode cX6_append 0 = .ok (.aload_n 0, 1) := by decide +kernel
theorem dX6_append_1 : decode cX6_append 1 = .ok (.getfield 19, 3) := by decide +kernel
theorem dX6_append_4 : decode cX6_append 4 = .ok (.sipush 200, 3) := by decide +kernel
theorem dX6_append_7 : decode cX6_append 7 = .ok (.if_icmp .ge 23, 3) := by decide +kernel
theorem dX6_append_10 : decode cX6_append 10 = .ok (.aload_n 0, 1) := by decide +kernel
theorem dX6_append_11 : decode cX6_append 11 = .ok (.getfield 9, 3) := by decide +kernel
theorem dX6_append_14 : decode cX6_append 14 = .ok (.aload_n 0, 1) := by decide +kernel
theorem dX6_append_15 : decode cX6_append 15 = .ok (.getfield 19, 3) := by decide +kernel
theorem dX6_append_18 : decode cX6_append 18 = .ok (.iload_n 1, 1) := by decide +kernel
theorem dX6_append_19 : decode cX6_append 19 = .ok (.castore, 1) := by decide +kernel
theorem dX6_append_20 : decode cX6_append 20 = .ok (.aload_n 0, 1) := by decide +kernel
theorem dX6_append_21 : decode cX6_append 21 = .ok (.dup, 1) := by decide +kernel
theorem dX6_append_22 : decode cX6_append 22 = .ok (.getfield 19, 3) := by decide +kernel
theorem dX6_append_25 : decode cX6_append 25 = .ok (.iconst 1, 1) := by decide +kernel
theorem dX6_append_26 : decode cX6_append 26 = .ok (.iadd, 1) := by decide +kernel
theorem dX6_append_27 : decode cX6_append 27 = .ok (.putfield 19, 3) := by decide +kernel
theorem dX6_append_30 : decode cX6_append 30 = .ok (.return_, 1) := by decide +kernel
theorem dX6_rewind_0 : decode cX6_rewind 0 = .ok (.aload_n 0, 1) := by decide +kernel
theorem dX6_rewind_1 : decode cX6_rewind 1 = .ok (.iconst 0, 1) := by decide +kernel
theorem dX6_rewind_2 : decode cX6_rewind 2 = .ok (.putfield 23, 3) := by decide +kernel
theorem dX6_rewind_5 : decode cX6_rewind 5 = .ok (.aload_n 0, 1) := by decide +kernel
theorem dX6_rewind_6 : decode cX6_rewind 6 = .ok (.iconst 0, 1) := by decide +kernel
theorem dX6_rewind_7 : decode cX6_rewind 7 = .ok (.putfield 26, 3) := by decide +kernel
theorem dX6_rewind_10 : decode cX6_rewind 10 = .ok (.return_, 1) := by decide +kernel
theorem dX6_findFault_0 : decode cX6_findFault 0 = .ok (.aload_n 0, 1) := by decide +kernel
theorem dX6_findFault_1 : decode cX6_findFault 1 = .ok (.invokevirtual 35, 3) := by decide +kernel
theorem dX6_findFault_4 : decode cX6_findFault 4 = .ok (.iconst 1, 1) := by decide +kernel
theorem dX6_findFault_5 : decode cX6_findFault 5 = .ok (.istore_n 1, 1) := by decide +kernel
theorem dX6_findFault_6 : decode cX6_findFault 6 = .ok (.iload_n 1, 1) := by decide +kernel
theorem dX6_findFault_7 : decode cX6_findFault 7 = .ok (.bipush 24, 2) := by decide +kernel
theorem dX6_findFault_9 : decode cX6_findFault 9 = .ok (.if_icmp .gt 62, 3) := by decide +kernel
theorem dX6_findFault_12 : decode cX6_findFault 12 = .ok (.aload_n 0, 1) := by decide +kernel
theorem dX6_findFault_13 : decode cX6_findFault 13 = .ok (.invokevirtual 38, 3) := by decide +kernel
theorem dX6_findFault_16 : decode cX6_findFault 16 = .ok (.ifCond .ne 8, 3) := by decide +kernel
theorem dX6_findFault_19 : decode cX6_findFault 19 = .ok (.aload_n 0, 1) := by decide +kernel
theorem dX6_findFault_20 : decode cX6_findFault 20 = .ok (.getfield 23, 3) := by decide +kernel
theorem dX6_findFault_23 : decode cX6_findFault 23 = .ok (.ireturn, 1) := by decide +kernel
theorem dX6_findFault_24 : decode cX6_findFault 24 = .ok (.aload_n 0, 1) := by decide +kernel
theorem dX6_findFault_25 : decode cX6_findFault 25 = .ok (.invokevirtual 42, 3) := by decide +kernel
theorem dX6_findFault_28 : decode cX6_findFault 28 = .ok (.aload_n 0, 1) := by decide +kernel
theorem dX6_findFault_29 : decode cX6_findFault 29 = .ok (.getfield 23, 3) := by decide +kernel
theorem dX6_findFault_32 : decode cX6_findFault 32 = .ok (.aload_n 0, 1) := by decide +kernel
theorem dX6_findFault_33 : decode cX6_findFault 33 = .ok (.getfield 19, 3) := by decide +kernel
theorem dX6_findFault_36 : decode cX6_findFault 36 = .ok (.if_icmp .ne 10, 3) := by decide +kernel
theorem dX6_findFault_39 : decode cX6_findFault 39 = .ok (.aload_n 0, 1) := by decide +kernel
theorem dX6_findFault_40 : decode cX6_findFault 40 = .ok (.iload_n 1, 1) := by decide +kernel
theorem dX6_findFault_41 : decode cX6_findFault 41 = .ok (.putfield 32, 3) := by decide +kernel
theorem dX6_findFault_44 : decode cX6_findFault 44 = .ok (.iconst (-1), 1) := by decide +kernel
theorem dX6_findFault_45 : decode cX6_findFault 45 = .ok (.ireturn, 1) := by decide +kernel
theorem dX6_findFault_46 : decode cX6_findFault 46 = .ok (.aload_n 0, 1) := by decide +kernel
theorem dX6_findFault_47 : decode cX6_findFault 47 = .ok (.getfield 9, 3) := by decide +kernel
theorem dX6_findFault_50 : decode cX6_findFault 50 = .ok (.aload_n 0, 1) := by decide +kernel
theorem dX6_findFault_51 : decode cX6_findFault 51 = .ok (.getfield 23, 3) := by decide +kernel
theorem dX6_findFault_54 : decode cX6_findFault 54 = .ok (.caload, 1) := by decide +kernel
theorem dX6_findFault_55 : decode cX6_findFault 55 = .ok (.bipush 59, 2) := by decide +kernel
theorem dX6_findFault_57 : decode cX6_findFault 57 = .ok (.if_icmp .eq 8, 3) := by decide +kernel
theorem dX6_findFault_60 : decode cX6_findFault 60 = .ok (.aload_n 0, 1) := by decide +kernel
theorem dX6_findFault_61 : decode cX6_findFault 61 = .ok (.getfield 23, 3) := by decide +kernel
theorem dX6_findFault_64 : decode cX6_findFault 64 = .ok (.ireturn, 1) := by decide +kernel
theorem dX6_findFault_65 : decode cX6_findFault 65 = .ok (.iinc 1 1, 3) := by decide +kernel
theorem dX6_findFault_68 : decode cX6_findFault 68 = .ok (.goto (-62), 3) := by decide +kernel
theorem dX6_findFault_71 : decode cX6_findFault 71 = .ok (.aload_n 0, 1) := by decide +kernel
theorem dX6_findFault_72 : decode cX6_findFault 72 = .ok (.getfield 23, 3) := by decide +kernel
theorem dX6_findFault_75 : decode cX6_findFault 75 = .ok (.ireturn, 1) := by decide +kernel
theorem dX6_readClause_0 : decode cX6_readClause 0 = .ok (.aload_n 0, 1) := by decide +kernel
theorem dX6_readClause_1 : decode cX6_readClause 1 = .ok (.invokevirtual 42, 3) := by decide +kernel
theorem dX6_readClause_4 : decode cX6_readClause 4 = .ok (.aload_n 0, 1) := by decide +kernel
theorem dX6_readClause_5 : decode cX6_readClause 5 = .ok (.aload_n 0, 1) := by decide +kernel
theorem dX6_readClause_6 : decode cX6_readClause 6 = .ok (.invokevirtual 45, 3) := by decide +kernel
theorem dX6_readClause_9 : decode cX6_readClause 9 = .ok (.putfield 29, 3) := by decide +kernel
theorem dX6_readClause_12 : decode cX6_readClause 12 = .ok (.aload_n 0, 1) := by decide +kernel
theorem dX6_readClause_13 : decode cX6_readClause 13 = .ok (.getfield 29, 3) := by decide +kernel
theorem dX6_readClause_16 : decode cX6_readClause 16 = .ok (.tableswitch 219 0 5 #[40, 42, 108, 147, 174, 211], 40) := by decide +kernel
theorem dX6_readClause_56 : decode cX6_readClause 56 = .ok (.iconst 1, 1) := by decide +kernel
theorem dX6_readClause_57 : decode cX6_readClause 57 = .ok (.ireturn, 1) := by decide +kernel
theorem dX6_readClause_58 : decode cX6_readClause 58 = .ok (.aload_n 0, 1) := by decide +kernel
theorem dX6_readClause_59 : decode cX6_readClause 59 = .ok (.iconst 0, 1) := by decide +kernel
theorem dX6_readClause_60 : decode cX6_readClause 60 = .ok (.iconst 0, 1) := by decide +kernel
theorem dX6_readClause_61 : decode cX6_readClause 61 = .ok (.iconst 1, 1) := by decide +kernel
theorem dX6_readClause_62 : decode cX6_readClause 62 = .ok (.invokevirtual 49, 3) := by decide +kernel
theorem dX6_readClause_65 : decode cX6_readClause 65 = .ok (.ifCond .eq 57, 3) := by decide +kernel
theorem dX6_readClause_68 : decode cX6_readClause 68 = .ok (.aload_n 0, 1) := by decide +kernel
theorem dX6_readClause_69 : decode cX6_readClause 69 = .ok (.iconst 1, 1) := by decide +kernel
theorem dX6_readClause_70 : decode cX6_readClause 70 = .ok (.iconst 0, 1) := by decide +kernel
theorem dX6_readClause_71 : decode cX6_readClause 71 = .ok (.iconst 3, 1) := by decide +kernel
theorem dX6_readClause_72 : decode cX6_readClause 72 = .ok (.invokevirtual 49, 3) := by decide +kernel
theorem dX6_readClause_75 : decode cX6_readClause 75 = .ok (.ifCond .eq 47, 3) := by decide +kernel
theorem dX6_readClause_78 : decode cX6_readClause 78 = .ok (.aload_n 0, 1) := by decide +kernel
theorem dX6_readClause_79 : decode cX6_readClause 79 = .ok (.iconst 2, 1) := by decide +kernel
theorem dX6_readClause_80 : decode cX6_readClause 80 = .ok (.iconst 0, 1) := by decide +kernel
theorem dX6_readClause_81 : decode cX6_readClause 81 = .ok (.bipush 11, 2) := by decide +kernel
theorem dX6_readClause_83 : decode cX6_readClause 83 = .ok (.invokevirtual 49, 3) := by decide +kernel
theorem dX6_readClause_86 : decode cX6_readClause 86 = .ok (.ifCond .eq 36, 3) := by decide +kernel
theorem dX6_readClause_89 : decode cX6_readClause 89 = .ok (.aload_n 0, 1) := by decide +kernel
theorem dX6_readClause_90 : decode cX6_readClause 90 = .ok (.iconst 3, 1) := by decide +kernel
theorem dX6_readClause_91 : decode cX6_readClause 91 = .ok (.iconst 1, 1) := by decide +kernel
theorem dX6_readClause_92 : decode cX6_readClause 92 = .ok (.bipush 12, 2) := by decide +kernel
theorem dX6_readClause_94 : decode cX6_readClause 94 = .ok (.aload_n 0, 1) := by decide +kernel
theorem dX6_readClause_95 : decode cX6_readClause 95 = .ok (.getfield 15, 3) := by decide +kernel
theorem dX6_readClause_98 : decode cX6_readClause 98 = .ok (.iconst 2, 1) := by decide +kernel
theorem dX6_readClause_99 : decode cX6_readClause 99 = .ok (.iaload, 1) := by decide +kernel
theorem dX6_readClause_100 : decode cX6_readClause 100 = .ok (.isub, 1) := by decide +kernel
theorem dX6_readClause_101 : decode cX6_readClause 101 = .ok (.invokevirtual 49, 3) := by decide +kernel
theorem dX6_readClause_104 : decode cX6_readClause 104 = .ok (.ifCond .eq 18, 3) := by decide +kernel
theorem dX6_readClause_107 : decode cX6_readClause 107 = .ok (.aload_n 0, 1) := by decide +kernel
theorem dX6_readClause_108 : decode cX6_readClause 108 = .ok (.iconst 4, 1) := by decide +kernel
theorem dX6_readClause_109 : decode cX6_readClause 109 = .ok (.iconst 0, 1) := by decide +kernel
theorem dX6_readClause_110 : decode cX6_readClause 110 = .ok (.bipush 7, 2) := by decide +kernel
theorem dX6_readClause_112 : decode cX6_readClause 112 = .ok (.invokevirtual 49, 3) := by decide +kernel
theorem dX6_readClause_115 : decode cX6_readClause 115 = .ok (.ifCond .eq 7, 3) := by decide +kernel
theorem dX6_readClause_118 : decode cX6_readClause 118 = .ok (.iconst 1, 1) := by decide +kernel
theorem dX6_readClause_119 : decode cX6_readClause 119 = .ok (.goto 4, 3) := by decide +kernel
theorem dX6_readClause_122 : decode cX6_readClause 122 = .ok (.iconst 0, 1) := by decide +kernel
theorem dX6_readClause_123 : decode cX6_readClause 123 = .ok (.ireturn, 1) := by decide +kernel
theorem dX6_readClause_124 : decode cX6_readClause 124 = .ok (.aload_n 0, 1) := by decide +kernel
theorem dX6_readClause_125 : decode cX6_readClause 125 = .ok (.iconst 0, 1) := by decide +kernel
theorem dX6_readClause_126 : decode cX6_readClause 126 = .ok (.iconst 0, 1) := by decide +kernel
theorem dX6_readClause_127 : decode cX6_readClause 127 = .ok (.iconst 1, 1) := by decide +kernel
theorem dX6_readClause_128 : decode cX6_readClause 128 = .ok (.invokevirtual 49, 3) := by decide +kernel
theorem dX6_readClause_131 : decode cX6_readClause 131 = .ok (.ifCond .eq 30, 3) := by decide +kernel
theorem dX6_readClause_134 : decode cX6_readClause 134 = .ok (.aload_n 0, 1) := by decide +kernel
theorem dX6_readClause_135 : decode cX6_readClause 135 = .ok (.iconst 1, 1) := by decide +kernel
theorem dX6_readClause_136 : decode cX6_readClause 136 = .ok (.iconst 0, 1) := by decide +kernel
theorem dX6_readClause_137 : decode cX6_readClause 137 = .ok (.bipush 11, 2) := by decide +kernel
theorem dX6_readClause_139 : decode cX6_readClause 139 = .ok (.invokevirtual 49, 3) := by decide +kernel
theorem dX6_readClause_142 : decode cX6_readClause 142 = .ok (.ifCond .eq 19, 3) := by decide +kernel
theorem dX6_readClause_145 : decode cX6_readClause 145 = .ok (.aload_n 0, 1) := by decide +kernel
theorem dX6_readClause_146 : decode cX6_readClause 146 = .ok (.iconst 2, 1) := by decide +kernel
theorem dX6_readClause_147 : decode cX6_readClause 147 = .ok (.iconst 0, 1) := by decide +kernel
theorem dX6_readClause_148 : decode cX6_readClause 148 = .ok (.sipush 9999, 3) := by decide +kernel
theorem dX6_readClause_151 : decode cX6_readClause 151 = .ok (.invokevirtual 49, 3) := by decide +kernel
theorem dX6_readClause_154 : decode cX6_readClause 154 = .ok (.ifCond .eq 7, 3) := by decide +kernel
theorem dX6_readClause_157 : decode cX6_readClause 157 = .ok (.iconst 1, 1) := by decide +kernel
theorem dX6_readClause_158 : decode cX6_readClause 158 = .ok (.goto 4, 3) := by decide +kernel
theorem dX6_readClause_161 : decode cX6_readClause 161 = .ok (.iconst 0, 1) := by decide +kernel
theorem dX6_readClause_162 : decode cX6_readClause 162 = .ok (.ireturn, 1) := by decide +kernel
theorem dX6_readClause_163 : decode cX6_readClause 163 = .ok (.aload_n 0, 1) := by decide +kernel
theorem dX6_readClause_164 : decode cX6_readClause 164 = .ok (.iconst 0, 1) := by decide +kernel
theorem dX6_readClause_165 : decode cX6_readClause 165 = .ok (.iconst 0, 1) := by decide +kernel
theorem dX6_readClause_166 : decode cX6_readClause 166 = .ok (.iconst 1, 1) := by decide +kernel
theorem dX6_readClause_167 : decode cX6_readClause 167 = .ok (.invokevirtual 49, 3) := by decide +kernel
theorem dX6_readClause_170 : decode cX6_readClause 170 = .ok (.ifCond .eq 18, 3) := by decide +kernel
theorem dX6_readClause_173 : decode cX6_readClause 173 = .ok (.aload_n 0, 1) := by decide +kernel
theorem dX6_readClause_174 : decode cX6_readClause 174 = .ok (.iconst 1, 1) := by decide +kernel
theorem dX6_readClause_175 : decode cX6_readClause 175 = .ok (.iconst 1, 1) := by decide +kernel
theorem dX6_readClause_176 : decode cX6_readClause 176 = .ok (.bipush 9, 2) := by decide +kernel
theorem dX6_readClause_178 : decode cX6_readClause 178 = .ok (.invokevirtual 49, 3) := by decide +kernel
theorem dX6_readClause_181 : decode cX6_readClause 181 = .ok (.ifCond .eq 7, 3) := by decide +kernel
theorem dX6_readClause_184 : decode cX6_readClause 184 = .ok (.iconst 1, 1) := by decide +kernel
theorem dX6_readClause_185 : decode cX6_readClause 185 = .ok (.goto 4, 3) := by decide +kernel
theorem dX6_readClause_188 : decode cX6_readClause 188 = .ok (.iconst 0, 1) := by decide +kernel
theorem dX6_readClause_189 : decode cX6_readClause 189 = .ok (.ireturn, 1) := by decide +kernel
theorem dX6_readClause_190 : decode cX6_readClause 190 = .ok (.aload_n 0, 1) := by decide +kernel
theorem dX6_readClause_191 : decode cX6_readClause 191 = .ok (.iconst 0, 1) := by decide +kernel
theorem dX6_readClause_192 : decode cX6_readClause 192 = .ok (.iconst 0, 1) := by decide +kernel
theorem dX6_readClause_193 : decode cX6_readClause 193 = .ok (.iconst 3, 1) := by decide +kernel
theorem dX6_readClause_194 : decode cX6_readClause 194 = .ok (.invokevirtual 49, 3) := by decide +kernel
theorem dX6_readClause_197 : decode cX6_readClause 197 = .ok (.ifCond .eq 28, 3) := by decide +kernel
theorem dX6_readClause_200 : decode cX6_readClause 200 = .ok (.aload_n 0, 1) := by decide +kernel
theorem dX6_readClause_201 : decode cX6_readClause 201 = .ok (.iconst 1, 1) := by decide +kernel
theorem dX6_readClause_202 : decode cX6_readClause 202 = .ok (.iconst 0, 1) := by decide +kernel
theorem dX6_readClause_203 : decode cX6_readClause 203 = .ok (.iconst 3, 1) := by decide +kernel
theorem dX6_readClause_204 : decode cX6_readClause 204 = .ok (.invokevirtual 49, 3) := by decide +kernel
theorem dX6_readClause_207 : decode cX6_readClause 207 = .ok (.ifCond .eq 18, 3) := by decide +kernel
theorem dX6_readClause_210 : decode cX6_readClause 210 = .ok (.aload_n 0, 1) := by decide +kernel
theorem dX6_readClause_211 : decode cX6_readClause 211 = .ok (.iconst 2, 1) := by decide +kernel
theorem dX6_readClause_212 : decode cX6_readClause 212 = .ok (.iconst 0, 1) := by decide +kernel
theorem dX6_readClause_213 : decode cX6_readClause 213 = .ok (.bipush 11, 2) := by decide +kernel
theorem dX6_readClause_215 : decode cX6_readClause 215 = .ok (.invokevirtual 49, 3) := by decide +kernel
theorem dX6_readClause_218 : decode cX6_readClause 218 = .ok (.ifCond .eq 7, 3) := by decide +kernel
theorem dX6_readClause_221 : decode cX6_readClause 221 = .ok (.iconst 1, 1) := by decide +kernel
theorem dX6_readClause_222 : decode cX6_readClause 222 = .ok (.goto 4, 3) := by decide +kernel
theorem dX6_readClause_225 : decode cX6_readClause 225 = .ok (.iconst 0, 1) := by decide +kernel
theorem dX6_readClause_226 : decode cX6_readClause 226 = .ok (.ireturn, 1) := by decide +kernel
theorem dX6_readClause_227 : decode cX6_readClause 227 = .ok (.aload_n 0, 1) := by decide +kernel
theorem dX6_readClause_228 : decode cX6_readClause 228 = .ok (.iconst 0, 1) := by decide +kernel
theorem dX6_readClause_229 : decode cX6_readClause 229 = .ok (.iconst 0, 1) := by decide +kernel
theorem dX6_readClause_230 : decode cX6_readClause 230 = .ok (.iconst 1, 1) := by decide +kernel
theorem dX6_readClause_231 : decode cX6_readClause 231 = .ok (.invokevirtual 49, 3) := by decide +kernel
theorem dX6_readClause_234 : decode cX6_readClause 234 = .ok (.ireturn, 1) := by decide +kernel
theorem dX6_readClause_235 : decode cX6_readClause 235 = .ok (.iconst 0, 1) := by decide +kernel
theorem dX6_readClause_236 : decode cX6_readClause 236 = .ok (.ireturn, 1) := by decide +kernel
theorem dX6_nextToken_0 : decode cX6_nextToken 0 = .ok (.aload_n 0, 1) := by decide +kernel
theorem dX6_nextToken_1 : decode cX6_nextToken 1 = .ok (.aload_n 0, 1) := by decide +kernel
theorem dX6_nextToken_2 : decode cX6_nextToken 2 = .ok (.getfield 26, 3) := by decide +kernel
theorem dX6_nextToken_5 : decode cX6_nextToken 5 = .ok (.putfield 23, 3) := by decide +kernel
theorem dX6_nextToken_8 : decode cX6_nextToken 8 = .ok (.aload_n 0, 1) := by decide +kernel
theorem dX6_nextToken_9 : decode cX6_nextToken 9 = .ok (.getfield 23, 3) := by decide +kernel
theorem dX6_nextToken_12 : decode cX6_nextToken 12 = .ok (.aload_n 0, 1) := by decide +kernel
theorem dX6_nextToken_13 : decode cX6_nextToken 13 = .ok (.getfield 19, 3) := by decide +kernel
theorem dX6_nextToken_16 : decode cX6_nextToken 16 = .ok (.if_icmp .ge 30, 3) := by decide +kernel
theorem dX6_nextToken_19 : decode cX6_nextToken 19 = .ok (.aload_n 0, 1) := by decide +kernel
theorem dX6_nextToken_20 : decode cX6_nextToken 20 = .ok (.getfield 9, 3) := by decide +kernel
theorem dX6_nextToken_23 : decode cX6_nextToken 23 = .ok (.aload_n 0, 1) := by decide +kernel
theorem dX6_nextToken_24 : decode cX6_nextToken 24 = .ok (.getfield 23, 3) := by decide +kernel
theorem dX6_nextToken_27 : decode cX6_nextToken 27 = .ok (.caload, 1) := by decide +kernel
theorem dX6_nextToken_28 : decode cX6_nextToken 28 = .ok (.bipush 32, 2) := by decide +kernel
theorem dX6_nextToken_30 : decode cX6_nextToken 30 = .ok (.if_icmp .ne 16, 3) := by decide +kernel
theorem dX6_nextToken_33 : decode cX6_nextToken 33 = .ok (.aload_n 0, 1) := by decide +kernel
theorem dX6_nextToken_34 : decode cX6_nextToken 34 = .ok (.dup, 1) := by decide +kernel
theorem dX6_nextToken_35 : decode cX6_nextToken 35 = .ok (.getfield 23, 3) := by decide +kernel
theorem dX6_nextToken_38 : decode cX6_nextToken 38 = .ok (.iconst 1, 1) := by decide +kernel
theorem dX6_nextToken_39 : decode cX6_nextToken 39 = .ok (.iadd, 1) := by decide +kernel
theorem dX6_nextToken_40 : decode cX6_nextToken 40 = .ok (.putfield 23, 3) := by decide +kernel
theorem dX6_nextToken_43 : decode cX6_nextToken 43 = .ok (.goto (-35), 3) := by decide +kernel
theorem dX6_nextToken_46 : decode cX6_nextToken 46 = .ok (.aload_n 0, 1) := by decide +kernel
theorem dX6_nextToken_47 : decode cX6_nextToken 47 = .ok (.aload_n 0, 1) := by decide +kernel
theorem dX6_nextToken_48 : decode cX6_nextToken 48 = .ok (.getfield 23, 3) := by decide +kernel
theorem dX6_nextToken_51 : decode cX6_nextToken 51 = .ok (.putfield 26, 3) := by decide +kernel
theorem dX6_nextToken_54 : decode cX6_nextToken 54 = .ok (.aload_n 0, 1) := by decide +kernel
theorem dX6_nextToken_55 : decode cX6_nextToken 55 = .ok (.getfield 23, 3) := by decide +kernel
theorem dX6_nextToken_58 : decode cX6_nextToken 58 = .ok (.aload_n 0, 1) := by decide +kernel
theorem dX6_nextToken_59 : decode cX6_nextToken 59 = .ok (.getfield 19, 3) := by decide +kernel
theorem dX6_nextToken_62 : decode cX6_nextToken 62 = .ok (.if_icmp .lt 4, 3) := by decide +kernel
theorem dX6_nextToken_65 : decode cX6_nextToken 65 = .ok (.return_, 1) := by decide +kernel
theorem dX6_nextToken_66 : decode cX6_nextToken 66 = .ok (.aload_n 0, 1) := by decide +kernel
theorem dX6_nextToken_67 : decode cX6_nextToken 67 = .ok (.getfield 9, 3) := by decide +kernel
theorem dX6_nextToken_70 : decode cX6_nextToken 70 = .ok (.aload_n 0, 1) := by decide +kernel
theorem dX6_nextToken_71 : decode cX6_nextToken 71 = .ok (.getfield 23, 3) := by decide +kernel
theorem dX6_nextToken_74 : decode cX6_nextToken 74 = .ok (.caload, 1) := by decide +kernel
theorem dX6_nextToken_75 : decode cX6_nextToken 75 = .ok (.istore_n 1, 1) := by decide +kernel
theorem dX6_nextToken_76 : decode cX6_nextToken 76 = .ok (.aload_n 0, 1) := by decide +kernel
theorem dX6_nextToken_77 : decode cX6_nextToken 77 = .ok (.dup, 1) := by decide +kernel
theorem dX6_nextToken_78 : decode cX6_nextToken 78 = .ok (.getfield 26, 3) := by decide +kernel
theorem dX6_nextToken_81 : decode cX6_nextToken 81 = .ok (.iconst 1, 1) := by decide +kernel
theorem dX6_nextToken_82 : decode cX6_nextToken 82 = .ok (.iadd, 1) := by decide +kernel
theorem dX6_nextToken_83 : decode cX6_nextToken 83 = .ok (.putfield 26, 3) := by decide +kernel
theorem dX6_nextToken_86 : decode cX6_nextToken 86 = .ok (.iload_n 1, 1) := by decide +kernel
theorem dX6_nextToken_87 : decode cX6_nextToken 87 = .ok (.invokestatic 53, 3) := by decide +kernel
theorem dX6_nextToken_90 : decode cX6_nextToken 90 = .ok (.ifCond .ne 11, 3) := by decide +kernel
theorem dX6_nextToken_93 : decode cX6_nextToken 93 = .ok (.iload_n 1, 1) := by decide +kernel
theorem dX6_nextToken_94 : decode cX6_nextToken 94 = .ok (.invokestatic 57, 3) := by decide +kernel
theorem dX6_nextToken_97 : decode cX6_nextToken 97 = .ok (.ifCond .ne 4, 3) := by decide +kernel
theorem dX6_nextToken_100 : decode cX6_nextToken 100 = .ok (.return_, 1) := by decide +kernel
theorem dX6_nextToken_101 : decode cX6_nextToken 101 = .ok (.aload_n 0, 1) := by decide +kernel
theorem dX6_nextToken_102 : decode cX6_nextToken 102 = .ok (.getfield 26, 3) := by decide +kernel
theorem dX6_nextToken_105 : decode cX6_nextToken 105 = .ok (.aload_n 0, 1) := by decide +kernel
theorem dX6_nextToken_106 : decode cX6_nextToken 106 = .ok (.getfield 19, 3) := by decide +kernel
theorem dX6_nextToken_109 : decode cX6_nextToken 109 = .ok (.if_icmp .ge 32, 3) := by decide +kernel
theorem dX6_nextToken_112 : decode cX6_nextToken 112 = .ok (.iload_n 1, 1) := by decide +kernel
theorem dX6_nextToken_113 : decode cX6_nextToken 113 = .ok (.aload_n 0, 1) := by decide +kernel
theorem dX6_nextToken_114 : decode cX6_nextToken 114 = .ok (.getfield 9, 3) := by decide +kernel
theorem dX6_nextToken_117 : decode cX6_nextToken 117 = .ok (.aload_n 0, 1) := by decide +kernel
theorem dX6_nextToken_118 : decode cX6_nextToken 118 = .ok (.getfield 26, 3) := by decide +kernel
theorem dX6_nextToken_121 : decode cX6_nextToken 121 = .ok (.caload, 1) := by decide +kernel
theorem dX6_nextToken_122 : decode cX6_nextToken 122 = .ok (.invokestatic 60, 3) := by decide +kernel
theorem dX6_nextToken_125 : decode cX6_nextToken 125 = .ok (.ifCond .eq 16, 3) := by decide +kernel
theorem dX6_nextToken_128 : decode cX6_nextToken 128 = .ok (.aload_n 0, 1) := by decide +kernel
theorem dX6_nextToken_129 : decode cX6_nextToken 129 = .ok (.dup, 1) := by decide +kernel
theorem dX6_nextToken_130 : decode cX6_nextToken 130 = .ok (.getfield 26, 3) := by decide +kernel
theorem dX6_nextToken_133 : decode cX6_nextToken 133 = .ok (.iconst 1, 1) := by decide +kernel
theorem dX6_nextToken_134 : decode cX6_nextToken 134 = .ok (.iadd, 1) := by decide +kernel
theorem dX6_nextToken_135 : decode cX6_nextToken 135 = .ok (.putfield 26, 3) := by decide +kernel
theorem dX6_nextToken_138 : decode cX6_nextToken 138 = .ok (.goto (-37), 3) := by decide +kernel
theorem dX6_nextToken_141 : decode cX6_nextToken 141 = .ok (.return_, 1) := by decide +kernel
theorem dX6_isSmall_0 : decode cX6_isSmall 0 = .ok (.iload_n 0, 1) := by decide +kernel
theorem dX6_isSmall_1 : decode cX6_isSmall 1 = .ok (.bipush 97, 2) := by decide +kernel
theorem dX6_isSmall_3 : decode cX6_isSmall 3 = .ok (.if_icmp .lt 13, 3) := by decide +kernel
theorem dX6_isSmall_6 : decode cX6_isSmall 6 = .ok (.iload_n 0, 1) := by decide +kernel
theorem dX6_isSmall_7 : decode cX6_isSmall 7 = .ok (.bipush 122, 2) := by decide +kernel
theorem dX6_isSmall_9 : decode cX6_isSmall 9 = .ok (.if_icmp .gt 7, 3) := by decide +kernel
theorem dX6_isSmall_12 : decode cX6_isSmall 12 = .ok (.iconst 1, 1) := by decide +kernel
theorem dX6_isSmall_13 : decode cX6_isSmall 13 = .ok (.goto 4, 3) := by decide +kernel
theorem dX6_isSmall_16 : decode cX6_isSmall 16 = .ok (.iconst 0, 1) := by decide +kernel
theorem dX6_isSmall_17 : decode cX6_isSmall 17 = .ok (.ireturn, 1) := by decide +kernel
theorem dX6_isDigit_0 : decode cX6_isDigit 0 = .ok (.iload_n 0, 1) := by decide +kernel
theorem dX6_isDigit_1 : decode cX6_isDigit 1 = .ok (.bipush 48, 2) := by decide +kernel
theorem dX6_isDigit_3 : decode cX6_isDigit 3 = .ok (.if_icmp .lt 13, 3) := by decide +kernel
theorem dX6_isDigit_6 : decode cX6_isDigit 6 = .ok (.iload_n 0, 1) := by decide +kernel
theorem dX6_isDigit_7 : decode cX6_isDigit 7 = .ok (.bipush 57, 2) := by decide +kernel
theorem dX6_isDigit_9 : decode cX6_isDigit 9 = .ok (.if_icmp .gt 7, 3) := by decide +kernel
theorem dX6_isDigit_12 : decode cX6_isDigit 12 = .ok (.iconst 1, 1) := by decide +kernel
theorem dX6_isDigit_13 : decode cX6_isDigit 13 = .ok (.goto 4, 3) := by decide +kernel
theorem dX6_isDigit_16 : decode cX6_isDigit 16 = .ok (.iconst 0, 1) := by decide +kernel
theorem dX6_isDigit_17 : decode cX6_isDigit 17 = .ok (.ireturn, 1) := by decide +kernel
theorem dX6_isAlike_0 : decode cX6_isAlike 0 = .ok (.iload_n 0, 1) := by decide +kernel
theorem dX6_isAlike_1 : decode cX6_isAlike 1 = .ok (.invokestatic 53, 3) := by decide +kernel
theorem dX6_isAlike_4 : decode cX6_isAlike 4 = .ok (.ifCond .eq 10, 3) := by decide +kernel
theorem dX6_isAlike_7 : decode cX6_isAlike 7 = .ok (.iload_n 1, 1) := by decide +kernel
theorem dX6_isAlike_8 : decode cX6_isAlike 8 = .ok (.invokestatic 53, 3) := by decide +kernel
theorem dX6_isAlike_11 : decode cX6_isAlike 11 = .ok (.goto 7, 3) := by decide +kernel
theorem dX6_isAlike_14 : decode cX6_isAlike 14 = .ok (.iload_n 1, 1) := by decide +kernel
theorem dX6_isAlike_15 : decode cX6_isAlike 15 = .ok (.invokestatic 57, 3) := by decide +kernel
theorem dX6_isAlike_18 : decode cX6_isAlike 18 = .ok (.ireturn, 1) := by decide +kernel
theorem dX6_wordOfToken_0 : decode cX6_wordOfToken 0 = .ok (.aload_n 0, 1) := by decide +kernel
theorem dX6_wordOfToken_1 : decode cX6_wordOfToken 1 = .ok (.ldc 64, 2) := by decide +kernel
theorem dX6_wordOfToken_3 : decode cX6_wordOfToken 3 = .ok (.invokevirtual 66, 3) := by decide +kernel
theorem dX6_wordOfToken_6 : decode cX6_wordOfToken 6 = .ok (.ifCond .eq 5, 3) := by decide +kernel
theorem dX6_wordOfToken_9 : decode cX6_wordOfToken 9 = .ok (.iconst 0, 1) := by decide +kernel
theorem dX6_wordOfToken_10 : decode cX6_wordOfToken 10 = .ok (.ireturn, 1) := by decide +kernel
theorem dX6_wordOfToken_11 : decode cX6_wordOfToken 11 = .ok (.aload_n 0, 1) := by decide +kernel
theorem dX6_wordOfToken_12 : decode cX6_wordOfToken 12 = .ok (.ldc 70, 2) := by decide +kernel
theorem dX6_wordOfToken_14 : decode cX6_wordOfToken 14 = .ok (.invokevirtual 66, 3) := by decide +kernel
theorem dX6_wordOfToken_17 : decode cX6_wordOfToken 17 = .ok (.ifCond .eq 5, 3) := by decide +kernel
theorem dX6_wordOfToken_20 : decode cX6_wordOfToken 20 = .ok (.iconst 1, 1) := by decide +kernel
theorem dX6_wordOfToken_21 : decode cX6_wordOfToken 21 = .ok (.ireturn, 1) := by decide +kernel
theorem dX6_wordOfToken_22 : decode cX6_wordOfToken 22 = .ok (.aload_n 0, 1) := by decide +kernel
theorem dX6_wordOfToken_23 : decode cX6_wordOfToken 23 = .ok (.ldc 72, 2) := by decide +kernel
theorem dX6_wordOfToken_25 : decode cX6_wordOfToken 25 = .ok (.invokevirtual 66, 3) := by decide +kernel
theorem dX6_wordOfToken_28 : decode cX6_wordOfToken 28 = .ok (.ifCond .eq 5, 3) := by decide +kernel
theorem dX6_wordOfToken_31 : decode cX6_wordOfToken 31 = .ok (.iconst 2, 1) := by decide +kernel
theorem dX6_wordOfToken_32 : decode cX6_wordOfToken 32 = .ok (.ireturn, 1) := by decide +kernel
theorem dX6_wordOfToken_33 : decode cX6_wordOfToken 33 = .ok (.aload_n 0, 1) := by decide +kernel
theorem dX6_wordOfToken_34 : decode cX6_wordOfToken 34 = .ok (.ldc 74, 2) := by decide +kernel
theorem dX6_wordOfToken_36 : decode cX6_wordOfToken 36 = .ok (.invokevirtual 66, 3) := by decide +kernel
theorem dX6_wordOfToken_39 : decode cX6_wordOfToken 39 = .ok (.ifCond .eq 5, 3) := by decide +kernel
theorem dX6_wordOfToken_42 : decode cX6_wordOfToken 42 = .ok (.iconst 3, 1) := by decide +kernel
theorem dX6_wordOfToken_43 : decode cX6_wordOfToken 43 = .ok (.ireturn, 1) := by decide +kernel
theorem dX6_wordOfToken_44 : decode cX6_wordOfToken 44 = .ok (.aload_n 0, 1) := by decide +kernel
theorem dX6_wordOfToken_45 : decode cX6_wordOfToken 45 = .ok (.ldc 76, 2) := by decide +kernel
theorem dX6_wordOfToken_47 : decode cX6_wordOfToken 47 = .ok (.invokevirtual 66, 3) := by decide +kernel
theorem dX6_wordOfToken_50 : decode cX6_wordOfToken 50 = .ok (.ifCond .eq 5, 3) := by decide +kernel
theorem dX6_wordOfToken_53 : decode cX6_wordOfToken 53 = .ok (.iconst 4, 1) := by decide +kernel
theorem dX6_wordOfToken_54 : decode cX6_wordOfToken 54 = .ok (.ireturn, 1) := by decide +kernel
theorem dX6_wordOfToken_55 : decode cX6_wordOfToken 55 = .ok (.aload_n 0, 1) := by decide +kernel
theorem dX6_wordOfToken_56 : decode cX6_wordOfToken 56 = .ok (.ldc 78, 2) := by decide +kernel
theorem dX6_wordOfToken_58 : decode cX6_wordOfToken 58 = .ok (.invokevirtual 66, 3) := by decide +kernel
theorem dX6_wordOfToken_61 : decode cX6_wordOfToken 61 = .ok (.ifCond .eq 7, 3) := by decide +kernel
theorem dX6_wordOfToken_64 : decode cX6_wordOfToken 64 = .ok (.iconst 5, 1) := by decide +kernel
theorem dX6_wordOfToken_65 : decode cX6_wordOfToken 65 = .ok (.goto 4, 3) := by decide +kernel
theorem dX6_wordOfToken_68 : decode cX6_wordOfToken 68 = .ok (.iconst (-1), 1) := by decide +kernel
theorem dX6_wordOfToken_69 : decode cX6_wordOfToken 69 = .ok (.ireturn, 1) := by decide +kernel
theorem dX6_isToken_0 : decode cX6_isToken 0 = .ok (.aload_n 0, 1) := by decide +kernel
theorem dX6_isToken_1 : decode cX6_isToken 1 = .ok (.getfield 26, 3) := by decide +kernel
theorem dX6_isToken_4 : decode cX6_isToken 4 = .ok (.aload_n 0, 1) := by decide +kernel
theorem dX6_isToken_5 : decode cX6_isToken 5 = .ok (.getfield 23, 3) := by decide +kernel
theorem dX6_isToken_8 : decode cX6_isToken 8 = .ok (.isub, 1) := by decide +kernel
theorem dX6_isToken_9 : decode cX6_isToken 9 = .ok (.aload_n 1, 1) := by decide +kernel
theorem dX6_isToken_10 : decode cX6_isToken 10 = .ok (.invokevirtual 80, 3) := by decide +kernel
theorem dX6_isToken_13 : decode cX6_isToken 13 = .ok (.if_icmp .eq 5, 3) := by decide +kernel
theorem dX6_isToken_16 : decode cX6_isToken 16 = .ok (.iconst 0, 1) := by decide +kernel
theorem dX6_isToken_17 : decode cX6_isToken 17 = .ok (.ireturn, 1) := by decide +kernel
theorem dX6_isToken_18 : decode cX6_isToken 18 = .ok (.iconst 0, 1) := by decide +kernel
theorem dX6_isToken_19 : decode cX6_isToken 19 = .ok (.istore_n 2, 1) := by decide +kernel
theorem dX6_isToken_20 : decode cX6_isToken 20 = .ok (.iload_n 2, 1) := by decide +kernel
theorem dX6_isToken_21 : decode cX6_isToken 21 = .ok (.aload_n 1, 1) := by decide +kernel
theorem dX6_isToken_22 : decode cX6_isToken 22 = .ok (.invokevirtual 80, 3) := by decide +kernel
theorem dX6_isToken_25 : decode cX6_isToken 25 = .ok (.if_icmp .ge 30, 3) := by decide +kernel
theorem dX6_isToken_28 : decode cX6_isToken 28 = .ok (.aload_n 0, 1) := by decide +kernel
theorem dX6_isToken_29 : decode cX6_isToken 29 = .ok (.getfield 9, 3) := by decide +kernel
theorem dX6_isToken_32 : decode cX6_isToken 32 = .ok (.aload_n 0, 1) := by decide +kernel
theorem dX6_isToken_33 : decode cX6_isToken 33 = .ok (.getfield 23, 3) := by decide +kernel
theorem dX6_isToken_36 : decode cX6_isToken 36 = .ok (.iload_n 2, 1) := by decide +kernel
theorem dX6_isToken_37 : decode cX6_isToken 37 = .ok (.iadd, 1) := by decide +kernel
theorem dX6_isToken_38 : decode cX6_isToken 38 = .ok (.caload, 1) := by decide +kernel
theorem dX6_isToken_39 : decode cX6_isToken 39 = .ok (.aload_n 1, 1) := by decide +kernel
theorem dX6_isToken_40 : decode cX6_isToken 40 = .ok (.iload_n 2, 1) := by decide +kernel
theorem dX6_isToken_41 : decode cX6_isToken 41 = .ok (.invokevirtual 84, 3) := by decide +kernel
theorem dX6_isToken_44 : decode cX6_isToken 44 = .ok (.if_icmp .eq 5, 3) := by decide +kernel
theorem dX6_isToken_47 : decode cX6_isToken 47 = .ok (.iconst 0, 1) := by decide +kernel
theorem dX6_isToken_48 : decode cX6_isToken 48 = .ok (.ireturn, 1) := by decide +kernel
theorem dX6_isToken_49 : decode cX6_isToken 49 = .ok (.iinc 2 1, 3) := by decide +kernel
theorem dX6_isToken_52 : decode cX6_isToken 52 = .ok (.goto (-32), 3) := by decide +kernel
theorem dX6_isToken_55 : decode cX6_isToken 55 = .ok (.iconst 1, 1) := by decide +kernel
theorem dX6_isToken_56 : decode cX6_isToken 56 = .ok (.ireturn, 1) := by decide +kernel
theorem dX6_readNumber_0 : decode cX6_readNumber 0 = .ok (.aload_n 0, 1) := by decide +kernel
theorem dX6_readNumber_1 : decode cX6_readNumber 1 = .ok (.invokevirtual 42, 3) := by decide +kernel
theorem dX6_readNumber_4 : decode cX6_readNumber 4 = .ok (.aload_n 0, 1) := by decide +kernel
theorem dX6_readNumber_5 : decode cX6_readNumber 5 = .ok (.getfield 26, 3) := by decide +kernel
theorem dX6_readNumber_8 : decode cX6_readNumber 8 = .ok (.aload_n 0, 1) := by decide +kernel
theorem dX6_readNumber_9 : decode cX6_readNumber 9 = .ok (.getfield 23, 3) := by decide +kernel
theorem dX6_readNumber_12 : decode cX6_readNumber 12 = .ok (.isub, 1) := by decide +kernel
theorem dX6_readNumber_13 : decode cX6_readNumber 13 = .ok (.istore 4, 2) := by decide +kernel
theorem dX6_readNumber_15 : decode cX6_readNumber 15 = .ok (.iload 4, 2) := by decide +kernel
theorem dX6_readNumber_17 : decode cX6_readNumber 17 = .ok (.iconst 1, 1) := by decide +kernel
theorem dX6_readNumber_18 : decode cX6_readNumber 18 = .ok (.if_icmp .lt 24, 3) := by decide +kernel
theorem dX6_readNumber_21 : decode cX6_readNumber 21 = .ok (.iload 4, 2) := by decide +kernel
theorem dX6_readNumber_23 : decode cX6_readNumber 23 = .ok (.iconst 4, 1) := by decide +kernel
theorem dX6_readNumber_24 : decode cX6_readNumber 24 = .ok (.if_icmp .gt 18, 3) := by decide +kernel
theorem dX6_readNumber_27 : decode cX6_readNumber 27 = .ok (.aload_n 0, 1) := by decide +kernel
theorem dX6_readNumber_28 : decode cX6_readNumber 28 = .ok (.getfield 9, 3) := by decide +kernel
theorem dX6_readNumber_31 : decode cX6_readNumber 31 = .ok (.aload_n 0, 1) := by decide +kernel
theorem dX6_readNumber_32 : decode cX6_readNumber 32 = .ok (.getfield 23, 3) := by decide +kernel
theorem dX6_readNumber_35 : decode cX6_readNumber 35 = .ok (.caload, 1) := by decide +kernel
theorem dX6_readNumber_36 : decode cX6_readNumber 36 = .ok (.invokestatic 57, 3) := by decide +kernel
theorem dX6_readNumber_39 : decode cX6_readNumber 39 = .ok (.ifCond .ne 5, 3) := by decide +kernel
theorem dX6_readNumber_42 : decode cX6_readNumber 42 = .ok (.iconst 0, 1) := by decide +kernel
theorem dX6_readNumber_43 : decode cX6_readNumber 43 = .ok (.ireturn, 1) := by decide +kernel
theorem dX6_readNumber_44 : decode cX6_readNumber 44 = .ok (.iconst 0, 1) := by decide +kernel
theorem dX6_readNumber_45 : decode cX6_readNumber 45 = .ok (.istore 5, 2) := by decide +kernel
theorem dX6_readNumber_47 : decode cX6_readNumber 47 = .ok (.aload_n 0, 1) := by decide +kernel
theorem dX6_readNumber_48 : decode cX6_readNumber 48 = .ok (.getfield 23, 3) := by decide +kernel
theorem dX6_readNumber_51 : decode cX6_readNumber 51 = .ok (.istore 6, 2) := by decide +kernel
theorem dX6_readNumber_53 : decode cX6_readNumber 53 = .ok (.iload 6, 2) := by decide +kernel
theorem dX6_readNumber_55 : decode cX6_readNumber 55 = .ok (.aload_n 0, 1) := by decide +kernel
theorem dX6_readNumber_56 : decode cX6_readNumber 56 = .ok (.getfield 26, 3) := by decide +kernel
theorem dX6_readNumber_59 : decode cX6_readNumber 59 = .ok (.if_icmp .ge 27, 3) := by decide +kernel
theorem dX6_readNumber_62 : decode cX6_readNumber 62 = .ok (.iload 5, 2) := by decide +kernel
theorem dX6_readNumber_64 : decode cX6_readNumber 64 = .ok (.bipush 10, 2) := by decide +kernel
theorem dX6_readNumber_66 : decode cX6_readNumber 66 = .ok (.imul, 1) := by decide +kernel
theorem dX6_readNumber_67 : decode cX6_readNumber 67 = .ok (.aload_n 0, 1) := by decide +kernel
theorem dX6_readNumber_68 : decode cX6_readNumber 68 = .ok (.getfield 9, 3) := by decide +kernel
theorem dX6_readNumber_71 : decode cX6_readNumber 71 = .ok (.iload 6, 2) := by decide +kernel
theorem dX6_readNumber_73 : decode cX6_readNumber 73 = .ok (.caload, 1) := by decide +kernel
theorem dX6_readNumber_74 : decode cX6_readNumber 74 = .ok (.bipush 48, 2) := by decide +kernel
theorem dX6_readNumber_76 : decode cX6_readNumber 76 = .ok (.isub, 1) := by decide +kernel
theorem dX6_readNumber_77 : decode cX6_readNumber 77 = .ok (.iadd, 1) := by decide +kernel
theorem dX6_readNumber_78 : decode cX6_readNumber 78 = .ok (.istore 5, 2) := by decide +kernel
theorem dX6_readNumber_80 : decode cX6_readNumber 80 = .ok (.iinc 6 1, 3) := by decide +kernel
theorem dX6_readNumber_83 : decode cX6_readNumber 83 = .ok (.goto (-30), 3) := by decide +kernel
theorem dX6_readNumber_86 : decode cX6_readNumber 86 = .ok (.aload_n 0, 1) := by decide +kernel
theorem dX6_readNumber_87 : decode cX6_readNumber 87 = .ok (.getfield 15, 3) := by decide +kernel
theorem dX6_readNumber_90 : decode cX6_readNumber 90 = .ok (.iload_n 1, 1) := by decide +kernel
theorem dX6_readNumber_91 : decode cX6_readNumber 91 = .ok (.iload 5, 2) := by decide +kernel
theorem dX6_readNumber_93 : decode cX6_readNumber 93 = .ok (.iastore, 1) := by decide +kernel
theorem dX6_readNumber_94 : decode cX6_readNumber 94 = .ok (.iload 5, 2) := by decide +kernel
theorem dX6_readNumber_96 : decode cX6_readNumber 96 = .ok (.iload_n 2, 1) := by decide +kernel
theorem dX6_readNumber_97 : decode cX6_readNumber 97 = .ok (.iload_n 3, 1) := by decide +kernel
theorem dX6_readNumber_98 : decode cX6_readNumber 98 = .ok (.invokestatic 88, 3) := by decide +kernel
theorem dX6_readNumber_101 : decode cX6_readNumber 101 = .ok (.ifCond .ne 7, 3) := by decide +kernel
theorem dX6_readNumber_104 : decode cX6_readNumber 104 = .ok (.iconst 1, 1) := by decide +kernel
theorem dX6_readNumber_105 : decode cX6_readNumber 105 = .ok (.goto 4, 3) := by decide +kernel
theorem dX6_readNumber_108 : decode cX6_readNumber 108 = .ok (.iconst 0, 1) := by decide +kernel
theorem dX6_readNumber_109 : decode cX6_readNumber 109 = .ok (.ireturn, 1) := by decide +kernel
theorem dX7_init_0 : decode cX7_init 0 = .ok (.aload_n 0, 1) := by decide +kernel
theorem dX7_init_1 : decode cX7_init 1 = .ok (.invokespecial 3, 3) := by decide +kernel
theorem dX7_init_4 : decode cX7_init 4 = .ok (.aload_n 0, 1) := by decide +kernel
theorem dX7_init_5 : decode cX7_init 5 = .ok (.bipush 24, 2) := by decide +kernel
theorem dX7_init_7 : decode cX7_init 7 = .ok (.anewarray 9, 3) := by decide +kernel
theorem dX7_init_10 : decode cX7_init 10 = .ok (.putfield 11, 3) := by decide +kernel
theorem dX7_init_13 : decode cX7_init 13 = .ok (.aload_n 0, 1) := by decide +kernel
theorem dX7_init_14 : decode cX7_init 14 = .ok (.new 9, 3) := by decide +kernel
theorem dX7_init_17 : decode cX7_init 17 = .ok (.dup, 1) := by decide +kernel
theorem dX7_init_18 : decode cX7_init 18 = .ok (.invokespecial 17, 3) := by decide +kernel
theorem dX7_init_21 : decode cX7_init 21 = .ok (.putfield 18, 3) := by decide +kernel
theorem dX7_init_24 : decode cX7_init 24 = .ok (.aload_n 0, 1) := by decide +kernel
theorem dX7_init_25 : decode cX7_init 25 = .ok (.iconst 2, 1) := by decide +kernel
theorem dX7_init_26 : decode cX7_init 26 = .ok (.newarray .int, 2) := by decide +kernel
theorem dX7_init_28 : decode cX7_init 28 = .ok (.putfield 22, 3) := by decide +kernel
theorem dX7_init_31 : decode cX7_init 31 = .ok (.aload_n 0, 1) := by decide +kernel
theorem dX7_init_32 : decode cX7_init 32 = .ok (.iconst 0, 1) := by decide +kernel
theorem dX7_init_33 : decode cX7_init 33 = .ok (.putfield 26, 3) := by decide +kernel
theorem dX7_init_36 : decode cX7_init 36 = .ok (.aload_n 0, 1) := by decide +kernel
theorem dX7_init_37 : decode cX7_init 37 = .ok (.iconst 0, 1) := by decide +kernel
theorem dX7_init_38 : decode cX7_init 38 = .ok (.putfield 30, 3) := by decide +kernel
theorem dX7_init_41 : decode cX7_init 41 = .ok (.aload_n 0, 1) := by decide +kernel
theorem dX7_init_42 : decode cX7_init 42 = .ok (.iconst 0, 1) := by decide +kernel
theorem dX7_init_43 : decode cX7_init 43 = .ok (.putfield 33, 3) := by decide +kernel
theorem dX7_init_46 : decode cX7_init 46 = .ok (.iconst 0, 1) := by decide +kernel
theorem dX7_init_47 : decode cX7_init 47 = .ok (.istore_n 1, 1) := by decide +kernel
theorem dX7_init_48 : decode cX7_init 48 = .ok (.iload_n 1, 1) := by decide +kernel
theorem dX7_init_49 : decode cX7_init 49 = .ok (.bipush 24, 2) := by decide +kernel
theorem dX7_init_51 : decode cX7_init 51 = .ok (.if_icmp .ge 22, 3) := by decide +kernel
theorem dX7_init_54 : decode cX7_init 54 = .ok (.aload_n 0, 1) := by decide +kernel
theorem dX7_init_55 : decode cX7_init 55 = .ok (.getfield 11, 3) := by decide +kernel
theorem dX7_init_58 : decode cX7_init 58 = .ok (.iload_n 1, 1) := by decide +kernel
theorem dX7_init_59 : decode cX7_init 59 = .ok (.new 9, 3) := by decide +kernel
theorem dX7_init_62 : decode cX7_init 62 = .ok (.dup, 1) := by decide +kernel
theorem dX7_init_63 : decode cX7_init 63 = .ok (.invokespecial 17, 3) := by decide +kernel
theorem dX7_init_66 : decode cX7_init 66 = .ok (.aastore, 1) := by decide +kernel
theorem dX7_init_67 : decode cX7_init 67 = .ok (.iinc 1 1, 3) := by decide +kernel
theorem dX7_init_70 : decode cX7_init 70 = .ok (.goto (-22), 3) := by decide +kernel
theorem dX7_init_73 : decode cX7_init 73 = .ok (.iconst 0, 1) := by decide +kernel
theorem dX7_init_74 : decode cX7_init 74 = .ok (.istore_n 1, 1) := by decide +kernel
theorem dX7_init_75 : decode cX7_init 75 = .ok (.iload_n 1, 1) := by decide +kernel
theorem dX7_init_76 : decode cX7_init 76 = .ok (.iconst 2, 1) := by decide +kernel
theorem dX7_init_77 : decode cX7_init 77 = .ok (.if_icmp .ge 16, 3) := by decide +kernel
theorem dX7_init_80 : decode cX7_init 80 = .ok (.aload_n 0, 1) := by decide +kernel
theorem dX7_init_81 : decode cX7_init 81 = .ok (.getfield 22, 3) := by decide +kernel
theorem dX7_init_84 : decode cX7_init 84 = .ok (.iload_n 1, 1) := by decide +kernel
theorem dX7_init_85 : decode cX7_init 85 = .ok (.iconst 1, 1) := by decide +kernel
theorem dX7_init_86 : decode cX7_init 86 = .ok (.iastore, 1) := by decide +kernel
theorem dX7_init_87 : decode cX7_init 87 = .ok (.iinc 1 1, 3) := by decide +kernel
theorem dX7_init_90 : decode cX7_init 90 = .ok (.goto (-15), 3) := by decide +kernel
theorem dX7_init_93 : decode cX7_init 93 = .ok (.return_, 1) := by decide +kernel
theorem dX7_reset_0 : decode cX7_reset 0 = .ok (.aload_n 0, 1) := by decide +kernel
theorem dX7_reset_1 : decode cX7_reset 1 = .ok (.iconst 0, 1) := by decide +kernel
theorem dX7_reset_2 : decode cX7_reset 2 = .ok (.putfield 26, 3) := by decide +kernel
theorem dX7_reset_5 : decode cX7_reset 5 = .ok (.aload_n 0, 1) := by decide +kernel
theorem dX7_reset_6 : decode cX7_reset 6 = .ok (.iconst 0, 1) := by decide +kernel
theorem dX7_reset_7 : decode cX7_reset 7 = .ok (.putfield 30, 3) := by decide +kernel
theorem dX7_reset_10 : decode cX7_reset 10 = .ok (.aload_n 0, 1) := by decide +kernel
theorem dX7_reset_11 : decode cX7_reset 11 = .ok (.iconst 0, 1) := by decide +kernel
theorem dX7_reset_12 : decode cX7_reset 12 = .ok (.putfield 33, 3) := by decide +kernel
theorem dX7_reset_15 : decode cX7_reset 15 = .ok (.iconst 0, 1) := by decide +kernel
theorem dX7_reset_16 : decode cX7_reset 16 = .ok (.istore_n 1, 1) := by decide +kernel
theorem dX7_reset_17 : decode cX7_reset 17 = .ok (.iload_n 1, 1) := by decide +kernel
theorem dX7_reset_18 : decode cX7_reset 18 = .ok (.iconst 2, 1) := by decide +kernel
theorem dX7_reset_19 : decode cX7_reset 19 = .ok (.if_icmp .ge 16, 3) := by decide +kernel
theorem dX7_reset_22 : decode cX7_reset 22 = .ok (.aload_n 0, 1) := by decide +kernel
theorem dX7_reset_23 : decode cX7_reset 23 = .ok (.getfield 22, 3) := by decide +kernel
theorem dX7_reset_26 : decode cX7_reset 26 = .ok (.iload_n 1, 1) := by decide +kernel
theorem dX7_reset_27 : decode cX7_reset 27 = .ok (.iconst 1, 1) := by decide +kernel
theorem dX7_reset_28 : decode cX7_reset 28 = .ok (.iastore, 1) := by decide +kernel
theorem dX7_reset_29 : decode cX7_reset 29 = .ok (.iinc 1 1, 3) := by decide +kernel
theorem dX7_reset_32 : decode cX7_reset 32 = .ok (.goto (-15), 3) := by decide +kernel
theorem dX7_reset_35 : decode cX7_reset 35 = .ok (.return_, 1) := by decide +kernel
theorem dX7_placeFor_0 : decode cX7_placeFor 0 = .ok (.aload_n 0, 1) := by decide +kernel
theorem dX7_placeFor_1 : decode cX7_placeFor 1 = .ok (.getfield 26, 3) := by decide +kernel
theorem dX7_placeFor_4 : decode cX7_placeFor 4 = .ok (.bipush 24, 2) := by decide +kernel
theorem dX7_placeFor_6 : decode cX7_placeFor 6 = .ok (.if_icmp .lt 15, 3) := by decide +kernel
theorem dX7_placeFor_9 : decode cX7_placeFor 9 = .ok (.aload_n 0, 1) := by decide +kernel
theorem dX7_placeFor_10 : decode cX7_placeFor 10 = .ok (.dup, 1) := by decide +kernel
theorem dX7_placeFor_11 : decode cX7_placeFor 11 = .ok (.getfield 30, 3) := by decide +kernel
theorem dX7_placeFor_14 : decode cX7_placeFor 14 = .ok (.iconst 1, 1) := by decide +kernel
theorem dX7_placeFor_15 : decode cX7_placeFor 15 = .ok (.iadd, 1) := by decide +kernel
theorem dX7_placeFor_16 : decode cX7_placeFor 16 = .ok (.putfield 30, 3) := by decide +kernel
theorem dX7_placeFor_19 : decode cX7_placeFor 19 = .ok (.aconst_null, 1) := by decide +kernel
theorem dX7_placeFor_20 : decode cX7_placeFor 20 = .ok (.areturn, 1) := by decide +kernel
theorem dX7_placeFor_21 : decode cX7_placeFor 21 = .ok (.aload_n 0, 1) := by decide +kernel
theorem dX7_placeFor_22 : decode cX7_placeFor 22 = .ok (.getfield 11, 3) := by decide +kernel
theorem dX7_placeFor_25 : decode cX7_placeFor 25 = .ok (.aload_n 0, 1) := by decide +kernel
theorem dX7_placeFor_26 : decode cX7_placeFor 26 = .ok (.getfield 26, 3) := by decide +kernel
theorem dX7_placeFor_29 : decode cX7_placeFor 29 = .ok (.aaload, 1) := by decide +kernel
theorem dX7_placeFor_30 : decode cX7_placeFor 30 = .ok (.astore_n 2, 1) := by decide +kernel
theorem dX7_placeFor_31 : decode cX7_placeFor 31 = .ok (.aload_n 0, 1) := by decide +kernel
theorem dX7_placeFor_32 : decode cX7_placeFor 32 = .ok (.dup, 1) := by decide +kernel
theorem dX7_placeFor_33 : decode cX7_placeFor 33 = .ok (.getfield 26, 3) := by decide +kernel
theorem dX7_placeFor_36 : decode cX7_placeFor 36 = .ok (.iconst 1, 1) := by decide +kernel
theorem dX7_placeFor_37 : decode cX7_placeFor 37 = .ok (.iadd, 1) := by decide +kernel
theorem dX7_placeFor_38 : decode cX7_placeFor 38 = .ok (.putfield 26, 3) := by decide +kernel
theorem dX7_placeFor_41 : decode cX7_placeFor 41 = .ok (.aload_n 2, 1) := by decide +kernel
theorem dX7_placeFor_42 : decode cX7_placeFor 42 = .ok (.iload_n 1, 1) := by decide +kernel
theorem dX7_placeFor_43 : decode cX7_placeFor 43 = .ok (.putfield 36, 3) := by decide +kernel
theorem dX7_placeFor_46 : decode cX7_placeFor 46 = .ok (.aload_n 2, 1) := by decide +kernel
theorem dX7_placeFor_47 : decode cX7_placeFor 47 = .ok (.aload_n 0, 1) := by decide +kernel
theorem dX7_placeFor_48 : decode cX7_placeFor 48 = .ok (.getfield 33, 3) := by decide +kernel
theorem dX7_placeFor_51 : decode cX7_placeFor 51 = .ok (.aload_n 0, 1) := by decide +kernel
theorem dX7_placeFor_52 : decode cX7_placeFor 52 = .ok (.getfield 22, 3) := by decide +kernel
theorem dX7_placeFor_55 : decode cX7_placeFor 55 = .ok (.iload_n 1, 1) := by decide +kernel
theorem dX7_placeFor_56 : decode cX7_placeFor 56 = .ok (.invokestatic 39, 3) := by decide +kernel
theorem dX7_placeFor_59 : decode cX7_placeFor 59 = .ok (.iaload, 1) := by decide +kernel
theorem dX7_placeFor_60 : decode cX7_placeFor 60 = .ok (.iadd, 1) := by decide +kernel
theorem dX7_placeFor_61 : decode cX7_placeFor 61 = .ok (.putfield 43, 3) := by decide +kernel
theorem dX7_placeFor_64 : decode cX7_placeFor 64 = .ok (.aload_n 2, 1) := by decide +kernel
theorem dX7_placeFor_65 : decode cX7_placeFor 65 = .ok (.areturn, 1) := by decide +kernel
theorem dX7_repeat_0 : decode cX7_repeat 0 = .ok (.aload_n 0, 1) := by decide +kernel
theorem dX7_repeat_1 : decode cX7_repeat 1 = .ok (.aload_n 1, 1) := by decide +kernel
theorem dX7_repeat_2 : decode cX7_repeat 2 = .ok (.getfield 36, 3) := by decide +kernel
theorem dX7_repeat_5 : decode cX7_repeat 5 = .ok (.invokevirtual 46, 3) := by decide +kernel
theorem dX7_repeat_8 : decode cX7_repeat 8 = .ok (.astore_n 2, 1) := by decide +kernel
theorem dX7_repeat_9 : decode cX7_repeat 9 = .ok (.aload_n 2, 1) := by decide +kernel
theorem dX7_repeat_10 : decode cX7_repeat 10 = .ok (.ifnull 18, 3) := by decide +kernel
theorem dX7_repeat_13 : decode cX7_repeat 13 = .ok (.aload_n 2, 1) := by decide +kernel
theorem dX7_repeat_14 : decode cX7_repeat 14 = .ok (.getfield 43, 3) := by decide +kernel
theorem dX7_repeat_17 : decode cX7_repeat 17 = .ok (.istore_n 3, 1) := by decide +kernel
theorem dX7_repeat_18 : decode cX7_repeat 18 = .ok (.aload_n 2, 1) := by decide +kernel
theorem dX7_repeat_19 : decode cX7_repeat 19 = .ok (.aload_n 1, 1) := by decide +kernel
theorem dX7_repeat_20 : decode cX7_repeat 20 = .ok (.invokevirtual 50, 3) := by decide +kernel
theorem dX7_repeat_23 : decode cX7_repeat 23 = .ok (.aload_n 2, 1) := by decide +kernel
theorem dX7_repeat_24 : decode cX7_repeat 24 = .ok (.iload_n 3, 1) := by decide +kernel
theorem dX7_repeat_25 : decode cX7_repeat 25 = .ok (.putfield 43, 3) := by decide +kernel
theorem dX7_repeat_28 : decode cX7_repeat 28 = .ok (.return_, 1) := by decide +kernel
theorem dX7_firstPlace_0 : decode cX7_firstPlace 0 = .ok (.iconst (-1), 1) := by decide +kernel
theorem dX7_firstPlace_1 : decode cX7_firstPlace 1 = .ok (.istore_n 1, 1) := by decide +kernel
theorem dX7_firstPlace_2 : decode cX7_firstPlace 2 = .ok (.iconst 0, 1) := by decide +kernel
theorem dX7_firstPlace_3 : decode cX7_firstPlace 3 = .ok (.istore_n 2, 1) := by decide +kernel
theorem dX7_firstPlace_4 : decode cX7_firstPlace 4 = .ok (.iload_n 2, 1) := by decide +kernel
theorem dX7_firstPlace_5 : decode cX7_firstPlace 5 = .ok (.aload_n 0, 1) := by decide +kernel
theorem dX7_firstPlace_6 : decode cX7_firstPlace 6 = .ok (.getfield 26, 3) := by decide +kernel
theorem dX7_firstPlace_9 : decode cX7_firstPlace 9 = .ok (.if_icmp .ge 37, 3) := by decide +kernel
theorem dX7_firstPlace_12 : decode cX7_firstPlace 12 = .ok (.iload_n 1, 1) := by decide +kernel
theorem dX7_firstPlace_13 : decode cX7_firstPlace 13 = .ok (.iconst (-1), 1) := by decide +kernel
theorem dX7_firstPlace_14 : decode cX7_firstPlace 14 = .ok (.if_icmp .eq 24, 3) := by decide +kernel
theorem dX7_firstPlace_17 : decode cX7_firstPlace 17 = .ok (.aload_n 0, 1) := by decide +kernel
theorem dX7_firstPlace_18 : decode cX7_firstPlace 18 = .ok (.getfield 11, 3) := by decide +kernel
theorem dX7_firstPlace_21 : decode cX7_firstPlace 21 = .ok (.iload_n 2, 1) := by decide +kernel
theorem dX7_firstPlace_22 : decode cX7_firstPlace 22 = .ok (.aaload, 1) := by decide +kernel
theorem dX7_firstPlace_23 : decode cX7_firstPlace 23 = .ok (.getfield 43, 3) := by decide +kernel
theorem dX7_firstPlace_26 : decode cX7_firstPlace 26 = .ok (.aload_n 0, 1) := by decide +kernel
theorem dX7_firstPlace_27 : decode cX7_firstPlace 27 = .ok (.getfield 11, 3) := by decide +kernel
theorem dX7_firstPlace_30 : decode cX7_firstPlace 30 = .ok (.iload_n 1, 1) := by decide +kernel
theorem dX7_firstPlace_31 : decode cX7_firstPlace 31 = .ok (.aaload, 1) := by decide +kernel
theorem dX7_firstPlace_32 : decode cX7_firstPlace 32 = .ok (.getfield 43, 3) := by decide +kernel
theorem dX7_firstPlace_35 : decode cX7_firstPlace 35 = .ok (.if_icmp .ge 5, 3) := by decide +kernel
theorem dX7_firstPlace_38 : decode cX7_firstPlace 38 = .ok (.iload_n 2, 1) := by decide +kernel
theorem dX7_firstPlace_39 : decode cX7_firstPlace 39 = .ok (.istore_n 1, 1) := by decide +kernel
theorem dX7_firstPlace_40 : decode cX7_firstPlace 40 = .ok (.iinc 2 1, 3) := by decide +kernel
theorem dX7_firstPlace_43 : decode cX7_firstPlace 43 = .ok (.goto (-39), 3) := by decide +kernel
theorem dX7_firstPlace_46 : decode cX7_firstPlace 46 = .ok (.iload_n 1, 1) := by decide +kernel
theorem dX7_firstPlace_47 : decode cX7_firstPlace 47 = .ok (.ireturn, 1) := by decide +kernel
theorem dX7_pullFirst_0 : decode cX7_pullFirst 0 = .ok (.aload_n 0, 1) := by decide +kernel
theorem dX7_pullFirst_1 : decode cX7_pullFirst 1 = .ok (.invokevirtual 54, 3) := by decide +kernel
theorem dX7_pullFirst_4 : decode cX7_pullFirst 4 = .ok (.istore_n 1, 1) := by decide +kernel
theorem dX7_pullFirst_5 : decode cX7_pullFirst 5 = .ok (.iload_n 1, 1) := by decide +kernel
theorem dX7_pullFirst_6 : decode cX7_pullFirst 6 = .ok (.iconst (-1), 1) := by decide +kernel
theorem dX7_pullFirst_7 : decode cX7_pullFirst 7 = .ok (.if_icmp .ne 5, 3) := by decide +kernel
theorem dX7_pullFirst_10 : decode cX7_pullFirst 10 = .ok (.aconst_null, 1) := by decide +kernel
theorem dX7_pullFirst_11 : decode cX7_pullFirst 11 = .ok (.areturn, 1) := by decide +kernel
theorem dX7_pullFirst_12 : decode cX7_pullFirst 12 = .ok (.aload_n 0, 1) := by decide +kernel
theorem dX7_pullFirst_13 : decode cX7_pullFirst 13 = .ok (.getfield 18, 3) := by decide +kernel
theorem dX7_pullFirst_16 : decode cX7_pullFirst 16 = .ok (.aload_n 0, 1) := by decide +kernel
theorem dX7_pullFirst_17 : decode cX7_pullFirst 17 = .ok (.getfield 11, 3) := by decide +kernel
theorem dX7_pullFirst_20 : decode cX7_pullFirst 20 = .ok (.iload_n 1, 1) := by decide +kernel
theorem dX7_pullFirst_21 : decode cX7_pullFirst 21 = .ok (.aaload, 1) := by decide +kernel
theorem dX7_pullFirst_22 : decode cX7_pullFirst 22 = .ok (.invokevirtual 50, 3) := by decide +kernel
theorem dX7_pullFirst_25 : decode cX7_pullFirst 25 = .ok (.aload_n 0, 1) := by decide +kernel
theorem dX7_pullFirst_26 : decode cX7_pullFirst 26 = .ok (.iload_n 1, 1) := by decide +kernel
theorem dX7_pullFirst_27 : decode cX7_pullFirst 27 = .ok (.invokevirtual 58, 3) := by decide +kernel
theorem dX7_pullFirst_30 : decode cX7_pullFirst 30 = .ok (.aload_n 0, 1) := by decide +kernel
theorem dX7_pullFirst_31 : decode cX7_pullFirst 31 = .ok (.getfield 18, 3) := by decide +kernel
theorem dX7_pullFirst_34 : decode cX7_pullFirst 34 = .ok (.areturn, 1) := by decide +kernel
theorem dX7_clearLine_0 : decode cX7_clearLine 0 = .ok (.aload_n 0, 1) := by decide +kernel
theorem dX7_clearLine_1 : decode cX7_clearLine 1 = .ok (.getfield 26, 3) := by decide +kernel
theorem dX7_clearLine_4 : decode cX7_clearLine 4 = .ok (.iconst 1, 1) := by decide +kernel
theorem dX7_clearLine_5 : decode cX7_clearLine 5 = .ok (.isub, 1) := by decide +kernel
theorem dX7_clearLine_6 : decode cX7_clearLine 6 = .ok (.istore_n 2, 1) := by decide +kernel
theorem dX7_clearLine_7 : decode cX7_clearLine 7 = .ok (.iload_n 2, 1) := by decide +kernel
theorem dX7_clearLine_8 : decode cX7_clearLine 8 = .ok (.ifCond .lt 30, 3) := by decide +kernel
theorem dX7_clearLine_11 : decode cX7_clearLine 11 = .ok (.aload_n 0, 1) := by decide +kernel
theorem dX7_clearLine_12 : decode cX7_clearLine 12 = .ok (.getfield 11, 3) := by decide +kernel
theorem dX7_clearLine_15 : decode cX7_clearLine 15 = .ok (.iload_n 2, 1) := by decide +kernel
theorem dX7_clearLine_16 : decode cX7_clearLine 16 = .ok (.aaload, 1) := by decide +kernel
theorem dX7_clearLine_17 : decode cX7_clearLine 17 = .ok (.getfield 36, 3) := by decide +kernel
theorem dX7_clearLine_20 : decode cX7_clearLine 20 = .ok (.invokestatic 39, 3) := by decide +kernel
theorem dX7_clearLine_23 : decode cX7_clearLine 23 = .ok (.iload_n 1, 1) := by decide +kernel
theorem dX7_clearLine_24 : decode cX7_clearLine 24 = .ok (.if_icmp .ne 8, 3) := by decide +kernel
theorem dX7_clearLine_27 : decode cX7_clearLine 27 = .ok (.aload_n 0, 1) := by decide +kernel
theorem dX7_clearLine_28 : decode cX7_clearLine 28 = .ok (.iload_n 2, 1) := by decide +kernel
theorem dX7_clearLine_29 : decode cX7_clearLine 29 = .ok (.invokevirtual 58, 3) := by decide +kernel
theorem dX7_clearLine_32 : decode cX7_clearLine 32 = .ok (.iinc 2 (-1), 3) := by decide +kernel
theorem dX7_clearLine_35 : decode cX7_clearLine 35 = .ok (.goto (-28), 3) := by decide +kernel
theorem dX7_clearLine_38 : decode cX7_clearLine 38 = .ok (.return_, 1) := by decide +kernel
theorem dX7_removeAt_0 : decode cX7_removeAt 0 = .ok (.aload_n 0, 1) := by decide +kernel
theorem dX7_removeAt_1 : decode cX7_removeAt 1 = .ok (.getfield 11, 3) := by decide +kernel
theorem dX7_removeAt_4 : decode cX7_removeAt 4 = .ok (.iload_n 1, 1) := by decide +kernel
theorem dX7_removeAt_5 : decode cX7_removeAt 5 = .ok (.aaload, 1) := by decide +kernel
theorem dX7_removeAt_6 : decode cX7_removeAt 6 = .ok (.astore_n 2, 1) := by decide +kernel
theorem dX7_removeAt_7 : decode cX7_removeAt 7 = .ok (.iload_n 1, 1) := by decide +kernel
theorem dX7_removeAt_8 : decode cX7_removeAt 8 = .ok (.istore_n 3, 1) := by decide +kernel
theorem dX7_removeAt_9 : decode cX7_removeAt 9 = .ok (.iload_n 3, 1) := by decide +kernel
theorem dX7_removeAt_10 : decode cX7_removeAt 10 = .ok (.aload_n 0, 1) := by decide +kernel
theorem dX7_removeAt_11 : decode cX7_removeAt 11 = .ok (.getfield 26, 3) := by decide +kernel
theorem dX7_removeAt_14 : decode cX7_removeAt 14 = .ok (.iconst 1, 1) := by decide +kernel
theorem dX7_removeAt_15 : decode cX7_removeAt 15 = .ok (.isub, 1) := by decide +kernel
theorem dX7_removeAt_16 : decode cX7_removeAt 16 = .ok (.if_icmp .ge 23, 3) := by decide +kernel
theorem dX7_removeAt_19 : decode cX7_removeAt 19 = .ok (.aload_n 0, 1) := by decide +kernel
theorem dX7_removeAt_20 : decode cX7_removeAt 20 = .ok (.getfield 11, 3) := by decide +kernel
theorem dX7_removeAt_23 : decode cX7_removeAt 23 = .ok (.iload_n 3, 1) := by decide +kernel
theorem dX7_removeAt_24 : decode cX7_removeAt 24 = .ok (.aload_n 0, 1) := by decide +kernel
theorem dX7_removeAt_25 : decode cX7_removeAt 25 = .ok (.getfield 11, 3) := by decide +kernel
theorem dX7_removeAt_28 : decode cX7_removeAt 28 = .ok (.iload_n 3, 1) := by decide +kernel
theorem dX7_removeAt_29 : decode cX7_removeAt 29 = .ok (.iconst 1, 1) := by decide +kernel
theorem dX7_removeAt_30 : decode cX7_removeAt 30 = .ok (.iadd, 1) := by decide +kernel
theorem dX7_removeAt_31 : decode cX7_removeAt 31 = .ok (.aaload, 1) := by decide +kernel
theorem dX7_removeAt_32 : decode cX7_removeAt 32 = .ok (.aastore, 1) := by decide +kernel
theorem dX7_removeAt_33 : decode cX7_removeAt 33 = .ok (.iinc 3 1, 3) := by decide +kernel
theorem dX7_removeAt_36 : decode cX7_removeAt 36 = .ok (.goto (-27), 3) := by decide +kernel
theorem dX7_removeAt_39 : decode cX7_removeAt 39 = .ok (.aload_n 0, 1) := by decide +kernel
theorem dX7_removeAt_40 : decode cX7_removeAt 40 = .ok (.dup, 1) := by decide +kernel
theorem dX7_removeAt_41 : decode cX7_removeAt 41 = .ok (.getfield 26, 3) := by decide +kernel
theorem dX7_removeAt_44 : decode cX7_removeAt 44 = .ok (.iconst 1, 1) := by decide +kernel
theorem dX7_removeAt_45 : decode cX7_removeAt 45 = .ok (.isub, 1) := by decide +kernel
theorem dX7_removeAt_46 : decode cX7_removeAt 46 = .ok (.putfield 26, 3) := by decide +kernel
theorem dX7_removeAt_49 : decode cX7_removeAt 49 = .ok (.aload_n 0, 1) := by decide +kernel
theorem dX7_removeAt_50 : decode cX7_removeAt 50 = .ok (.getfield 11, 3) := by decide +kernel
theorem dX7_removeAt_53 : decode cX7_removeAt 53 = .ok (.aload_n 0, 1) := by decide +kernel
theorem dX7_removeAt_54 : decode cX7_removeAt 54 = .ok (.getfield 26, 3) := by decide +kernel
theorem dX7_removeAt_57 : decode cX7_removeAt 57 = .ok (.aload_n 2, 1) := by decide +kernel
theorem dX7_removeAt_58 : decode cX7_removeAt 58 = .ok (.aastore, 1) := by decide +kernel
theorem dX7_removeAt_59 : decode cX7_removeAt 59 = .ok (.return_, 1) := by decide +kernel
theorem dX7_passTimeTo_0 : decode cX7_passTimeTo 0 = .ok (.iload_n 1, 1) := by decide +kernel
theorem dX7_passTimeTo_1 : decode cX7_passTimeTo 1 = .ok (.aload_n 0, 1) := by decide +kernel
theorem dX7_passTimeTo_2 : decode cX7_passTimeTo 2 = .ok (.getfield 33, 3) := by decide +kernel
theorem dX7_passTimeTo_5 : decode cX7_passTimeTo 5 = .ok (.if_icmp .le 8, 3) := by decide +kernel
theorem dX7_passTimeTo_8 : decode cX7_passTimeTo 8 = .ok (.aload_n 0, 1) := by decide +kernel
theorem dX7_passTimeTo_9 : decode cX7_passTimeTo 9 = .ok (.iload_n 1, 1) := by decide +kernel
theorem dX7_passTimeTo_10 : decode cX7_passTimeTo 10 = .ok (.putfield 33, 3) := by decide +kernel
theorem dX7_passTimeTo_13 : decode cX7_passTimeTo 13 = .ok (.return_, 1) := by decide +kernel
theorem dX8_init_0 : decode cX8_init 0 = .ok (.aload_n 0, 1) := by decide +kernel
theorem dX8_init_1 : decode cX8_init 1 = .ok (.invokespecial 1, 3) := by decide +kernel
theorem dX8_init_4 : decode cX8_init 4 = .ok (.aload_n 0, 1) := by decide +kernel
theorem dX8_init_5 : decode cX8_init 5 = .ok (.iconst 0, 1) := by decide +kernel
theorem dX8_init_6 : decode cX8_init 6 = .ok (.putfield 7, 3) := by decide +kernel
theorem dX8_init_9 : decode cX8_init 9 = .ok (.aload_n 0, 1) := by decide +kernel
theorem dX8_init_10 : decode cX8_init 10 = .ok (.iconst 0, 1) := by decide +kernel
theorem dX8_init_11 : decode cX8_init 11 = .ok (.putfield 13, 3) := by decide +kernel
theorem dX8_init_14 : decode cX8_init 14 = .ok (.aload_n 0, 1) := by decide +kernel
theorem dX8_init_15 : decode cX8_init 15 = .ok (.iconst 0, 1) := by decide +kernel
theorem dX8_init_16 : decode cX8_init 16 = .ok (.putfield 16, 3) := by decide +kernel
theorem dX8_init_19 : decode cX8_init 19 = .ok (.aload_n 0, 1) := by decide +kernel
theorem dX8_init_20 : decode cX8_init 20 = .ok (.iconst 0, 1) := by decide +kernel
theorem dX8_init_21 : decode cX8_init 21 = .ok (.putfield 19, 3) := by decide +kernel
theorem dX8_init_24 : decode cX8_init 24 = .ok (.aload_n 0, 1) := by decide +kernel
theorem dX8_init_25 : decode cX8_init 25 = .ok (.iconst 0, 1) := by decide +kernel
theorem dX8_init_26 : decode cX8_init 26 = .ok (.putfield 22, 3) := by decide +kernel
theorem dX8_init_29 : decode cX8_init 29 = .ok (.aload_n 0, 1) := by decide +kernel
theorem dX8_init_30 : decode cX8_init 30 = .ok (.iconst 0, 1) := by decide +kernel
theorem dX8_init_31 : decode cX8_init 31 = .ok (.putfield 25, 3) := by decide +kernel
theorem dX8_init_34 : decode cX8_init 34 = .ok (.aload_n 0, 1) := by decide +kernel
theorem dX8_init_35 : decode cX8_init 35 = .ok (.iconst 0, 1) := by decide +kernel
theorem dX8_init_36 : decode cX8_init 36 = .ok (.putfield 28, 3) := by decide +kernel
theorem dX8_init_39 : decode cX8_init 39 = .ok (.return_, 1) := by decide +kernel
theorem dX9_init_0 : decode cX9_init 0 = .ok (.aload_n 0, 1) := by decide +kernel
theorem dX9_init_1 : decode cX9_init 1 = .ok (.invokespecial 1, 3) := by decide +kernel
theorem dX9_init_4 : decode cX9_init 4 = .ok (.aload_n 0, 1) := by decide +kernel
theorem dX9_init_5 : decode cX9_init 5 = .ok (.iconst 2, 1) := by decide +kernel
theorem dX9_init_6 : decode cX9_init 6 = .ok (.anewarray 9, 3) := by decide +kernel
theorem dX9_init_9 : decode cX9_init 9 = .ok (.putfield 11, 3) := by decide +kernel
theorem dX9_init_12 : decode cX9_init 12 = .ok (.aload_n 0, 1) := by decide +kernel
theorem dX9_init_13 : decode cX9_init 13 = .ok (.iconst 4, 1) := by decide +kernel
theorem dX9_init_14 : decode cX9_init 14 = .ok (.anewarray 15, 3) := by decide +kernel
theorem dX9_init_17 : decode cX9_init 17 = .ok (.putfield 17, 3) := by decide +kernel
theorem dX9_init_20 : decode cX9_init 20 = .ok (.aload_n 0, 1) := by decide +kernel
theorem dX9_init_21 : decode cX9_init 21 = .ok (.new 21, 3) := by decide +kernel
theorem dX9_init_24 : decode cX9_init 24 = .ok (.dup, 1) := by decide +kernel
theorem dX9_init_25 : decode cX9_init 25 = .ok (.invokespecial 23, 3) := by decide +kernel
theorem dX9_init_28 : decode cX9_init 28 = .ok (.putfield 24, 3) := by decide +kernel
theorem dX9_init_31 : decode cX9_init 31 = .ok (.aload_n 0, 1) := by decide +kernel
theorem dX9_init_32 : decode cX9_init 32 = .ok (.new 28, 3) := by decide +kernel
theorem dX9_init_35 : decode cX9_init 35 = .ok (.dup, 1) := by decide +kernel
theorem dX9_init_36 : decode cX9_init 36 = .ok (.invokespecial 30, 3) := by decide +kernel
theorem dX9_init_39 : decode cX9_init 39 = .ok (.putfield 31, 3) := by decide +kernel
theorem dX9_init_42 : decode cX9_init 42 = .ok (.aload_n 0, 1) := by decide +kernel
theorem dX9_init_43 : decode cX9_init 43 = .ok (.aconst_null, 1) := by decide +kernel
theorem dX9_init_44 : decode cX9_init 44 = .ok (.putfield 35, 3) := by decide +kernel
theorem dX9_init_47 : decode cX9_init 47 = .ok (.aload_n 0, 1) := by decide +kernel
theorem dX9_init_48 : decode cX9_init 48 = .ok (.iconst 0, 1) := by decide +kernel
theorem dX9_init_49 : decode cX9_init 49 = .ok (.putfield 39, 3) := by decide +kernel
theorem dX9_init_52 : decode cX9_init 52 = .ok (.iconst 0, 1) := by decide +kernel
theorem dX9_init_53 : decode cX9_init 53 = .ok (.istore_n 1, 1) := by decide +kernel
theorem dX9_init_54 : decode cX9_init 54 = .ok (.iload_n 1, 1) := by decide +kernel
theorem dX9_init_55 : decode cX9_init 55 = .ok (.iconst 2, 1) := by decide +kernel
theorem dX9_init_56 : decode cX9_init 56 = .ok (.if_icmp .ge 22, 3) := by decide +kernel
theorem dX9_init_59 : decode cX9_init 59 = .ok (.aload_n 0, 1) := by decide +kernel
theorem dX9_init_60 : decode cX9_init 60 = .ok (.getfield 11, 3) := by decide +kernel
theorem dX9_init_63 : decode cX9_init 63 = .ok (.iload_n 1, 1) := by decide +kernel
theorem dX9_init_64 : decode cX9_init 64 = .ok (.new 9, 3) := by decide +kernel
theorem dX9_init_67 : decode cX9_init 67 = .ok (.dup, 1) := by decide +kernel
theorem dX9_init_68 : decode cX9_init 68 = .ok (.invokespecial 43, 3) := by decide +kernel
theorem dX9_init_71 : decode cX9_init 71 = .ok (.aastore, 1) := by decide +kernel
theorem dX9_init_72 : decode cX9_init 72 = .ok (.iinc 1 1, 3) := by decide +kernel
theorem dX9_init_75 : decode cX9_init 75 = .ok (.goto (-21), 3) := by decide +kernel
theorem dX9_init_78 : decode cX9_init 78 = .ok (.iconst 0, 1) := by decide +kernel
theorem dX9_init_79 : decode cX9_init 79 = .ok (.istore_n 1, 1) := by decide +kernel
theorem dX9_init_80 : decode cX9_init 80 = .ok (.iload_n 1, 1) := by decide +kernel
theorem dX9_init_81 : decode cX9_init 81 = .ok (.iconst 4, 1) := by decide +kernel
theorem dX9_init_82 : decode cX9_init 82 = .ok (.if_icmp .ge 35, 3) := by decide +kernel
theorem dX9_init_85 : decode cX9_init 85 = .ok (.aload_n 0, 1) := by decide +kernel
theorem dX9_init_86 : decode cX9_init 86 = .ok (.getfield 17, 3) := by decide +kernel
theorem dX9_init_89 : decode cX9_init 89 = .ok (.iload_n 1, 1) := by decide +kernel
theorem dX9_init_90 : decode cX9_init 90 = .ok (.new 15, 3) := by decide +kernel
theorem dX9_init_93 : decode cX9_init 93 = .ok (.dup, 1) := by decide +kernel
theorem dX9_init_94 : decode cX9_init 94 = .ok (.iload_n 1, 1) := by decide +kernel
theorem dX9_init_95 : decode cX9_init 95 = .ok (.aload_n 0, 1) := by decide +kernel
theorem dX9_init_96 : decode cX9_init 96 = .ok (.getfield 11, 3) := by decide +kernel
theorem dX9_init_99 : decode cX9_init 99 = .ok (.iload_n 1, 1) := by decide +kernel
theorem dX9_init_100 : decode cX9_init 100 = .ok (.iconst 2, 1) := by decide +kernel
theorem dX9_init_101 : decode cX9_init 101 = .ok (.irem, 1) := by decide +kernel
theorem dX9_init_102 : decode cX9_init 102 = .ok (.aaload, 1) := by decide +kernel
theorem dX9_init_103 : decode cX9_init 103 = .ok (.aload_n 0, 1) := by decide +kernel
theorem dX9_init_104 : decode cX9_init 104 = .ok (.getfield 24, 3) := by decide +kernel
theorem dX9_init_107 : decode cX9_init 107 = .ok (.invokespecial 44, 3) := by decide +kernel
theorem dX9_init_110 : decode cX9_init 110 = .ok (.aastore, 1) := by decide +kernel
theorem dX9_init_111 : decode cX9_init 111 = .ok (.iinc 1 1, 3) := by decide +kernel
theorem dX9_init_114 : decode cX9_init 114 = .ok (.goto (-34), 3) := by decide +kernel
theorem dX9_init_117 : decode cX9_init 117 = .ok (.return_, 1) := by decide +kernel
theorem dX9_write_0 : decode cX9_write 0 = .ok (.iload_n 1, 1) := by decide +kernel
theorem dX9_write_1 : decode cX9_write 1 = .ok (.iconst 0, 1) := by decide +kernel
theorem dX9_write_2 : decode cX9_write 2 = .ok (.sipush 255, 3) := by decide +kernel
theorem dX9_write_5 : decode cX9_write 5 = .ok (.invokestatic 47, 3) := by decide +kernel
theorem dX9_write_8 : decode cX9_write 8 = .ok (.ifCond .eq 7, 3) := by decide +kernel
theorem dX9_write_11 : decode cX9_write 11 = .ok (.sipush (-1002), 3) := by decide +kernel
theorem dX9_write_14 : decode cX9_write 14 = .ok (.ireturn, 1) := by decide +kernel
theorem dX9_write_15 : decode cX9_write 15 = .ok (.aload_n 0, 1) := by decide +kernel
theorem dX9_write_16 : decode cX9_write 16 = .ok (.getfield 31, 3) := by decide +kernel
theorem dX9_write_19 : decode cX9_write 19 = .ok (.getfield 51, 3) := by decide +kernel
theorem dX9_write_22 : decode cX9_write 22 = .ok (.sipush 200, 3) := by decide +kernel
theorem dX9_write_25 : decode cX9_write 25 = .ok (.if_icmp .lt 7, 3) := by decide +kernel
theorem dX9_write_28 : decode cX9_write 28 = .ok (.sipush (-1004), 3) := by decide +kernel
theorem dX9_write_31 : decode cX9_write 31 = .ok (.ireturn, 1) := by decide +kernel
theorem dX9_write_32 : decode cX9_write 32 = .ok (.aload_n 0, 1) := by decide +kernel
theorem dX9_write_33 : decode cX9_write 33 = .ok (.getfield 31, 3) := by decide +kernel
theorem dX9_write_36 : decode cX9_write 36 = .ok (.iload_n 1, 1) := by decide +kernel
theorem dX9_write_37 : decode cX9_write 37 = .ok (.i2c, 1) := by decide +kernel
theorem dX9_write_38 : decode cX9_write 38 = .ok (.invokevirtual 54, 3) := by decide +kernel
theorem dX9_write_41 : decode cX9_write 41 = .ok (.aload_n 0, 1) := by decide +kernel
theorem dX9_write_42 : decode cX9_write 42 = .ok (.getfield 31, 3) := by decide +kernel
theorem dX9_write_45 : decode cX9_write 45 = .ok (.getfield 51, 3) := by decide +kernel
theorem dX9_write_48 : decode cX9_write 48 = .ok (.ireturn, 1) := by decide +kernel
theorem dX9_erase_0 : decode cX9_erase 0 = .ok (.aload_n 0, 1) := by decide +kernel
theorem dX9_erase_1 : decode cX9_erase 1 = .ok (.getfield 31, 3) := by decide +kernel
theorem dX9_erase_4 : decode cX9_erase 4 = .ok (.getfield 51, 3) := by decide +kernel
theorem dX9_erase_7 : decode cX9_erase 7 = .ok (.istore_n 1, 1) := by decide +kernel
theorem dX9_erase_8 : decode cX9_erase 8 = .ok (.aload_n 0, 1) := by decide +kernel
theorem dX9_erase_9 : decode cX9_erase 9 = .ok (.getfield 31, 3) := by decide +kernel
theorem dX9_erase_12 : decode cX9_erase 12 = .ok (.iconst 0, 1) := by decide +kernel
theorem dX9_erase_13 : decode cX9_erase 13 = .ok (.putfield 51, 3) := by decide +kernel
theorem dX9_erase_16 : decode cX9_erase 16 = .ok (.iload_n 1, 1) := by decide +kernel
theorem dX9_erase_17 : decode cX9_erase 17 = .ok (.ireturn, 1) := by decide +kernel
theorem dX9_fault_0 : decode cX9_fault 0 = .ok (.aload_n 0, 1) := by decide +kernel
theorem dX9_fault_1 : decode cX9_fault 1 = .ok (.getfield 31, 3) := by decide +kernel
theorem dX9_fault_4 : decode cX9_fault 4 = .ok (.invokevirtual 58, 3) := by decide +kernel
theorem dX9_fault_7 : decode cX9_fault 7 = .ok (.ireturn, 1) := by decide +kernel
theorem dX9_tell_0 : decode cX9_tell 0 = .ok (.aload_n 0, 1) := by decide +kernel
theorem dX9_tell_1 : decode cX9_tell 1 = .ok (.getfield 31, 3) := by decide +kernel
theorem dX9_tell_4 : decode cX9_tell 4 = .ok (.invokevirtual 58, 3) := by decide +kernel
theorem dX9_tell_7 : decode cX9_tell 7 = .ok (.iconst (-1), 1) := by decide +kernel
theorem dX9_tell_8 : decode cX9_tell 8 = .ok (.if_icmp .eq 7, 3) := by decide +kernel
theorem dX9_tell_11 : decode cX9_tell 11 = .ok (.sipush (-1003), 3) := by decide +kernel
theorem dX9_tell_14 : decode cX9_tell 14 = .ok (.ireturn, 1) := by decide +kernel
theorem dX9_tell_15 : decode cX9_tell 15 = .ok (.aload_n 0, 1) := by decide +kernel
theorem dX9_tell_16 : decode cX9_tell 16 = .ok (.getfield 31, 3) := by decide +kernel
theorem dX9_tell_19 : decode cX9_tell 19 = .ok (.getfield 62, 3) := by decide +kernel
theorem dX9_tell_22 : decode cX9_tell 22 = .ok (.istore_n 1, 1) := by decide +kernel
theorem dX9_tell_23 : decode cX9_tell 23 = .ok (.aload_n 0, 1) := by decide +kernel
theorem dX9_tell_24 : decode cX9_tell 24 = .ok (.getfield 31, 3) := by decide +kernel
theorem dX9_tell_27 : decode cX9_tell 27 = .ok (.invokevirtual 65, 3) := by decide +kernel
theorem dX9_tell_30 : decode cX9_tell 30 = .ok (.iconst 0, 1) := by decide +kernel
theorem dX9_tell_31 : decode cX9_tell 31 = .ok (.istore_n 2, 1) := by decide +kernel
theorem dX9_tell_32 : decode cX9_tell 32 = .ok (.iload_n 2, 1) := by decide +kernel
theorem dX9_tell_33 : decode cX9_tell 33 = .ok (.iload_n 1, 1) := by decide +kernel
theorem dX9_tell_34 : decode cX9_tell 34 = .ok (.if_icmp .ge 44, 3) := by decide +kernel
theorem dX9_tell_37 : decode cX9_tell 37 = .ok (.aload_n 0, 1) := by decide +kernel
theorem dX9_tell_38 : decode cX9_tell 38 = .ok (.getfield 31, 3) := by decide +kernel
theorem dX9_tell_41 : decode cX9_tell 41 = .ok (.invokevirtual 68, 3) := by decide +kernel
theorem dX9_tell_44 : decode cX9_tell 44 = .ok (.ifCond .eq 21, 3) := by decide +kernel
theorem dX9_tell_47 : decode cX9_tell 47 = .ok (.aload_n 0, 1) := by decide +kernel
theorem dX9_tell_48 : decode cX9_tell 48 = .ok (.aload_n 0, 1) := by decide +kernel
theorem dX9_tell_49 : decode cX9_tell 49 = .ok (.getfield 31, 3) := by decide +kernel
theorem dX9_tell_52 : decode cX9_tell 52 = .ok (.getfield 72, 3) := by decide +kernel
theorem dX9_tell_55 : decode cX9_tell 55 = .ok (.aload_n 0, 1) := by decide +kernel
theorem dX9_tell_56 : decode cX9_tell 56 = .ok (.getfield 31, 3) := by decide +kernel
theorem dX9_tell_59 : decode cX9_tell 59 = .ok (.getfield 75, 3) := by decide +kernel
theorem dX9_tell_62 : decode cX9_tell 62 = .ok (.invokevirtual 79, 3) := by decide +kernel
theorem dX9_tell_65 : decode cX9_tell 65 = .ok (.aload_n 0, 1) := by decide +kernel
theorem dX9_tell_66 : decode cX9_tell 66 = .ok (.getfield 31, 3) := by decide +kernel
theorem dX9_tell_69 : decode cX9_tell 69 = .ok (.invokevirtual 83, 3) := by decide +kernel
theorem dX9_tell_72 : decode cX9_tell 72 = .ok (.iinc 2 1, 3) := by decide +kernel
theorem dX9_tell_75 : decode cX9_tell 75 = .ok (.goto (-43), 3) := by decide +kernel
theorem dX9_tell_78 : decode cX9_tell 78 = .ok (.aload_n 0, 1) := by decide +kernel
theorem dX9_tell_79 : decode cX9_tell 79 = .ok (.getfield 31, 3) := by decide +kernel
theorem dX9_tell_82 : decode cX9_tell 82 = .ok (.iconst 0, 1) := by decide +kernel
theorem dX9_tell_83 : decode cX9_tell 83 = .ok (.putfield 51, 3) := by decide +kernel
theorem dX9_tell_86 : decode cX9_tell 86 = .ok (.iload_n 1, 1) := by decide +kernel
theorem dX9_tell_87 : decode cX9_tell 87 = .ok (.ireturn, 1) := by decide +kernel
theorem dX9_doClause_0 : decode cX9_doClause 0 = .ok (.iload_n 1, 1) := by decide +kernel
theorem dX9_doClause_1 : decode cX9_doClause 1 = .ok (.tableswitch 150 0 5 #[39, 46, 72, 93, 110, 130], 39) := by decide +kernel
theorem dX9_doClause_40 : decode cX9_doClause 40 = .ok (.aload_n 0, 1) := by decide +kernel
theorem dX9_doClause_41 : decode cX9_doClause 41 = .ok (.invokevirtual 86, 3) := by decide +kernel
theorem dX9_doClause_44 : decode cX9_doClause 44 = .ok (.goto 107, 3) := by decide +kernel
theorem dX9_doClause_47 : decode cX9_doClause 47 = .ok (.aload_n 0, 1) := by decide +kernel
theorem dX9_doClause_48 : decode cX9_doClause 48 = .ok (.getfield 11, 3) := by decide +kernel
theorem dX9_doClause_51 : decode cX9_doClause 51 = .ok (.aload_n 2, 1) := by decide +kernel
theorem dX9_doClause_52 : decode cX9_doClause 52 = .ok (.iconst 0, 1) := by decide +kernel
theorem dX9_doClause_53 : decode cX9_doClause 53 = .ok (.iaload, 1) := by decide +kernel
theorem dX9_doClause_54 : decode cX9_doClause 54 = .ok (.aaload, 1) := by decide +kernel
theorem dX9_doClause_55 : decode cX9_doClause 55 = .ok (.aload_n 2, 1) := by decide +kernel
theorem dX9_doClause_56 : decode cX9_doClause 56 = .ok (.iconst 1, 1) := by decide +kernel
theorem dX9_doClause_57 : decode cX9_doClause 57 = .ok (.iaload, 1) := by decide +kernel
theorem dX9_doClause_58 : decode cX9_doClause 58 = .ok (.aload_n 2, 1) := by decide +kernel
theorem dX9_doClause_59 : decode cX9_doClause 59 = .ok (.iconst 2, 1) := by decide +kernel
theorem dX9_doClause_60 : decode cX9_doClause 60 = .ok (.iaload, 1) := by decide +kernel
theorem dX9_doClause_61 : decode cX9_doClause 61 = .ok (.aload_n 2, 1) := by decide +kernel
theorem dX9_doClause_62 : decode cX9_doClause 62 = .ok (.iconst 3, 1) := by decide +kernel
theorem dX9_doClause_63 : decode cX9_doClause 63 = .ok (.iaload, 1) := by decide +kernel
theorem dX9_doClause_64 : decode cX9_doClause 64 = .ok (.aload_n 2, 1) := by decide +kernel
theorem dX9_doClause_65 : decode cX9_doClause 65 = .ok (.iconst 4, 1) := by decide +kernel
theorem dX9_doClause_66 : decode cX9_doClause 66 = .ok (.iaload, 1) := by decide +kernel
theorem dX9_doClause_67 : decode cX9_doClause 67 = .ok (.invokevirtual 89, 3) := by decide +kernel
theorem dX9_doClause_70 : decode cX9_doClause 70 = .ok (.goto 81, 3) := by decide +kernel
theorem dX9_doClause_73 : decode cX9_doClause 73 = .ok (.aload_n 0, 1) := by decide +kernel
theorem dX9_doClause_74 : decode cX9_doClause 74 = .ok (.getfield 11, 3) := by decide +kernel
theorem dX9_doClause_77 : decode cX9_doClause 77 = .ok (.aload_n 2, 1) := by decide +kernel
theorem dX9_doClause_78 : decode cX9_doClause 78 = .ok (.iconst 0, 1) := by decide +kernel
theorem dX9_doClause_79 : decode cX9_doClause 79 = .ok (.iaload, 1) := by decide +kernel
theorem dX9_doClause_80 : decode cX9_doClause 80 = .ok (.aaload, 1) := by decide +kernel
theorem dX9_doClause_81 : decode cX9_doClause 81 = .ok (.getfield 93, 3) := by decide +kernel
theorem dX9_doClause_84 : decode cX9_doClause 84 = .ok (.aload_n 2, 1) := by decide +kernel
theorem dX9_doClause_85 : decode cX9_doClause 85 = .ok (.iconst 1, 1) := by decide +kernel
theorem dX9_doClause_86 : decode cX9_doClause 86 = .ok (.iaload, 1) := by decide +kernel
theorem dX9_doClause_87 : decode cX9_doClause 87 = .ok (.aload_n 2, 1) := by decide +kernel
theorem dX9_doClause_88 : decode cX9_doClause 88 = .ok (.iconst 2, 1) := by decide +kernel
theorem dX9_doClause_89 : decode cX9_doClause 89 = .ok (.iaload, 1) := by decide +kernel
theorem dX9_doClause_90 : decode cX9_doClause 90 = .ok (.iastore, 1) := by decide +kernel
theorem dX9_doClause_91 : decode cX9_doClause 91 = .ok (.goto 60, 3) := by decide +kernel
theorem dX9_doClause_94 : decode cX9_doClause 94 = .ok (.aload_n 0, 1) := by decide +kernel
theorem dX9_doClause_95 : decode cX9_doClause 95 = .ok (.getfield 24, 3) := by decide +kernel
theorem dX9_doClause_98 : decode cX9_doClause 98 = .ok (.getfield 96, 3) := by decide +kernel
theorem dX9_doClause_101 : decode cX9_doClause 101 = .ok (.aload_n 2, 1) := by decide +kernel
theorem dX9_doClause_102 : decode cX9_doClause 102 = .ok (.iconst 0, 1) := by decide +kernel
theorem dX9_doClause_103 : decode cX9_doClause 103 = .ok (.iaload, 1) := by decide +kernel
theorem dX9_doClause_104 : decode cX9_doClause 104 = .ok (.aload_n 2, 1) := by decide +kernel
theorem dX9_doClause_105 : decode cX9_doClause 105 = .ok (.iconst 1, 1) := by decide +kernel
theorem dX9_doClause_106 : decode cX9_doClause 106 = .ok (.iaload, 1) := by decide +kernel
theorem dX9_doClause_107 : decode cX9_doClause 107 = .ok (.iastore, 1) := by decide +kernel
theorem dX9_doClause_108 : decode cX9_doClause 108 = .ok (.goto 43, 3) := by decide +kernel
theorem dX9_doClause_111 : decode cX9_doClause 111 = .ok (.aload_n 0, 1) := by decide +kernel
theorem dX9_doClause_112 : decode cX9_doClause 112 = .ok (.getfield 17, 3) := by decide +kernel
theorem dX9_doClause_115 : decode cX9_doClause 115 = .ok (.aload_n 2, 1) := by decide +kernel
theorem dX9_doClause_116 : decode cX9_doClause 116 = .ok (.iconst 0, 1) := by decide +kernel
theorem dX9_doClause_117 : decode cX9_doClause 117 = .ok (.iaload, 1) := by decide +kernel
theorem dX9_doClause_118 : decode cX9_doClause 118 = .ok (.aaload, 1) := by decide +kernel
theorem dX9_doClause_119 : decode cX9_doClause 119 = .ok (.aload_n 2, 1) := by decide +kernel
theorem dX9_doClause_120 : decode cX9_doClause 120 = .ok (.iconst 1, 1) := by decide +kernel
theorem dX9_doClause_121 : decode cX9_doClause 121 = .ok (.iaload, 1) := by decide +kernel
theorem dX9_doClause_122 : decode cX9_doClause 122 = .ok (.aload_n 2, 1) := by decide +kernel
theorem dX9_doClause_123 : decode cX9_doClause 123 = .ok (.iconst 2, 1) := by decide +kernel
theorem dX9_doClause_124 : decode cX9_doClause 124 = .ok (.iaload, 1) := by decide +kernel
theorem dX9_doClause_125 : decode cX9_doClause 125 = .ok (.invokevirtual 99, 3) := by decide +kernel
theorem dX9_doClause_128 : decode cX9_doClause 128 = .ok (.goto 23, 3) := by decide +kernel
theorem dX9_doClause_131 : decode cX9_doClause 131 = .ok (.aload_n 0, 1) := by decide +kernel
theorem dX9_doClause_132 : decode cX9_doClause 132 = .ok (.aload_n 2, 1) := by decide +kernel
theorem dX9_doClause_133 : decode cX9_doClause 133 = .ok (.iconst 0, 1) := by decide +kernel
theorem dX9_doClause_134 : decode cX9_doClause 134 = .ok (.iaload, 1) := by decide +kernel
theorem dX9_doClause_135 : decode cX9_doClause 135 = .ok (.invokevirtual 103, 3) := by decide +kernel
theorem dX9_doClause_138 : decode cX9_doClause 138 = .ok (.ifCond .ne 13, 3) := by decide +kernel
theorem dX9_doClause_141 : decode cX9_doClause 141 = .ok (.aload_n 0, 1) := by decide +kernel
theorem dX9_doClause_142 : decode cX9_doClause 142 = .ok (.aload_n 2, 1) := by decide +kernel
theorem dX9_doClause_143 : decode cX9_doClause 143 = .ok (.iconst 0, 1) := by decide +kernel
theorem dX9_doClause_144 : decode cX9_doClause 144 = .ok (.iaload, 1) := by decide +kernel
theorem dX9_doClause_145 : decode cX9_doClause 145 = .ok (.invokevirtual 107, 3) := by decide +kernel
theorem dX9_doClause_148 : decode cX9_doClause 148 = .ok (.goto 3, 3) := by decide +kernel
theorem dX9_doClause_151 : decode cX9_doClause 151 = .ok (.return_, 1) := by decide +kernel
theorem dX9_resetAll_0 : decode cX9_resetAll 0 = .ok (.iconst 0, 1) := by decide +kernel
theorem dX9_resetAll_1 : decode cX9_resetAll 1 = .ok (.istore_n 1, 1) := by decide +kernel
theorem dX9_resetAll_2 : decode cX9_resetAll 2 = .ok (.iload_n 1, 1) := by decide +kernel
theorem dX9_resetAll_3 : decode cX9_resetAll 3 = .ok (.iconst 2, 1) := by decide +kernel
theorem dX9_resetAll_4 : decode cX9_resetAll 4 = .ok (.if_icmp .ge 18, 3) := by decide +kernel
theorem dX9_resetAll_7 : decode cX9_resetAll 7 = .ok (.aload_n 0, 1) := by decide +kernel
theorem dX9_resetAll_8 : decode cX9_resetAll 8 = .ok (.getfield 11, 3) := by decide +kernel
theorem dX9_resetAll_11 : decode cX9_resetAll 11 = .ok (.iload_n 1, 1) := by decide +kernel
theorem dX9_resetAll_12 : decode cX9_resetAll 12 = .ok (.aaload, 1) := by decide +kernel
theorem dX9_resetAll_13 : decode cX9_resetAll 13 = .ok (.invokevirtual 111, 3) := by decide +kernel
theorem dX9_resetAll_16 : decode cX9_resetAll 16 = .ok (.iinc 1 1, 3) := by decide +kernel
theorem dX9_resetAll_19 : decode cX9_resetAll 19 = .ok (.goto (-17), 3) := by decide +kernel
theorem dX9_resetAll_22 : decode cX9_resetAll 22 = .ok (.iconst 0, 1) := by decide +kernel
theorem dX9_resetAll_23 : decode cX9_resetAll 23 = .ok (.istore_n 1, 1) := by decide +kernel
theorem dX9_resetAll_24 : decode cX9_resetAll 24 = .ok (.iload_n 1, 1) := by decide +kernel
theorem dX9_resetAll_25 : decode cX9_resetAll 25 = .ok (.iconst 4, 1) := by decide +kernel
theorem dX9_resetAll_26 : decode cX9_resetAll 26 = .ok (.if_icmp .ge 18, 3) := by decide +kernel
theorem dX9_resetAll_29 : decode cX9_resetAll 29 = .ok (.aload_n 0, 1) := by decide +kernel
theorem dX9_resetAll_30 : decode cX9_resetAll 30 = .ok (.getfield 17, 3) := by decide +kernel
theorem dX9_resetAll_33 : decode cX9_resetAll 33 = .ok (.iload_n 1, 1) := by decide +kernel
theorem dX9_resetAll_34 : decode cX9_resetAll 34 = .ok (.aaload, 1) := by decide +kernel
theorem dX9_resetAll_35 : decode cX9_resetAll 35 = .ok (.invokevirtual 114, 3) := by decide +kernel
theorem dX9_resetAll_38 : decode cX9_resetAll 38 = .ok (.iinc 1 1, 3) := by decide +kernel
theorem dX9_resetAll_41 : decode cX9_resetAll 41 = .ok (.goto (-17), 3) := by decide +kernel
theorem dX9_resetAll_44 : decode cX9_resetAll 44 = .ok (.aload_n 0, 1) := by decide +kernel
theorem dX9_resetAll_45 : decode cX9_resetAll 45 = .ok (.getfield 24, 3) := by decide +kernel
theorem dX9_resetAll_48 : decode cX9_resetAll 48 = .ok (.invokevirtual 115, 3) := by decide +kernel
theorem dX9_resetAll_51 : decode cX9_resetAll 51 = .ok (.aload_n 0, 1) := by decide +kernel
theorem dX9_resetAll_52 : decode cX9_resetAll 52 = .ok (.aconst_null, 1) := by decide +kernel
theorem dX9_resetAll_53 : decode cX9_resetAll 53 = .ok (.putfield 35, 3) := by decide +kernel
theorem dX9_resetAll_56 : decode cX9_resetAll 56 = .ok (.return_, 1) := by decide +kernel
theorem dX9_cell_0 : decode cX9_cell 0 = .ok (.iload_n 1, 1) := by decide +kernel
theorem dX9_cell_1 : decode cX9_cell 1 = .ok (.invokestatic 116, 3) := by decide +kernel
theorem dX9_cell_4 : decode cX9_cell 4 = .ok (.ifCond .ne 10, 3) := by decide +kernel
theorem dX9_cell_7 : decode cX9_cell 7 = .ok (.iload_n 2, 1) := by decide +kernel
theorem dX9_cell_8 : decode cX9_cell 8 = .ok (.invokestatic 119, 3) := by decide +kernel
theorem dX9_cell_11 : decode cX9_cell 11 = .ok (.ifCond .eq 7, 3) := by decide +kernel
theorem dX9_cell_14 : decode cX9_cell 14 = .ok (.sipush (-1001), 3) := by decide +kernel
theorem dX9_cell_17 : decode cX9_cell 17 = .ok (.ireturn, 1) := by decide +kernel
theorem dX9_cell_18 : decode cX9_cell 18 = .ok (.aload_n 0, 1) := by decide +kernel
theorem dX9_cell_19 : decode cX9_cell 19 = .ok (.getfield 11, 3) := by decide +kernel
theorem dX9_cell_22 : decode cX9_cell 22 = .ok (.iload_n 1, 1) := by decide +kernel
theorem dX9_cell_23 : decode cX9_cell 23 = .ok (.aaload, 1) := by decide +kernel
theorem dX9_cell_24 : decode cX9_cell 24 = .ok (.getfield 93, 3) := by decide +kernel
theorem dX9_cell_27 : decode cX9_cell 27 = .ok (.iload_n 2, 1) := by decide +kernel
theorem dX9_cell_28 : decode cX9_cell 28 = .ok (.iaload, 1) := by decide +kernel
theorem dX9_cell_29 : decode cX9_cell 29 = .ok (.ireturn, 1) := by decide +kernel
theorem dX9_put_0 : decode cX9_put 0 = .ok (.iload_n 1, 1) := by decide +kernel
theorem dX9_put_1 : decode cX9_put 1 = .ok (.invokestatic 116, 3) := by decide +kernel
theorem dX9_put_4 : decode cX9_put 4 = .ok (.ifCond .ne 10, 3) := by decide +kernel
theorem dX9_put_7 : decode cX9_put 7 = .ok (.iload_n 2, 1) := by decide +kernel
theorem dX9_put_8 : decode cX9_put 8 = .ok (.invokestatic 119, 3) := by decide +kernel
theorem dX9_put_11 : decode cX9_put 11 = .ok (.ifCond .eq 7, 3) := by decide +kernel
theorem dX9_put_14 : decode cX9_put 14 = .ok (.sipush (-1001), 3) := by decide +kernel
theorem dX9_put_17 : decode cX9_put 17 = .ok (.ireturn, 1) := by decide +kernel
theorem dX9_put_18 : decode cX9_put 18 = .ok (.iload_n 3, 1) := by decide +kernel
theorem dX9_put_19 : decode cX9_put 19 = .ok (.invokestatic 122, 3) := by decide +kernel
theorem dX9_put_22 : decode cX9_put 22 = .ok (.ifCond .eq 7, 3) := by decide +kernel
theorem dX9_put_25 : decode cX9_put 25 = .ok (.sipush (-1002), 3) := by decide +kernel
theorem dX9_put_28 : decode cX9_put 28 = .ok (.ireturn, 1) := by decide +kernel
theorem dX9_put_29 : decode cX9_put 29 = .ok (.aload_n 0, 1) := by decide +kernel
theorem dX9_put_30 : decode cX9_put 30 = .ok (.getfield 11, 3) := by decide +kernel
theorem dX9_put_33 : decode cX9_put 33 = .ok (.iload_n 1, 1) := by decide +kernel
theorem dX9_put_34 : decode cX9_put 34 = .ok (.aaload, 1) := by decide +kernel
theorem dX9_put_35 : decode cX9_put 35 = .ok (.getfield 93, 3) := by decide +kernel
theorem dX9_put_38 : decode cX9_put 38 = .ok (.iload_n 2, 1) := by decide +kernel
theorem dX9_put_39 : decode cX9_put 39 = .ok (.iaload, 1) := by decide +kernel
theorem dX9_put_40 : decode cX9_put 40 = .ok (.istore 4, 2) := by decide +kernel
theorem dX9_put_42 : decode cX9_put 42 = .ok (.aload_n 0, 1) := by decide +kernel
theorem dX9_put_43 : decode cX9_put 43 = .ok (.getfield 11, 3) := by decide +kernel
theorem dX9_put_46 : decode cX9_put 46 = .ok (.iload_n 1, 1) := by decide +kernel
theorem dX9_put_47 : decode cX9_put 47 = .ok (.aaload, 1) := by decide +kernel
theorem dX9_put_48 : decode cX9_put 48 = .ok (.getfield 93, 3) := by decide +kernel
theorem dX9_put_51 : decode cX9_put 51 = .ok (.iload_n 2, 1) := by decide +kernel
theorem dX9_put_52 : decode cX9_put 52 = .ok (.iload_n 3, 1) := by decide +kernel
theorem dX9_put_53 : decode cX9_put 53 = .ok (.iastore, 1) := by decide +kernel
theorem dX9_put_54 : decode cX9_put 54 = .ok (.iload 4, 2) := by decide +kernel
theorem dX9_put_56 : decode cX9_put 56 = .ok (.ireturn, 1) := by decide +kernel
theorem dX9_key_0 : decode cX9_key 0 = .ok (.iload_n 1, 1) := by decide +kernel
theorem dX9_key_1 : decode cX9_key 1 = .ok (.invokestatic 116, 3) := by decide +kernel
theorem dX9_key_4 : decode cX9_key 4 = .ok (.ifCond .ne 10, 3) := by decide +kernel
theorem dX9_key_7 : decode cX9_key 7 = .ok (.iload_n 2, 1) := by decide +kernel
theorem dX9_key_8 : decode cX9_key 8 = .ok (.invokestatic 125, 3) := by decide +kernel
theorem dX9_key_11 : decode cX9_key 11 = .ok (.ifCond .eq 7, 3) := by decide +kernel
theorem dX9_key_14 : decode cX9_key 14 = .ok (.sipush (-1001), 3) := by decide +kernel
theorem dX9_key_17 : decode cX9_key 17 = .ok (.ireturn, 1) := by decide +kernel
theorem dX9_key_18 : decode cX9_key 18 = .ok (.iload_n 3, 1) := by decide +kernel
theorem dX9_key_19 : decode cX9_key 19 = .ok (.invokestatic 119, 3) := by decide +kernel
theorem dX9_key_22 : decode cX9_key 22 = .ok (.ifCond .ne 27, 3) := by decide +kernel
theorem dX9_key_25 : decode cX9_key 25 = .ok (.iload 4, 2) := by decide +kernel
theorem dX9_key_27 : decode cX9_key 27 = .ok (.iconst 1, 1) := by decide +kernel
theorem dX9_key_28 : decode cX9_key 28 = .ok (.bipush 12, 2) := by decide +kernel
theorem dX9_key_30 : decode cX9_key 30 = .ok (.iload_n 3, 1) := by decide +kernel
theorem dX9_key_31 : decode cX9_key 31 = .ok (.isub, 1) := by decide +kernel
theorem dX9_key_32 : decode cX9_key 32 = .ok (.invokestatic 47, 3) := by decide +kernel
theorem dX9_key_35 : decode cX9_key 35 = .ok (.ifCond .ne 14, 3) := by decide +kernel
theorem dX9_key_38 : decode cX9_key 38 = .ok (.iload 5, 2) := by decide +kernel
theorem dX9_key_40 : decode cX9_key 40 = .ok (.iconst 0, 1) := by decide +kernel
theorem dX9_key_41 : decode cX9_key 41 = .ok (.bipush 7, 2) := by decide +kernel
theorem dX9_key_43 : decode cX9_key 43 = .ok (.invokestatic 47, 3) := by decide +kernel
theorem dX9_key_46 : decode cX9_key 46 = .ok (.ifCond .eq 7, 3) := by decide +kernel
theorem dX9_key_49 : decode cX9_key 49 = .ok (.sipush (-1002), 3) := by decide +kernel
theorem dX9_key_52 : decode cX9_key 52 = .ok (.ireturn, 1) := by decide +kernel
theorem dX9_key_53 : decode cX9_key 53 = .ok (.aload_n 0, 1) := by decide +kernel
theorem dX9_key_54 : decode cX9_key 54 = .ok (.getfield 11, 3) := by decide +kernel
theorem dX9_key_57 : decode cX9_key 57 = .ok (.iload_n 1, 1) := by decide +kernel
theorem dX9_key_58 : decode cX9_key 58 = .ok (.aaload, 1) := by decide +kernel
theorem dX9_key_59 : decode cX9_key 59 = .ok (.iload_n 2, 1) := by decide +kernel
theorem dX9_key_60 : decode cX9_key 60 = .ok (.iload_n 3, 1) := by decide +kernel
theorem dX9_key_61 : decode cX9_key 61 = .ok (.iload 4, 2) := by decide +kernel
theorem dX9_key_63 : decode cX9_key 63 = .ok (.iload 5, 2) := by decide +kernel
theorem dX9_key_65 : decode cX9_key 65 = .ok (.invokevirtual 89, 3) := by decide +kernel
theorem dX9_key_68 : decode cX9_key 68 = .ok (.aload_n 0, 1) := by decide +kernel
theorem dX9_key_69 : decode cX9_key 69 = .ok (.getfield 11, 3) := by decide +kernel
theorem dX9_key_72 : decode cX9_key 72 = .ok (.iload_n 1, 1) := by decide +kernel
theorem dX9_key_73 : decode cX9_key 73 = .ok (.aaload, 1) := by decide +kernel
theorem dX9_key_74 : decode cX9_key 74 = .ok (.invokevirtual 128, 3) := by decide +kernel
theorem dX9_key_77 : decode cX9_key 77 = .ok (.ireturn, 1) := by decide +kernel
theorem dX9_lock_0 : decode cX9_lock 0 = .ok (.iload_n 1, 1) := by decide +kernel
theorem dX9_lock_1 : decode cX9_lock 1 = .ok (.invokestatic 116, 3) := by decide +kernel
theorem dX9_lock_4 : decode cX9_lock 4 = .ok (.ifCond .ne 10, 3) := by decide +kernel
theorem dX9_lock_7 : decode cX9_lock 7 = .ok (.iload_n 2, 1) := by decide +kernel
theorem dX9_lock_8 : decode cX9_lock 8 = .ok (.invokestatic 125, 3) := by decide +kernel
theorem dX9_lock_11 : decode cX9_lock 11 = .ok (.ifCond .eq 7, 3) := by decide +kernel
theorem dX9_lock_14 : decode cX9_lock 14 = .ok (.sipush (-1001), 3) := by decide +kernel
theorem dX9_lock_17 : decode cX9_lock 17 = .ok (.ireturn, 1) := by decide +kernel
theorem dX9_lock_18 : decode cX9_lock 18 = .ok (.aload_n 0, 1) := by decide +kernel
theorem dX9_lock_19 : decode cX9_lock 19 = .ok (.getfield 11, 3) := by decide +kernel
theorem dX9_lock_22 : decode cX9_lock 22 = .ok (.iload_n 1, 1) := by decide +kernel
theorem dX9_lock_23 : decode cX9_lock 23 = .ok (.aaload, 1) := by decide +kernel
theorem dX9_lock_24 : decode cX9_lock 24 = .ok (.getfield 131, 3) := by decide +kernel
theorem dX9_lock_27 : decode cX9_lock 27 = .ok (.iload_n 2, 1) := by decide +kernel
theorem dX9_lock_28 : decode cX9_lock 28 = .ok (.aaload, 1) := by decide +kernel
theorem dX9_lock_29 : decode cX9_lock 29 = .ok (.getfield 135, 3) := by decide +kernel
theorem dX9_lock_32 : decode cX9_lock 32 = .ok (.ifCond .ne 7, 3) := by decide +kernel
theorem dX9_lock_35 : decode cX9_lock 35 = .ok (.sipush (-1003), 3) := by decide +kernel
theorem dX9_lock_38 : decode cX9_lock 38 = .ok (.ireturn, 1) := by decide +kernel
theorem dX9_lock_39 : decode cX9_lock 39 = .ok (.aload_n 0, 1) := by decide +kernel
theorem dX9_lock_40 : decode cX9_lock 40 = .ok (.getfield 11, 3) := by decide +kernel
theorem dX9_lock_43 : decode cX9_lock 43 = .ok (.iload_n 1, 1) := by decide +kernel
theorem dX9_lock_44 : decode cX9_lock 44 = .ok (.aaload, 1) := by decide +kernel
theorem dX9_lock_45 : decode cX9_lock 45 = .ok (.getfield 131, 3) := by decide +kernel
theorem dX9_lock_48 : decode cX9_lock 48 = .ok (.iload_n 2, 1) := by decide +kernel
theorem dX9_lock_49 : decode cX9_lock 49 = .ok (.aaload, 1) := by decide +kernel
theorem dX9_lock_50 : decode cX9_lock 50 = .ok (.iconst 0, 1) := by decide +kernel
theorem dX9_lock_51 : decode cX9_lock 51 = .ok (.putfield 135, 3) := by decide +kernel
theorem dX9_lock_54 : decode cX9_lock 54 = .ok (.aload_n 0, 1) := by decide +kernel
theorem dX9_lock_55 : decode cX9_lock 55 = .ok (.getfield 11, 3) := by decide +kernel
theorem dX9_lock_58 : decode cX9_lock 58 = .ok (.iload_n 1, 1) := by decide +kernel
theorem dX9_lock_59 : decode cX9_lock 59 = .ok (.aaload, 1) := by decide +kernel
theorem dX9_lock_60 : decode cX9_lock 60 = .ok (.invokevirtual 128, 3) := by decide +kernel
theorem dX9_lock_63 : decode cX9_lock 63 = .ok (.ireturn, 1) := by decide +kernel
theorem dX9_door_0 : decode cX9_door 0 = .ok (.iload_n 1, 1) := by decide +kernel
theorem dX9_door_1 : decode cX9_door 1 = .ok (.invokestatic 116, 3) := by decide +kernel
theorem dX9_door_4 : decode cX9_door 4 = .ok (.ifCond .ne 10, 3) := by decide +kernel
theorem dX9_door_7 : decode cX9_door 7 = .ok (.iload_n 2, 1) := by decide +kernel
theorem dX9_door_8 : decode cX9_door 8 = .ok (.invokestatic 125, 3) := by decide +kernel
theorem dX9_door_11 : decode cX9_door 11 = .ok (.ifCond .eq 7, 3) := by decide +kernel
theorem dX9_door_14 : decode cX9_door 14 = .ok (.sipush (-1001), 3) := by decide +kernel
theorem dX9_door_17 : decode cX9_door 17 = .ok (.ireturn, 1) := by decide +kernel
theorem dX9_door_18 : decode cX9_door 18 = .ok (.iload_n 3, 1) := by decide +kernel
theorem dX9_door_19 : decode cX9_door 19 = .ok (.iconst 0, 1) := by decide +kernel
theorem dX9_door_20 : decode cX9_door 20 = .ok (.iconst 2, 1) := by decide +kernel
theorem dX9_door_21 : decode cX9_door 21 = .ok (.invokestatic 47, 3) := by decide +kernel
theorem dX9_door_24 : decode cX9_door 24 = .ok (.ifCond .eq 7, 3) := by decide +kernel
theorem dX9_door_27 : decode cX9_door 27 = .ok (.sipush (-1002), 3) := by decide +kernel
theorem dX9_door_30 : decode cX9_door 30 = .ok (.ireturn, 1) := by decide +kernel
theorem dX9_door_31 : decode cX9_door 31 = .ok (.aload_n 0, 1) := by decide +kernel
theorem dX9_door_32 : decode cX9_door 32 = .ok (.getfield 11, 3) := by decide +kernel
theorem dX9_door_35 : decode cX9_door 35 = .ok (.iload_n 1, 1) := by decide +kernel
theorem dX9_door_36 : decode cX9_door 36 = .ok (.aaload, 1) := by decide +kernel
theorem dX9_door_37 : decode cX9_door 37 = .ok (.getfield 131, 3) := by decide +kernel
theorem dX9_door_40 : decode cX9_door 40 = .ok (.iload_n 2, 1) := by decide +kernel
theorem dX9_door_41 : decode cX9_door 41 = .ok (.aaload, 1) := by decide +kernel
theorem dX9_door_42 : decode cX9_door 42 = .ok (.astore 4, 2) := by decide +kernel
theorem dX9_door_44 : decode cX9_door 44 = .ok (.aload 4, 2) := by decide +kernel
theorem dX9_door_46 : decode cX9_door 46 = .ok (.getfield 135, 3) := by decide +kernel
theorem dX9_door_49 : decode cX9_door 49 = .ok (.ifCond .ne 7, 3) := by decide +kernel
theorem dX9_door_52 : decode cX9_door 52 = .ok (.sipush (-1003), 3) := by decide +kernel
theorem dX9_door_55 : decode cX9_door 55 = .ok (.ireturn, 1) := by decide +kernel
theorem dX9_door_56 : decode cX9_door 56 = .ok (.iload_n 3, 1) := by decide +kernel
theorem dX9_door_57 : decode cX9_door 57 = .ok (.lookupswitch 39 #[(0, 27), (1, 33)], 27) := by decide +kernel
theorem dX9_door_84 : decode cX9_door 84 = .ok (.aload 4, 2) := by decide +kernel
theorem dX9_door_86 : decode cX9_door 86 = .ok (.getfield 141, 3) := by decide +kernel
theorem dX9_door_89 : decode cX9_door 89 = .ok (.ireturn, 1) := by decide +kernel
theorem dX9_door_90 : decode cX9_door 90 = .ok (.aload 4, 2) := by decide +kernel
theorem dX9_door_92 : decode cX9_door 92 = .ok (.getfield 144, 3) := by decide +kernel
theorem dX9_door_95 : decode cX9_door 95 = .ok (.ireturn, 1) := by decide +kernel
theorem dX9_door_96 : decode cX9_door 96 = .ok (.aload 4, 2) := by decide +kernel
theorem dX9_door_98 : decode cX9_door 98 = .ok (.getfield 145, 3) := by decide +kernel
theorem dX9_door_101 : decode cX9_door 101 = .ok (.ireturn, 1) := by decide +kernel
theorem dX9_join_0 : decode cX9_join 0 = .ok (.iload_n 1, 1) := by decide +kernel
theorem dX9_join_1 : decode cX9_join 1 = .ok (.invokestatic 148, 3) := by decide +kernel
theorem dX9_join_4 : decode cX9_join 4 = .ok (.ifCond .eq 7, 3) := by decide +kernel
theorem dX9_join_7 : decode cX9_join 7 = .ok (.sipush (-1001), 3) := by decide +kernel
theorem dX9_join_10 : decode cX9_join 10 = .ok (.ireturn, 1) := by decide +kernel
theorem dX9_join_11 : decode cX9_join 11 = .ok (.aload_n 0, 1) := by decide +kernel
theorem dX9_join_12 : decode cX9_join 12 = .ok (.iload_n 1, 1) := by decide +kernel
theorem dX9_join_13 : decode cX9_join 13 = .ok (.invokevirtual 103, 3) := by decide +kernel
theorem dX9_join_16 : decode cX9_join 16 = .ok (.ifCond .eq 7, 3) := by decide +kernel
