theorem dX0_init_0 : decode cX0_init 0 = .ok (.aload_n 0, 1) := by decide +kernel
theorem dX0_init_1 : decode cX0_init 1 = .ok (.invokespecial 3, 3) := by decide +kernel
theorem dX0_init_4 : decode cX0_init 4 = .ok (.aload_n 0, 1) := by decide +kernel
theorem dX0_init_5 : decode cX0_init 5 = .ok (.iconst 2, 1) := by decide +kernel
theorem dX0_init_6 : decode cX0_init 6 = .ok (.newarray .int, 2) := by decide +kernel
theorem dX0_init_8 : decode cX0_init 8 = .ok (.putfield 9, 3) := by decide +kernel
theorem dX0_init_11 : decode cX0_init 11 = .ok (.aload_n 0, 1) := by decide +kernel
theorem dX0_init_12 : decode cX0_init 12 = .ok (.iconst 2, 1) := by decide +kernel
theorem dX0_init_13 : decode cX0_init 13 = .ok (.newarray .int, 2) := by decide +kernel
theorem dX0_init_15 : decode cX0_init 15 = .ok (.putfield 15, 3) := by decide +kernel
theorem dX0_init_18 : decode cX0_init 18 = .ok (.aload_n 0, 1) := by decide +kernel
theorem dX0_init_19 : decode cX0_init 19 = .ok (.iconst 0, 1) := by decide +kernel
theorem dX0_init_20 : decode cX0_init 20 = .ok (.putfield 18, 3) := by decide +kernel
theorem dX0_init_23 : decode cX0_init 23 = .ok (.return_, 1) := by decide +kernel
theorem dX0_remember_0 : decode cX0_remember 0 = .ok (.aload_n 0, 1) := by decide +kernel
theorem dX0_remember_1 : decode cX0_remember 1 = .ok (.getfield 18, 3) := by decide +kernel
theorem dX0_remember_4 : decode cX0_remember 4 = .ok (.iconst 2, 1) := by decide +kernel
theorem dX0_remember_5 : decode cX0_remember 5 = .ok (.if_icmp .ne 54, 3) := by decide +kernel
theorem dX0_remember_8 : decode cX0_remember 8 = .ok (.iconst 1, 1) := by decide +kernel
theorem dX0_remember_9 : decode cX0_remember 9 = .ok (.istore_n 3, 1) := by decide +kernel
theorem dX0_remember_10 : decode cX0_remember 10 = .ok (.iload_n 3, 1) := by decide +kernel
theorem dX0_remember_11 : decode cX0_remember 11 = .ok (.iconst 2, 1) := by decide +kernel
theorem dX0_remember_12 : decode cX0_remember 12 = .ok (.if_icmp .ge 37, 3) := by decide +kernel
theorem dX0_remember_15 : decode cX0_remember 15 = .ok (.aload_n 0, 1) := by decide +kernel
theorem dX0_remember_16 : decode cX0_remember 16 = .ok (.getfield 9, 3) := by decide +kernel
theorem dX0_remember_19 : decode cX0_remember 19 = .ok (.iload_n 3, 1) := by decide +kernel
theorem dX0_remember_20 : decode cX0_remember 20 = .ok (.iconst 1, 1) := by decide +kernel
theorem dX0_remember_21 : decode cX0_remember 21 = .ok (.isub, 1) := by decide +kernel
theorem dX0_remember_22 : decode cX0_remember 22 = .ok (.aload_n 0, 1) := by decide +kernel
theorem dX0_remember_23 : decode cX0_remember 23 = .ok (.getfield 9, 3) := by decide +kernel
theorem dX0_remember_26 : decode cX0_remember 26 = .ok (.iload_n 3, 1) := by decide +kernel
theorem dX0_remember_27 : decode cX0_remember 27 = .ok (.iaload, 1) := by decide +kernel
theorem dX0_remember_28 : decode cX0_remember 28 = .ok (.iastore, 1) := by decide +kernel
theorem dX0_remember_29 : decode cX0_remember 29 = .ok (.aload_n 0, 1) := by decide +kernel
theorem dX0_remember_30 : decode cX0_remember 30 = .ok (.getfield 15, 3) := by decide +kernel
theorem dX0_remember_33 : decode cX0_remember 33 = .ok (.iload_n 3, 1) := by decide +kernel
theorem dX0_remember_34 : decode cX0_remember 34 = .ok (.iconst 1, 1) := by decide +kernel
theorem dX0_remember_35 : decode cX0_remember 35 = .ok (.isub, 1) := by decide +kernel
theorem dX0_remember_36 : decode cX0_remember 36 = .ok (.aload_n 0, 1) := by decide +kernel
theorem dX0_remember_37 : decode cX0_remember 37 = .ok (.getfield 15, 3) := by decide +kernel
theorem dX0_remember_40 : decode cX0_remember 40 = .ok (.iload_n 3, 1) := by decide +kernel
theorem dX0_remember_41 : decode cX0_remember 41 = .ok (.iaload, 1) := by decide +kernel
theorem dX0_remember_42 : decode cX0_remember 42 = .ok (.iastore, 1) := by decide +kernel
theorem dX0_remember_43 : decode cX0_remember 43 = .ok (.iinc 3 1, 3) := by decide +kernel
theorem dX0_remember_46 : decode cX0_remember 46 = .ok (.goto (-36), 3) := by decide +kernel
theorem dX0_remember_49 : decode cX0_remember 49 = .ok (.aload_n 0, 1) := by decide +kernel
theorem dX0_remember_50 : decode cX0_remember 50 = .ok (.dup, 1) := by decide +kernel
theorem dX0_remember_51 : decode cX0_remember 51 = .ok (.getfield 18, 3) := by decide +kernel
theorem dX0_remember_54 : decode cX0_remember 54 = .ok (.iconst 1, 1) := by decide +kernel
theorem dX0_remember_55 : decode cX0_remember 55 = .ok (.isub, 1) := by decide +kernel
theorem dX0_remember_56 : decode cX0_remember 56 = .ok (.putfield 18, 3) := by decide +kernel
theorem dX0_remember_59 : decode cX0_remember 59 = .ok (.aload_n 0, 1) := by decide +kernel
theorem dX0_remember_60 : decode cX0_remember 60 = .ok (.getfield 9, 3) := by decide +kernel
theorem dX0_remember_63 : decode cX0_remember 63 = .ok (.aload_n 0, 1) := by decide +kernel
theorem dX0_remember_64 : decode cX0_remember 64 = .ok (.getfield 18, 3) := by decide +kernel
theorem dX0_remember_67 : decode cX0_remember 67 = .ok (.iload_n 1, 1) := by decide +kernel
theorem dX0_remember_68 : decode cX0_remember 68 = .ok (.iastore, 1) := by decide +kernel
theorem dX0_remember_69 : decode cX0_remember 69 = .ok (.aload_n 0, 1) := by decide +kernel
theorem dX0_remember_70 : decode cX0_remember 70 = .ok (.getfield 15, 3) := by decide +kernel
theorem dX0_remember_73 : decode cX0_remember 73 = .ok (.aload_n 0, 1) := by decide +kernel
theorem dX0_remember_74 : decode cX0_remember 74 = .ok (.getfield 18, 3) := by decide +kernel
theorem dX0_remember_77 : decode cX0_remember 77 = .ok (.iload_n 2, 1) := by decide +kernel
theorem dX0_remember_78 : decode cX0_remember 78 = .ok (.iastore, 1) := by decide +kernel
theorem dX0_remember_79 : decode cX0_remember 79 = .ok (.aload_n 0, 1) := by decide +kernel
theorem dX0_remember_80 : decode cX0_remember 80 = .ok (.dup, 1) := by decide +kernel
theorem dX0_remember_81 : decode cX0_remember 81 = .ok (.getfield 18, 3) := by decide +kernel
theorem dX0_remember_84 : decode cX0_remember 84 = .ok (.iconst 1, 1) := by decide +kernel
theorem dX0_remember_85 : decode cX0_remember 85 = .ok (.iadd, 1) := by decide +kernel
theorem dX0_remember_86 : decode cX0_remember 86 = .ok (.putfield 18, 3) := by decide +kernel
theorem dX0_remember_89 : decode cX0_remember 89 = .ok (.return_, 1) := by decide +kernel
theorem dX0_toldOf_0 : decode cX0_toldOf 0 = .ok (.iconst 0, 1) := by decide +kernel
theorem dX0_toldOf_1 : decode cX0_toldOf 1 = .ok (.istore_n 2, 1) := by decide +kernel
theorem dX0_toldOf_2 : decode cX0_toldOf 2 = .ok (.iload_n 2, 1) := by decide +kernel
theorem dX0_toldOf_3 : decode cX0_toldOf 3 = .ok (.aload_n 0, 1) := by decide +kernel
theorem dX0_toldOf_4 : decode cX0_toldOf 4 = .ok (.getfield 18, 3) := by decide +kernel
theorem dX0_toldOf_7 : decode cX0_toldOf 7 = .ok (.if_icmp .ge 26, 3) := by decide +kernel
theorem dX0_toldOf_10 : decode cX0_toldOf 10 = .ok (.aload_n 0, 1) := by decide +kernel
theorem dX0_toldOf_11 : decode cX0_toldOf 11 = .ok (.getfield 9, 3) := by decide +kernel
theorem dX0_toldOf_14 : decode cX0_toldOf 14 = .ok (.iload_n 2, 1) := by decide +kernel
theorem dX0_toldOf_15 : decode cX0_toldOf 15 = .ok (.iaload, 1) := by decide +kernel
theorem dX0_toldOf_16 : decode cX0_toldOf 16 = .ok (.iload_n 1, 1) := by decide +kernel
theorem dX0_toldOf_17 : decode cX0_toldOf 17 = .ok (.if_icmp .ne 10, 3) := by decide +kernel
theorem dX0_toldOf_20 : decode cX0_toldOf 20 = .ok (.aload_n 0, 1) := by decide +kernel
theorem dX0_toldOf_21 : decode cX0_toldOf 21 = .ok (.getfield 15, 3) := by decide +kernel
theorem dX0_toldOf_24 : decode cX0_toldOf 24 = .ok (.iload_n 2, 1) := by decide +kernel
theorem dX0_toldOf_25 : decode cX0_toldOf 25 = .ok (.iaload, 1) := by decide +kernel
theorem dX0_toldOf_26 : decode cX0_toldOf 26 = .ok (.ireturn, 1) := by decide +kernel
theorem dX0_toldOf_27 : decode cX0_toldOf 27 = .ok (.iinc 2 1, 3) := by decide +kernel
theorem dX0_toldOf_30 : decode cX0_toldOf 30 = .ok (.goto (-28), 3) := by decide +kernel
theorem dX0_toldOf_33 : decode cX0_toldOf 33 = .ok (.iconst (-1), 1) := by decide +kernel
theorem dX0_toldOf_34 : decode cX0_toldOf 34 = .ok (.ireturn, 1) := by decide +kernel
theorem dX1_init_0 : decode cX1_init 0 = .ok (.aload_n 0, 1) := by decide +kernel
theorem dX1_init_1 : decode cX1_init 1 = .ok (.invokespecial 3, 3) := by decide +kernel
theorem dX1_init_4 : decode cX1_init 4 = .ok (.aload_n 0, 1) := by decide +kernel
theorem dX1_init_5 : decode cX1_init 5 = .ok (.iconst 4, 1) := by decide +kernel
theorem dX1_init_6 : decode cX1_init 6 = .ok (.anewarray 9, 3) := by decide +kernel
theorem dX1_init_9 : decode cX1_init 9 = .ok (.putfield 11, 3) := by decide +kernel
theorem dX1_init_12 : decode cX1_init 12 = .ok (.aload_n 0, 1) := by decide +kernel
theorem dX1_init_13 : decode cX1_init 13 = .ok (.iconst 3, 1) := by decide +kernel
theorem dX1_init_14 : decode cX1_init 14 = .ok (.newarray .int, 2) := by decide +kernel
theorem dX1_init_16 : decode cX1_init 16 = .ok (.putfield 17, 3) := by decide +kernel
theorem dX1_init_19 : decode cX1_init 19 = .ok (.aload_n 0, 1) := by decide +kernel
theorem dX1_init_20 : decode cX1_init 20 = .ok (.new 21, 3) := by decide +kernel
theorem dX1_init_23 : decode cX1_init 23 = .ok (.dup, 1) := by decide +kernel
theorem dX1_init_24 : decode cX1_init 24 = .ok (.invokespecial 23, 3) := by decide +kernel
theorem dX1_init_27 : decode cX1_init 27 = .ok (.putfield 24, 3) := by decide +kernel
theorem dX1_init_30 : decode cX1_init 30 = .ok (.aload_n 0, 1) := by decide +kernel
theorem dX1_init_31 : decode cX1_init 31 = .ok (.iconst 0, 1) := by decide +kernel
theorem dX1_init_32 : decode cX1_init 32 = .ok (.putfield 28, 3) := by decide +kernel
theorem dX1_init_35 : decode cX1_init 35 = .ok (.aload_n 0, 1) := by decide +kernel
theorem dX1_init_36 : decode cX1_init 36 = .ok (.iconst 0, 1) := by decide +kernel
theorem dX1_init_37 : decode cX1_init 37 = .ok (.putfield 32, 3) := by decide +kernel
theorem dX1_init_40 : decode cX1_init 40 = .ok (.aload_n 0, 1) := by decide +kernel
theorem dX1_init_41 : decode cX1_init 41 = .ok (.iconst 0, 1) := by decide +kernel
theorem dX1_init_42 : decode cX1_init 42 = .ok (.putfield 35, 3) := by decide +kernel
theorem dX1_init_45 : decode cX1_init 45 = .ok (.aload_n 0, 1) := by decide +kernel
theorem dX1_init_46 : decode cX1_init 46 = .ok (.iconst 0, 1) := by decide +kernel
theorem dX1_init_47 : decode cX1_init 47 = .ok (.putfield 38, 3) := by decide +kernel
theorem dX1_init_50 : decode cX1_init 50 = .ok (.aload_n 0, 1) := by decide +kernel
theorem dX1_init_51 : decode cX1_init 51 = .ok (.iconst 0, 1) := by decide +kernel
theorem dX1_init_52 : decode cX1_init 52 = .ok (.putfield 41, 3) := by decide +kernel
theorem dX1_init_55 : decode cX1_init 55 = .ok (.aload_n 0, 1) := by decide +kernel
theorem dX1_init_56 : decode cX1_init 56 = .ok (.iconst 0, 1) := by decide +kernel
theorem dX1_init_57 : decode cX1_init 57 = .ok (.putfield 44, 3) := by decide +kernel
theorem dX1_init_60 : decode cX1_init 60 = .ok (.aload_n 0, 1) := by decide +kernel
theorem dX1_init_61 : decode cX1_init 61 = .ok (.iconst 0, 1) := by decide +kernel
theorem dX1_init_62 : decode cX1_init 62 = .ok (.putfield 47, 3) := by decide +kernel
theorem dX1_init_65 : decode cX1_init 65 = .ok (.aload_n 0, 1) := by decide +kernel
theorem dX1_init_66 : decode cX1_init 66 = .ok (.iconst 0, 1) := by decide +kernel
theorem dX1_init_67 : decode cX1_init 67 = .ok (.putfield 50, 3) := by decide +kernel
theorem dX1_init_70 : decode cX1_init 70 = .ok (.aload_n 0, 1) := by decide +kernel
theorem dX1_init_71 : decode cX1_init 71 = .ok (.iconst 0, 1) := by decide +kernel
theorem dX1_init_72 : decode cX1_init 72 = .ok (.putfield 54, 3) := by decide +kernel
theorem dX1_init_75 : decode cX1_init 75 = .ok (.aload_n 0, 1) := by decide +kernel
theorem dX1_init_76 : decode cX1_init 76 = .ok (.iconst 0, 1) := by decide +kernel
theorem dX1_init_77 : decode cX1_init 77 = .ok (.putfield 57, 3) := by decide +kernel
theorem dX1_init_80 : decode cX1_init 80 = .ok (.aload_n 0, 1) := by decide +kernel
theorem dX1_init_81 : decode cX1_init 81 = .ok (.iload_n 1, 1) := by decide +kernel
theorem dX1_init_82 : decode cX1_init 82 = .ok (.putfield 60, 3) := by decide +kernel
theorem dX1_init_85 : decode cX1_init 85 = .ok (.aload_n 0, 1) := by decide +kernel
theorem dX1_init_86 : decode cX1_init 86 = .ok (.aload_n 2, 1) := by decide +kernel
theorem dX1_init_87 : decode cX1_init 87 = .ok (.putfield 63, 3) := by decide +kernel
theorem dX1_init_90 : decode cX1_init 90 = .ok (.aload_n 0, 1) := by decide +kernel
theorem dX1_init_91 : decode cX1_init 91 = .ok (.aload_n 3, 1) := by decide +kernel
theorem dX1_init_92 : decode cX1_init 92 = .ok (.putfield 67, 3) := by decide +kernel
theorem dX1_init_95 : decode cX1_init 95 = .ok (.iconst 0, 1) := by decide +kernel
theorem dX1_init_96 : decode cX1_init 96 = .ok (.istore 4, 2) := by decide +kernel
theorem dX1_init_98 : decode cX1_init 98 = .ok (.iload 4, 2) := by decide +kernel
theorem dX1_init_100 : decode cX1_init 100 = .ok (.iconst 4, 1) := by decide +kernel
theorem dX1_init_101 : decode cX1_init 101 = .ok (.if_icmp .ge 23, 3) := by decide +kernel
theorem dX1_init_104 : decode cX1_init 104 = .ok (.aload_n 0, 1) := by decide +kernel
theorem dX1_init_105 : decode cX1_init 105 = .ok (.getfield 11, 3) := by decide +kernel
theorem dX1_init_108 : decode cX1_init 108 = .ok (.iload 4, 2) := by decide +kernel
theorem dX1_init_110 : decode cX1_init 110 = .ok (.new 9, 3) := by decide +kernel
theorem dX1_init_113 : decode cX1_init 113 = .ok (.dup, 1) := by decide +kernel
theorem dX1_init_114 : decode cX1_init 114 = .ok (.invokespecial 71, 3) := by decide +kernel
theorem dX1_init_117 : decode cX1_init 117 = .ok (.aastore, 1) := by decide +kernel
theorem dX1_init_118 : decode cX1_init 118 = .ok (.iinc 4 1, 3) := by decide +kernel
theorem dX1_init_121 : decode cX1_init 121 = .ok (.goto (-23), 3) := by decide +kernel
theorem dX1_init_124 : decode cX1_init 124 = .ok (.return_, 1) := by decide +kernel
theorem dX1_reset_0 : decode cX1_reset 0 = .ok (.aload_n 0, 1) := by decide +kernel
theorem dX1_reset_1 : decode cX1_reset 1 = .ok (.iconst 0, 1) := by decide +kernel
theorem dX1_reset_2 : decode cX1_reset 2 = .ok (.invokevirtual 72, 3) := by decide +kernel
theorem dX1_reset_5 : decode cX1_reset 5 = .ok (.aload_n 0, 1) := by decide +kernel
theorem dX1_reset_6 : decode cX1_reset 6 = .ok (.iconst 0, 1) := by decide +kernel
theorem dX1_reset_7 : decode cX1_reset 7 = .ok (.iconst 0, 1) := by decide +kernel
theorem dX1_reset_8 : decode cX1_reset 8 = .ok (.invokevirtual 76, 3) := by decide +kernel
theorem dX1_reset_11 : decode cX1_reset 11 = .ok (.return_, 1) := by decide +kernel
theorem dX1_restart_0 : decode cX1_restart 0 = .ok (.aload_n 0, 1) := by decide +kernel
theorem dX1_restart_1 : decode cX1_restart 1 = .ok (.iload_n 1, 1) := by decide +kernel
theorem dX1_restart_2 : decode cX1_restart 2 = .ok (.putfield 28, 3) := by decide +kernel
theorem dX1_restart_5 : decode cX1_restart 5 = .ok (.aload_n 0, 1) := by decide +kernel
theorem dX1_restart_6 : decode cX1_restart 6 = .ok (.iconst 0, 1) := by decide +kernel
theorem dX1_restart_7 : decode cX1_restart 7 = .ok (.putfield 32, 3) := by decide +kernel
theorem dX1_restart_10 : decode cX1_restart 10 = .ok (.aload_n 0, 1) := by decide +kernel
theorem dX1_restart_11 : decode cX1_restart 11 = .ok (.iconst 0, 1) := by decide +kernel
theorem dX1_restart_12 : decode cX1_restart 12 = .ok (.putfield 35, 3) := by decide +kernel
theorem dX1_restart_15 : decode cX1_restart 15 = .ok (.aload_n 0, 1) := by decide +kernel
theorem dX1_restart_16 : decode cX1_restart 16 = .ok (.iconst 0, 1) := by decide +kernel
theorem dX1_restart_17 : decode cX1_restart 17 = .ok (.putfield 38, 3) := by decide +kernel
theorem dX1_restart_20 : decode cX1_restart 20 = .ok (.aload_n 0, 1) := by decide +kernel
theorem dX1_restart_21 : decode cX1_restart 21 = .ok (.iconst 0, 1) := by decide +kernel
theorem dX1_restart_22 : decode cX1_restart 22 = .ok (.putfield 41, 3) := by decide +kernel
theorem dX1_restart_25 : decode cX1_restart 25 = .ok (.aload_n 0, 1) := by decide +kernel
theorem dX1_restart_26 : decode cX1_restart 26 = .ok (.iconst 0, 1) := by decide +kernel
theorem dX1_restart_27 : decode cX1_restart 27 = .ok (.putfield 44, 3) := by decide +kernel
theorem dX1_restart_30 : decode cX1_restart 30 = .ok (.aload_n 0, 1) := by decide +kernel
theorem dX1_restart_31 : decode cX1_restart 31 = .ok (.iconst 0, 1) := by decide +kernel
theorem dX1_restart_32 : decode cX1_restart 32 = .ok (.putfield 47, 3) := by decide +kernel
theorem dX1_restart_35 : decode cX1_restart 35 = .ok (.aload_n 0, 1) := by decide +kernel
theorem dX1_restart_36 : decode cX1_restart 36 = .ok (.iconst 0, 1) := by decide +kernel
theorem dX1_restart_37 : decode cX1_restart 37 = .ok (.putfield 50, 3) := by decide +kernel
theorem dX1_restart_40 : decode cX1_restart 40 = .ok (.aload_n 0, 1) := by decide +kernel
theorem dX1_restart_41 : decode cX1_restart 41 = .ok (.getfield 24, 3) := by decide +kernel
theorem dX1_restart_44 : decode cX1_restart 44 = .ok (.iconst 0, 1) := by decide +kernel
theorem dX1_restart_45 : decode cX1_restart 45 = .ok (.putfield 80, 3) := by decide +kernel
theorem dX1_restart_48 : decode cX1_restart 48 = .ok (.return_, 1) := by decide +kernel
theorem dX1_setAim_0 : decode cX1_setAim 0 = .ok (.aload_n 0, 1) := by decide +kernel
theorem dX1_setAim_1 : decode cX1_setAim 1 = .ok (.iload_n 1, 1) := by decide +kernel
theorem dX1_setAim_2 : decode cX1_setAim 2 = .ok (.putfield 54, 3) := by decide +kernel
theorem dX1_setAim_5 : decode cX1_setAim 5 = .ok (.aload_n 0, 1) := by decide +kernel
theorem dX1_setAim_6 : decode cX1_setAim 6 = .ok (.iload_n 2, 1) := by decide +kernel
theorem dX1_setAim_7 : decode cX1_setAim 7 = .ok (.putfield 57, 3) := by decide +kernel
theorem dX1_setAim_10 : decode cX1_setAim 10 = .ok (.return_, 1) := by decide +kernel
theorem dX1_postWork_0 : decode cX1_postWork 0 = .ok (.aload_n 0, 1) := by decide +kernel
theorem dX1_postWork_1 : decode cX1_postWork 1 = .ok (.getfield 28, 3) := by decide +kernel
theorem dX1_postWork_4 : decode cX1_postWork 4 = .ok (.iconst 1, 1) := by decide +kernel
theorem dX1_postWork_5 : decode cX1_postWork 5 = .ok (.if_icmp .eq 7, 3) := by decide +kernel
theorem dX1_postWork_8 : decode cX1_postWork 8 = .ok (.sipush (-1003), 3) := by decide +kernel
theorem dX1_postWork_11 : decode cX1_postWork 11 = .ok (.ireturn, 1) := by decide +kernel
theorem dX1_postWork_12 : decode cX1_postWork 12 = .ok (.aload_n 0, 1) := by decide +kernel
theorem dX1_postWork_13 : decode cX1_postWork 13 = .ok (.getfield 35, 3) := by decide +kernel
theorem dX1_postWork_16 : decode cX1_postWork 16 = .ok (.iconst 4, 1) := by decide +kernel
theorem dX1_postWork_17 : decode cX1_postWork 17 = .ok (.if_icmp .ge 18, 3) := by decide +kernel
theorem dX1_postWork_20 : decode cX1_postWork 20 = .ok (.iload_n 1, 1) := by decide +kernel
theorem dX1_postWork_21 : decode cX1_postWork 21 = .ok (.invokestatic 83, 3) := by decide +kernel
theorem dX1_postWork_24 : decode cX1_postWork 24 = .ok (.ifCond .eq 15, 3) := by decide +kernel
theorem dX1_postWork_27 : decode cX1_postWork 27 = .ok (.aload_n 0, 1) := by decide +kernel
theorem dX1_postWork_28 : decode cX1_postWork 28 = .ok (.invokevirtual 87, 3) := by decide +kernel
theorem dX1_postWork_31 : decode cX1_postWork 31 = .ok (.iconst 2, 1) := by decide +kernel
theorem dX1_postWork_32 : decode cX1_postWork 32 = .ok (.if_icmp .lt 7, 3) := by decide +kernel
theorem dX1_postWork_35 : decode cX1_postWork 35 = .ok (.sipush (-1004), 3) := by decide +kernel
theorem dX1_postWork_38 : decode cX1_postWork 38 = .ok (.ireturn, 1) := by decide +kernel
theorem dX1_postWork_39 : decode cX1_postWork 39 = .ok (.aload_n 0, 1) := by decide +kernel
theorem dX1_postWork_40 : decode cX1_postWork 40 = .ok (.getfield 11, 3) := by decide +kernel
theorem dX1_postWork_43 : decode cX1_postWork 43 = .ok (.aload_n 0, 1) := by decide +kernel
theorem dX1_postWork_44 : decode cX1_postWork 44 = .ok (.getfield 35, 3) := by decide +kernel
theorem dX1_postWork_47 : decode cX1_postWork 47 = .ok (.aaload, 1) := by decide +kernel
theorem dX1_postWork_48 : decode cX1_postWork 48 = .ok (.astore 5, 2) := by decide +kernel
theorem dX1_postWork_50 : decode cX1_postWork 50 = .ok (.aload_n 0, 1) := by decide +kernel
theorem dX1_postWork_51 : decode cX1_postWork 51 = .ok (.dup, 1) := by decide +kernel
theorem dX1_postWork_52 : decode cX1_postWork 52 = .ok (.getfield 35, 3) := by decide +kernel
theorem dX1_postWork_55 : decode cX1_postWork 55 = .ok (.iconst 1, 1) := by decide +kernel
theorem dX1_postWork_56 : decode cX1_postWork 56 = .ok (.iadd, 1) := by decide +kernel
theorem dX1_postWork_57 : decode cX1_postWork 57 = .ok (.putfield 35, 3) := by decide +kernel
theorem dX1_postWork_60 : decode cX1_postWork 60 = .ok (.aload 5, 2) := by decide +kernel
theorem dX1_postWork_62 : decode cX1_postWork 62 = .ok (.aload_n 0, 1) := by decide +kernel
theorem dX1_postWork_63 : decode cX1_postWork 63 = .ok (.getfield 32, 3) := by decide +kernel
theorem dX1_postWork_66 : decode cX1_postWork 66 = .ok (.putfield 91, 3) := by decide +kernel
theorem dX1_postWork_69 : decode cX1_postWork 69 = .ok (.aload_n 0, 1) := by decide +kernel
theorem dX1_postWork_70 : decode cX1_postWork 70 = .ok (.dup, 1) := by decide +kernel
theorem dX1_postWork_71 : decode cX1_postWork 71 = .ok (.getfield 32, 3) := by decide +kernel
theorem dX1_postWork_74 : decode cX1_postWork 74 = .ok (.iconst 1, 1) := by decide +kernel
theorem dX1_postWork_75 : decode cX1_postWork 75 = .ok (.iadd, 1) := by decide +kernel
theorem dX1_postWork_76 : decode cX1_postWork 76 = .ok (.putfield 32, 3) := by decide +kernel
theorem dX1_postWork_79 : decode cX1_postWork 79 = .ok (.aload 5, 2) := by decide +kernel
theorem dX1_postWork_81 : decode cX1_postWork 81 = .ok (.iload_n 1, 1) := by decide +kernel
theorem dX1_postWork_82 : decode cX1_postWork 82 = .ok (.putfield 94, 3) := by decide +kernel
theorem dX1_postWork_85 : decode cX1_postWork 85 = .ok (.aload 5, 2) := by decide +kernel
theorem dX1_postWork_87 : decode cX1_postWork 87 = .ok (.aload_n 0, 1) := by decide +kernel
theorem dX1_postWork_88 : decode cX1_postWork 88 = .ok (.getfield 54, 3) := by decide +kernel
theorem dX1_postWork_91 : decode cX1_postWork 91 = .ok (.putfield 97, 3) := by decide +kernel
theorem dX1_postWork_94 : decode cX1_postWork 94 = .ok (.aload 5, 2) := by decide +kernel
theorem dX1_postWork_96 : decode cX1_postWork 96 = .ok (.aload_n 0, 1) := by decide +kernel
theorem dX1_postWork_97 : decode cX1_postWork 97 = .ok (.getfield 57, 3) := by decide +kernel
theorem dX1_postWork_100 : decode cX1_postWork 100 = .ok (.putfield 100, 3) := by decide +kernel
theorem dX1_postWork_103 : decode cX1_postWork 103 = .ok (.aload 5, 2) := by decide +kernel
theorem dX1_postWork_105 : decode cX1_postWork 105 = .ok (.iload_n 2, 1) := by decide +kernel
theorem dX1_postWork_106 : decode cX1_postWork 106 = .ok (.putfield 103, 3) := by decide +kernel
theorem dX1_postWork_109 : decode cX1_postWork 109 = .ok (.aload 5, 2) := by decide +kernel
theorem dX1_postWork_111 : decode cX1_postWork 111 = .ok (.iload_n 3, 1) := by decide +kernel
theorem dX1_postWork_112 : decode cX1_postWork 112 = .ok (.putfield 106, 3) := by decide +kernel
theorem dX1_postWork_115 : decode cX1_postWork 115 = .ok (.aload 5, 2) := by decide +kernel
theorem dX1_postWork_117 : decode cX1_postWork 117 = .ok (.iload 4, 2) := by decide +kernel
theorem dX1_postWork_119 : decode cX1_postWork 119 = .ok (.putfield 109, 3) := by decide +kernel
theorem dX1_postWork_122 : decode cX1_postWork 122 = .ok (.aload_n 0, 1) := by decide +kernel
theorem dX1_postWork_123 : decode cX1_postWork 123 = .ok (.aload 5, 2) := by decide +kernel
theorem dX1_postWork_125 : decode cX1_postWork 125 = .ok (.invokevirtual 112, 3) := by decide +kernel
theorem dX1_postWork_128 : decode cX1_postWork 128 = .ok (.aload 5, 2) := by decide +kernel
theorem dX1_postWork_130 : decode cX1_postWork 130 = .ok (.getfield 91, 3) := by decide +kernel
theorem dX1_postWork_133 : decode cX1_postWork 133 = .ok (.ireturn, 1) := by decide +kernel
theorem dX1_openFetches_0 : decode cX1_openFetches 0 = .ok (.iconst 0, 1) := by decide +kernel
theorem dX1_openFetches_1 : decode cX1_openFetches 1 = .ok (.istore_n 1, 1) := by decide +kernel
theorem dX1_openFetches_2 : decode cX1_openFetches 2 = .ok (.iconst 0, 1) := by decide +kernel
theorem dX1_openFetches_3 : decode cX1_openFetches 3 = .ok (.istore_n 2, 1) := by decide +kernel
theorem dX1_openFetches_4 : decode cX1_openFetches 4 = .ok (.iload_n 2, 1) := by decide +kernel
theorem dX1_openFetches_5 : decode cX1_openFetches 5 = .ok (.aload_n 0, 1) := by decide +kernel
theorem dX1_openFetches_6 : decode cX1_openFetches 6 = .ok (.getfield 35, 3) := by decide +kernel
theorem dX1_openFetches_9 : decode cX1_openFetches 9 = .ok (.if_icmp .ge 27, 3) := by decide +kernel
theorem dX1_openFetches_12 : decode cX1_openFetches 12 = .ok (.aload_n 0, 1) := by decide +kernel
theorem dX1_openFetches_13 : decode cX1_openFetches 13 = .ok (.getfield 11, 3) := by decide +kernel
theorem dX1_openFetches_16 : decode cX1_openFetches 16 = .ok (.iload_n 2, 1) := by decide +kernel
theorem dX1_openFetches_17 : decode cX1_openFetches 17 = .ok (.aaload, 1) := by decide +kernel
theorem dX1_openFetches_18 : decode cX1_openFetches 18 = .ok (.getfield 94, 3) := by decide +kernel
theorem dX1_openFetches_21 : decode cX1_openFetches 21 = .ok (.invokestatic 83, 3) := by decide +kernel
theorem dX1_openFetches_24 : decode cX1_openFetches 24 = .ok (.ifCond .eq 6, 3) := by decide +kernel
theorem dX1_openFetches_27 : decode cX1_openFetches 27 = .ok (.iinc 1 1, 3) := by decide +kernel
theorem dX1_openFetches_30 : decode cX1_openFetches 30 = .ok (.iinc 2 1, 3) := by decide +kernel
theorem dX1_openFetches_33 : decode cX1_openFetches 33 = .ok (.goto (-29), 3) := by decide +kernel
theorem dX1_openFetches_36 : decode cX1_openFetches 36 = .ok (.iload_n 1, 1) := by decide +kernel
theorem dX1_openFetches_37 : decode cX1_openFetches 37 = .ok (.ireturn, 1) := by decide +kernel
theorem dX1_postReceive_0 : decode cX1_postReceive 0 = .ok (.aload_n 0, 1) := by decide +kernel
theorem dX1_postReceive_1 : decode cX1_postReceive 1 = .ok (.getfield 28, 3) := by decide +kernel
theorem dX1_postReceive_4 : decode cX1_postReceive 4 = .ok (.iconst 1, 1) := by decide +kernel
theorem dX1_postReceive_5 : decode cX1_postReceive 5 = .ok (.if_icmp .eq 7, 3) := by decide +kernel
theorem dX1_postReceive_8 : decode cX1_postReceive 8 = .ok (.sipush (-1003), 3) := by decide +kernel
theorem dX1_postReceive_11 : decode cX1_postReceive 11 = .ok (.ireturn, 1) := by decide +kernel
theorem dX1_postReceive_12 : decode cX1_postReceive 12 = .ok (.aload_n 0, 1) := by decide +kernel
theorem dX1_postReceive_13 : decode cX1_postReceive 13 = .ok (.getfield 41, 3) := by decide +kernel
theorem dX1_postReceive_16 : decode cX1_postReceive 16 = .ok (.iconst 3, 1) := by decide +kernel
theorem dX1_postReceive_17 : decode cX1_postReceive 17 = .ok (.if_icmp .lt 7, 3) := by decide +kernel
theorem dX1_postReceive_20 : decode cX1_postReceive 20 = .ok (.sipush (-1004), 3) := by decide +kernel
theorem dX1_postReceive_23 : decode cX1_postReceive 23 = .ok (.ireturn, 1) := by decide +kernel
theorem dX1_postReceive_24 : decode cX1_postReceive 24 = .ok (.aload_n 0, 1) := by decide +kernel
theorem dX1_postReceive_25 : decode cX1_postReceive 25 = .ok (.getfield 17, 3) := by decide +kernel
theorem dX1_postReceive_28 : decode cX1_postReceive 28 = .ok (.aload_n 0, 1) := by decide +kernel
theorem dX1_postReceive_29 : decode cX1_postReceive 29 = .ok (.getfield 41, 3) := by decide +kernel
theorem dX1_postReceive_32 : decode cX1_postReceive 32 = .ok (.iload_n 1, 1) := by decide +kernel
theorem dX1_postReceive_33 : decode cX1_postReceive 33 = .ok (.iastore, 1) := by decide +kernel
theorem dX1_postReceive_34 : decode cX1_postReceive 34 = .ok (.aload_n 0, 1) := by decide +kernel
theorem dX1_postReceive_35 : decode cX1_postReceive 35 = .ok (.dup, 1) := by decide +kernel
theorem dX1_postReceive_36 : decode cX1_postReceive 36 = .ok (.getfield 41, 3) := by decide +kernel
theorem dX1_postReceive_39 : decode cX1_postReceive 39 = .ok (.iconst 1, 1) := by decide +kernel
theorem dX1_postReceive_40 : decode cX1_postReceive 40 = .ok (.iadd, 1) := by decide +kernel
theorem dX1_postReceive_41 : decode cX1_postReceive 41 = .ok (.putfield 41, 3) := by decide +kernel
theorem dX1_postReceive_44 : decode cX1_postReceive 44 = .ok (.aload_n 0, 1) := by decide +kernel
theorem dX1_postReceive_45 : decode cX1_postReceive 45 = .ok (.getfield 41, 3) := by decide +kernel
theorem dX1_postReceive_48 : decode cX1_postReceive 48 = .ok (.ireturn, 1) := by decide +kernel
theorem dX1_request_0 : decode cX1_request 0 = .ok (.aload_n 0, 1) := by decide +kernel
theorem dX1_request_1 : decode cX1_request 1 = .ok (.getfield 67, 3) := by decide +kernel
theorem dX1_request_4 : decode cX1_request 4 = .ok (.aload_n 0, 1) := by decide +kernel
theorem dX1_request_5 : decode cX1_request 5 = .ok (.getfield 60, 3) := by decide +kernel
theorem dX1_request_8 : decode cX1_request 8 = .ok (.invokestatic 116, 3) := by decide +kernel
theorem dX1_request_11 : decode cX1_request 11 = .ok (.invokevirtual 120, 3) := by decide +kernel
theorem dX1_request_14 : decode cX1_request 14 = .ok (.astore_n 2, 1) := by decide +kernel
theorem dX1_request_15 : decode cX1_request 15 = .ok (.aload_n 2, 1) := by decide +kernel
theorem dX1_request_16 : decode cX1_request 16 = .ok (.ifnull 8, 3) := by decide +kernel
theorem dX1_request_19 : decode cX1_request 19 = .ok (.aload_n 2, 1) := by decide +kernel
theorem dX1_request_20 : decode cX1_request 20 = .ok (.aload_n 1, 1) := by decide +kernel
theorem dX1_request_21 : decode cX1_request 21 = .ok (.invokevirtual 126, 3) := by decide +kernel
theorem dX1_request_24 : decode cX1_request 24 = .ok (.return_, 1) := by decide +kernel
theorem dX1_answer_0 : decode cX1_answer 0 = .ok (.aload_n 0, 1) := by decide +kernel
theorem dX1_answer_1 : decode cX1_answer 1 = .ok (.getfield 67, 3) := by decide +kernel
theorem dX1_answer_4 : decode cX1_answer 4 = .ok (.aload_n 0, 1) := by decide +kernel
theorem dX1_answer_5 : decode cX1_answer 5 = .ok (.getfield 60, 3) := by decide +kernel
theorem dX1_answer_8 : decode cX1_answer 8 = .ok (.invokestatic 116, 3) := by decide +kernel
theorem dX1_answer_11 : decode cX1_answer 11 = .ok (.invokevirtual 120, 3) := by decide +kernel
theorem dX1_answer_14 : decode cX1_answer 14 = .ok (.astore 4, 2) := by decide +kernel
theorem dX1_answer_16 : decode cX1_answer 16 = .ok (.aload 4, 2) := by decide +kernel
theorem dX1_answer_18 : decode cX1_answer 18 = .ok (.ifnull 11, 3) := by decide +kernel
theorem dX1_answer_21 : decode cX1_answer 21 = .ok (.aload 4, 2) := by decide +kernel
theorem dX1_answer_23 : decode cX1_answer 23 = .ok (.iload_n 1, 1) := by decide +kernel
theorem dX1_answer_24 : decode cX1_answer 24 = .ok (.iload_n 2, 1) := by decide +kernel
theorem dX1_answer_25 : decode cX1_answer 25 = .ok (.iload_n 3, 1) := by decide +kernel
theorem dX1_answer_26 : decode cX1_answer 26 = .ok (.invokevirtual 131, 3) := by decide +kernel
theorem dX1_answer_29 : decode cX1_answer 29 = .ok (.return_, 1) := by decide +kernel
theorem dX1_meet_0 : decode cX1_meet 0 = .ok (.aload_n 0, 1) := by decide +kernel
theorem dX1_meet_1 : decode cX1_meet 1 = .ok (.getfield 28, 3) := by decide +kernel
theorem dX1_meet_4 : decode cX1_meet 4 = .ok (.iconst 1, 1) := by decide +kernel
theorem dX1_meet_5 : decode cX1_meet 5 = .ok (.if_icmp .eq 4, 3) := by decide +kernel
theorem dX1_meet_8 : decode cX1_meet 8 = .ok (.return_, 1) := by decide +kernel
theorem dX1_meet_9 : decode cX1_meet 9 = .ok (.aload_n 1, 1) := by decide +kernel
theorem dX1_meet_10 : decode cX1_meet 10 = .ok (.getfield 135, 3) := by decide +kernel
theorem dX1_meet_13 : decode cX1_meet 13 = .ok (.ifCond .eq 11, 3) := by decide +kernel
theorem dX1_meet_16 : decode cX1_meet 16 = .ok (.aload_n 0, 1) := by decide +kernel
theorem dX1_meet_17 : decode cX1_meet 17 = .ok (.aload_n 1, 1) := by decide +kernel
theorem dX1_meet_18 : decode cX1_meet 18 = .ok (.invokevirtual 138, 3) := by decide +kernel
theorem dX1_meet_21 : decode cX1_meet 21 = .ok (.goto 45, 3) := by decide +kernel
theorem dX1_meet_24 : decode cX1_meet 24 = .ok (.aload_n 1, 1) := by decide +kernel
theorem dX1_meet_25 : decode cX1_meet 25 = .ok (.getfield 142, 3) := by decide +kernel
theorem dX1_meet_28 : decode cX1_meet 28 = .ok (.aload_n 0, 1) := by decide +kernel
theorem dX1_meet_29 : decode cX1_meet 29 = .ok (.getfield 38, 3) := by decide +kernel
theorem dX1_meet_32 : decode cX1_meet 32 = .ok (.if_icmp .le 10, 3) := by decide +kernel
theorem dX1_meet_35 : decode cX1_meet 35 = .ok (.aload_n 0, 1) := by decide +kernel
theorem dX1_meet_36 : decode cX1_meet 36 = .ok (.invokevirtual 143, 3) := by decide +kernel
theorem dX1_meet_39 : decode cX1_meet 39 = .ok (.goto 27, 3) := by decide +kernel
theorem dX1_meet_42 : decode cX1_meet 42 = .ok (.aload_n 1, 1) := by decide +kernel
theorem dX1_meet_43 : decode cX1_meet 43 = .ok (.getfield 142, 3) := by decide +kernel
theorem dX1_meet_46 : decode cX1_meet 46 = .ok (.aload_n 0, 1) := by decide +kernel
theorem dX1_meet_47 : decode cX1_meet 47 = .ok (.getfield 38, 3) := by decide +kernel
theorem dX1_meet_50 : decode cX1_meet 50 = .ok (.if_icmp .ge 11, 3) := by decide +kernel
theorem dX1_meet_53 : decode cX1_meet 53 = .ok (.aload_n 0, 1) := by decide +kernel
theorem dX1_meet_54 : decode cX1_meet 54 = .ok (.aload_n 1, 1) := by decide +kernel
theorem dX1_meet_55 : decode cX1_meet 55 = .ok (.invokevirtual 146, 3) := by decide +kernel
theorem dX1_meet_58 : decode cX1_meet 58 = .ok (.goto 8, 3) := by decide +kernel
theorem dX1_meet_61 : decode cX1_meet 61 = .ok (.aload_n 0, 1) := by decide +kernel
theorem dX1_meet_62 : decode cX1_meet 62 = .ok (.aload_n 1, 1) := by decide +kernel
theorem dX1_meet_63 : decode cX1_meet 63 = .ok (.invokevirtual 149, 3) := by decide +kernel
theorem dX1_meet_66 : decode cX1_meet 66 = .ok (.return_, 1) := by decide +kernel
theorem dX1_complain_0 : decode cX1_complain 0 = .ok (.aload_n 0, 1) := by decide +kernel
theorem dX1_complain_1 : decode cX1_complain 1 = .ok (.getfield 50, 3) := by decide +kernel
theorem dX1_complain_4 : decode cX1_complain 4 = .ok (.ifCond .ne 18, 3) := by decide +kernel
theorem dX1_complain_7 : decode cX1_complain 7 = .ok (.aload_n 0, 1) := by decide +kernel
theorem dX1_complain_8 : decode cX1_complain 8 = .ok (.iconst 2, 1) := by decide +kernel
theorem dX1_complain_9 : decode cX1_complain 9 = .ok (.aload_n 0, 1) := by decide +kernel
theorem dX1_complain_10 : decode cX1_complain 10 = .ok (.getfield 38, 3) := by decide +kernel
theorem dX1_complain_13 : decode cX1_complain 13 = .ok (.iconst 0, 1) := by decide +kernel
theorem dX1_complain_14 : decode cX1_complain 14 = .ok (.invokevirtual 152, 3) := by decide +kernel
theorem dX1_complain_17 : decode cX1_complain 17 = .ok (.aload_n 0, 1) := by decide +kernel
theorem dX1_complain_18 : decode cX1_complain 18 = .ok (.iconst 1, 1) := by decide +kernel
theorem dX1_complain_19 : decode cX1_complain 19 = .ok (.putfield 50, 3) := by decide +kernel
theorem dX1_complain_22 : decode cX1_complain 22 = .ok (.return_, 1) := by decide +kernel
theorem dX1_meetOldRequest_0 : decode cX1_meetOldRequest 0 = .ok (.iconst 0, 1) := by decide +kernel
theorem dX1_meetOldRequest_1 : decode cX1_meetOldRequest 1 = .ok (.istore_n 2, 1) := by decide +kernel
theorem dX1_meetOldRequest_2 : decode cX1_meetOldRequest 2 = .ok (.aload_n 1, 1) := by decide +kernel
theorem dX1_meetOldRequest_3 : decode cX1_meetOldRequest 3 = .ok (.getfield 155, 3) := by decide +kernel
theorem dX1_meetOldRequest_6 : decode cX1_meetOldRequest 6 = .ok (.iconst 2, 1) := by decide +kernel
theorem dX1_meetOldRequest_7 : decode cX1_meetOldRequest 7 = .ok (.if_icmp .ne 12, 3) := by decide +kernel
theorem dX1_meetOldRequest_10 : decode cX1_meetOldRequest 10 = .ok (.aload_n 0, 1) := by decide +kernel
theorem dX1_meetOldRequest_11 : decode cX1_meetOldRequest 11 = .ok (.aload_n 1, 1) := by decide +kernel
theorem dX1_meetOldRequest_12 : decode cX1_meetOldRequest 12 = .ok (.invokevirtual 156, 3) := by decide +kernel
theorem dX1_meetOldRequest_15 : decode cX1_meetOldRequest 15 = .ok (.istore_n 2, 1) := by decide +kernel
theorem dX1_meetOldRequest_16 : decode cX1_meetOldRequest 16 = .ok (.goto 25, 3) := by decide +kernel
theorem dX1_meetOldRequest_19 : decode cX1_meetOldRequest 19 = .ok (.aload_n 1, 1) := by decide +kernel
theorem dX1_meetOldRequest_20 : decode cX1_meetOldRequest 20 = .ok (.getfield 155, 3) := by decide +kernel
theorem dX1_meetOldRequest_23 : decode cX1_meetOldRequest 23 = .ok (.invokestatic 83, 3) := by decide +kernel
theorem dX1_meetOldRequest_26 : decode cX1_meetOldRequest 26 = .ok (.ifCond .eq 15, 3) := by decide +kernel
theorem dX1_meetOldRequest_29 : decode cX1_meetOldRequest 29 = .ok (.aload_n 0, 1) := by decide +kernel
theorem dX1_meetOldRequest_30 : decode cX1_meetOldRequest 30 = .ok (.getfield 24, 3) := by decide +kernel
theorem dX1_meetOldRequest_33 : decode cX1_meetOldRequest 33 = .ok (.aload_n 1, 1) := by decide +kernel
theorem dX1_meetOldRequest_34 : decode cX1_meetOldRequest 34 = .ok (.getfield 142, 3) := by decide +kernel
theorem dX1_meetOldRequest_37 : decode cX1_meetOldRequest 37 = .ok (.invokevirtual 160, 3) := by decide +kernel
theorem dX1_meetOldRequest_40 : decode cX1_meetOldRequest 40 = .ok (.istore_n 2, 1) := by decide +kernel
theorem dX1_meetOldRequest_41 : decode cX1_meetOldRequest 41 = .ok (.iload_n 2, 1) := by decide +kernel
theorem dX1_meetOldRequest_42 : decode cX1_meetOldRequest 42 = .ok (.iconst (-1), 1) := by decide +kernel
theorem dX1_meetOldRequest_43 : decode cX1_meetOldRequest 43 = .ok (.if_icmp .eq 13, 3) := by decide +kernel
theorem dX1_meetOldRequest_46 : decode cX1_meetOldRequest 46 = .ok (.aload_n 0, 1) := by decide +kernel
theorem dX1_meetOldRequest_47 : decode cX1_meetOldRequest 47 = .ok (.iconst 1, 1) := by decide +kernel
theorem dX1_meetOldRequest_48 : decode cX1_meetOldRequest 48 = .ok (.aload_n 1, 1) := by decide +kernel
theorem dX1_meetOldRequest_49 : decode cX1_meetOldRequest 49 = .ok (.getfield 142, 3) := by decide +kernel
theorem dX1_meetOldRequest_52 : decode cX1_meetOldRequest 52 = .ok (.iload_n 2, 1) := by decide +kernel
theorem dX1_meetOldRequest_53 : decode cX1_meetOldRequest 53 = .ok (.invokevirtual 152, 3) := by decide +kernel
theorem dX1_meetOldRequest_56 : decode cX1_meetOldRequest 56 = .ok (.return_, 1) := by decide +kernel
theorem dX1_meetExpected_0 : decode cX1_meetExpected 0 = .ok (.aload_n 1, 1) := by decide +kernel
theorem dX1_meetExpected_1 : decode cX1_meetExpected 1 = .ok (.getfield 155, 3) := by decide +kernel
theorem dX1_meetExpected_4 : decode cX1_meetExpected 4 = .ok (.ifCond .ne 11, 3) := by decide +kernel
theorem dX1_meetExpected_7 : decode cX1_meetExpected 7 = .ok (.aload_n 0, 1) := by decide +kernel
theorem dX1_meetExpected_8 : decode cX1_meetExpected 8 = .ok (.aload_n 1, 1) := by decide +kernel
theorem dX1_meetExpected_9 : decode cX1_meetExpected 9 = .ok (.invokevirtual 163, 3) := by decide +kernel
theorem dX1_meetExpected_12 : decode cX1_meetExpected 12 = .ok (.goto 8, 3) := by decide +kernel
theorem dX1_meetExpected_15 : decode cX1_meetExpected 15 = .ok (.aload_n 0, 1) := by decide +kernel
theorem dX1_meetExpected_16 : decode cX1_meetExpected 16 = .ok (.aload_n 1, 1) := by decide +kernel
theorem dX1_meetExpected_17 : decode cX1_meetExpected 17 = .ok (.invokevirtual 156, 3) := by decide +kernel
theorem dX1_meetExpected_20 : decode cX1_meetExpected 20 = .ok (.istore_n 2, 1) := by decide +kernel
theorem dX1_meetExpected_21 : decode cX1_meetExpected 21 = .ok (.iload_n 2, 1) := by decide +kernel
theorem dX1_meetExpected_22 : decode cX1_meetExpected 22 = .ok (.iconst (-1), 1) := by decide +kernel
theorem dX1_meetExpected_23 : decode cX1_meetExpected 23 = .ok (.if_icmp .eq 28, 3) := by decide +kernel
theorem dX1_meetExpected_26 : decode cX1_meetExpected 26 = .ok (.aload_n 0, 1) := by decide +kernel
theorem dX1_meetExpected_27 : decode cX1_meetExpected 27 = .ok (.aload_n 1, 1) := by decide +kernel
theorem dX1_meetExpected_28 : decode cX1_meetExpected 28 = .ok (.getfield 142, 3) := by decide +kernel
theorem dX1_meetExpected_31 : decode cX1_meetExpected 31 = .ok (.iconst 1, 1) := by decide +kernel
theorem dX1_meetExpected_32 : decode cX1_meetExpected 32 = .ok (.iadd, 1) := by decide +kernel
theorem dX1_meetExpected_33 : decode cX1_meetExpected 33 = .ok (.putfield 38, 3) := by decide +kernel
theorem dX1_meetExpected_36 : decode cX1_meetExpected 36 = .ok (.aload_n 0, 1) := by decide +kernel
theorem dX1_meetExpected_37 : decode cX1_meetExpected 37 = .ok (.iconst 0, 1) := by decide +kernel
theorem dX1_meetExpected_38 : decode cX1_meetExpected 38 = .ok (.putfield 50, 3) := by decide +kernel
theorem dX1_meetExpected_41 : decode cX1_meetExpected 41 = .ok (.aload_n 0, 1) := by decide +kernel
theorem dX1_meetExpected_42 : decode cX1_meetExpected 42 = .ok (.iconst 1, 1) := by decide +kernel
theorem dX1_meetExpected_43 : decode cX1_meetExpected 43 = .ok (.aload_n 1, 1) := by decide +kernel
theorem dX1_meetExpected_44 : decode cX1_meetExpected 44 = .ok (.getfield 142, 3) := by decide +kernel
theorem dX1_meetExpected_47 : decode cX1_meetExpected 47 = .ok (.iload_n 2, 1) := by decide +kernel
theorem dX1_meetExpected_48 : decode cX1_meetExpected 48 = .ok (.invokevirtual 152, 3) := by decide +kernel
theorem dX1_meetExpected_51 : decode cX1_meetExpected 51 = .ok (.return_, 1) := by decide +kernel
theorem dX1_takeIn_0 : decode cX1_takeIn 0 = .ok (.aload_n 0, 1) := by decide +kernel
theorem dX1_takeIn_1 : decode cX1_takeIn 1 = .ok (.getfield 41, 3) := by decide +kernel
theorem dX1_takeIn_4 : decode cX1_takeIn 4 = .ok (.ifCond .ne 15, 3) := by decide +kernel
theorem dX1_takeIn_7 : decode cX1_takeIn 7 = .ok (.aload_n 0, 1) := by decide +kernel
theorem dX1_takeIn_8 : decode cX1_takeIn 8 = .ok (.iconst 3, 1) := by decide +kernel
theorem dX1_takeIn_9 : decode cX1_takeIn 9 = .ok (.aload_n 1, 1) := by decide +kernel
theorem dX1_takeIn_10 : decode cX1_takeIn 10 = .ok (.getfield 142, 3) := by decide +kernel
theorem dX1_takeIn_13 : decode cX1_takeIn 13 = .ok (.iconst 0, 1) := by decide +kernel
theorem dX1_takeIn_14 : decode cX1_takeIn 14 = .ok (.invokevirtual 152, 3) := by decide +kernel
theorem dX1_takeIn_17 : decode cX1_takeIn 17 = .ok (.iconst (-1), 1) := by decide +kernel
theorem dX1_takeIn_18 : decode cX1_takeIn 18 = .ok (.ireturn, 1) := by decide +kernel
theorem dX1_takeIn_19 : decode cX1_takeIn 19 = .ok (.aload_n 0, 1) := by decide +kernel
theorem dX1_takeIn_20 : decode cX1_takeIn 20 = .ok (.getfield 63, 3) := by decide +kernel
theorem dX1_takeIn_23 : decode cX1_takeIn 23 = .ok (.getfield 166, 3) := by decide +kernel
theorem dX1_takeIn_26 : decode cX1_takeIn 26 = .ok (.aload_n 0, 1) := by decide +kernel
theorem dX1_takeIn_27 : decode cX1_takeIn 27 = .ok (.getfield 17, 3) := by decide +kernel
theorem dX1_takeIn_30 : decode cX1_takeIn 30 = .ok (.iconst 0, 1) := by decide +kernel
theorem dX1_takeIn_31 : decode cX1_takeIn 31 = .ok (.iaload, 1) := by decide +kernel
theorem dX1_takeIn_32 : decode cX1_takeIn 32 = .ok (.aload_n 1, 1) := by decide +kernel
theorem dX1_takeIn_33 : decode cX1_takeIn 33 = .ok (.getfield 171, 3) := by decide +kernel
theorem dX1_takeIn_36 : decode cX1_takeIn 36 = .ok (.iastore, 1) := by decide +kernel
theorem dX1_takeIn_37 : decode cX1_takeIn 37 = .ok (.iconst 1, 1) := by decide +kernel
theorem dX1_takeIn_38 : decode cX1_takeIn 38 = .ok (.istore_n 2, 1) := by decide +kernel
theorem dX1_takeIn_39 : decode cX1_takeIn 39 = .ok (.iload_n 2, 1) := by decide +kernel
theorem dX1_takeIn_40 : decode cX1_takeIn 40 = .ok (.aload_n 0, 1) := by decide +kernel
theorem dX1_takeIn_41 : decode cX1_takeIn 41 = .ok (.getfield 41, 3) := by decide +kernel
theorem dX1_takeIn_44 : decode cX1_takeIn 44 = .ok (.if_icmp .ge 23, 3) := by decide +kernel
theorem dX1_takeIn_47 : decode cX1_takeIn 47 = .ok (.aload_n 0, 1) := by decide +kernel
theorem dX1_takeIn_48 : decode cX1_takeIn 48 = .ok (.getfield 17, 3) := by decide +kernel
theorem dX1_takeIn_51 : decode cX1_takeIn 51 = .ok (.iload_n 2, 1) := by decide +kernel
theorem dX1_takeIn_52 : decode cX1_takeIn 52 = .ok (.iconst 1, 1) := by decide +kernel
theorem dX1_takeIn_53 : decode cX1_takeIn 53 = .ok (.isub, 1) := by decide +kernel
theorem dX1_takeIn_54 : decode cX1_takeIn 54 = .ok (.aload_n 0, 1) := by decide +kernel
theorem dX1_takeIn_55 : decode cX1_takeIn 55 = .ok (.getfield 17, 3) := by decide +kernel
theorem dX1_takeIn_58 : decode cX1_takeIn 58 = .ok (.iload_n 2, 1) := by decide +kernel
theorem dX1_takeIn_59 : decode cX1_takeIn 59 = .ok (.iaload, 1) := by decide +kernel
theorem dX1_takeIn_60 : decode cX1_takeIn 60 = .ok (.iastore, 1) := by decide +kernel
theorem dX1_takeIn_61 : decode cX1_takeIn 61 = .ok (.iinc 2 1, 3) := by decide +kernel
theorem dX1_takeIn_64 : decode cX1_takeIn 64 = .ok (.goto (-25), 3) := by decide +kernel
theorem dX1_takeIn_67 : decode cX1_takeIn 67 = .ok (.aload_n 0, 1) := by decide +kernel
theorem dX1_takeIn_68 : decode cX1_takeIn 68 = .ok (.dup, 1) := by decide +kernel
theorem dX1_takeIn_69 : decode cX1_takeIn 69 = .ok (.getfield 41, 3) := by decide +kernel
theorem dX1_takeIn_72 : decode cX1_takeIn 72 = .ok (.iconst 1, 1) := by decide +kernel
theorem dX1_takeIn_73 : decode cX1_takeIn 73 = .ok (.isub, 1) := by decide +kernel
theorem dX1_takeIn_74 : decode cX1_takeIn 74 = .ok (.putfield 41, 3) := by decide +kernel
theorem dX1_takeIn_77 : decode cX1_takeIn 77 = .ok (.aload_n 0, 1) := by decide +kernel
theorem dX1_takeIn_78 : decode cX1_takeIn 78 = .ok (.getfield 63, 3) := by decide +kernel
theorem dX1_takeIn_81 : decode cX1_takeIn 81 = .ok (.new 172, 3) := by decide +kernel
theorem dX1_takeIn_84 : decode cX1_takeIn 84 = .ok (.dup, 1) := by decide +kernel
theorem dX1_takeIn_85 : decode cX1_takeIn 85 = .ok (.aload_n 0, 1) := by decide +kernel
theorem dX1_takeIn_86 : decode cX1_takeIn 86 = .ok (.getfield 60, 3) := by decide +kernel
theorem dX1_takeIn_89 : decode cX1_takeIn 89 = .ok (.iconst 5, 1) := by decide +kernel
theorem dX1_takeIn_90 : decode cX1_takeIn 90 = .ok (.aload_n 1, 1) := by decide +kernel
theorem dX1_takeIn_91 : decode cX1_takeIn 91 = .ok (.getfield 142, 3) := by decide +kernel
theorem dX1_takeIn_94 : decode cX1_takeIn 94 = .ok (.iconst 0, 1) := by decide +kernel
theorem dX1_takeIn_95 : decode cX1_takeIn 95 = .ok (.aload_n 1, 1) := by decide +kernel
theorem dX1_takeIn_96 : decode cX1_takeIn 96 = .ok (.getfield 171, 3) := by decide +kernel
theorem dX1_takeIn_99 : decode cX1_takeIn 99 = .ok (.invokespecial 174, 3) := by decide +kernel
theorem dX1_takeIn_102 : decode cX1_takeIn 102 = .ok (.invokevirtual 177, 3) := by decide +kernel
theorem dX1_takeIn_105 : decode cX1_takeIn 105 = .ok (.iconst 0, 1) := by decide +kernel
theorem dX1_takeIn_106 : decode cX1_takeIn 106 = .ok (.ireturn, 1) := by decide +kernel
theorem dX1_reach_0 : decode cX1_reach 0 = .ok (.aload_n 0, 1) := by decide +kernel
theorem dX1_reach_1 : decode cX1_reach 1 = .ok (.aload_n 1, 1) := by decide +kernel
theorem dX1_reach_2 : decode cX1_reach 2 = .ok (.invokevirtual 181, 3) := by decide +kernel
theorem dX1_reach_5 : decode cX1_reach 5 = .ok (.istore_n 2, 1) := by decide +kernel
theorem dX1_reach_6 : decode cX1_reach 6 = .ok (.iload_n 2, 1) := by decide +kernel
theorem dX1_reach_7 : decode cX1_reach 7 = .ok (.ifCond .eq 19, 3) := by decide +kernel
theorem dX1_reach_10 : decode cX1_reach 10 = .ok (.aload_n 0, 1) := by decide +kernel
theorem dX1_reach_11 : decode cX1_reach 11 = .ok (.iconst 4, 1) := by decide +kernel
theorem dX1_reach_12 : decode cX1_reach 12 = .ok (.aload_n 1, 1) := by decide +kernel
theorem dX1_reach_13 : decode cX1_reach 13 = .ok (.getfield 142, 3) := by decide +kernel
theorem dX1_reach_16 : decode cX1_reach 16 = .ok (.iload_n 2, 1) := by decide +kernel
theorem dX1_reach_17 : decode cX1_reach 17 = .ok (.invokevirtual 152, 3) := by decide +kernel
theorem dX1_reach_20 : decode cX1_reach 20 = .ok (.aload_n 0, 1) := by decide +kernel
theorem dX1_reach_21 : decode cX1_reach 21 = .ok (.invokevirtual 184, 3) := by decide +kernel
theorem dX1_reach_24 : decode cX1_reach 24 = .ok (.iconst (-1), 1) := by decide +kernel
theorem dX1_reach_25 : decode cX1_reach 25 = .ok (.ireturn, 1) := by decide +kernel
theorem dX1_reach_26 : decode cX1_reach 26 = .ok (.aload_n 0, 1) := by decide +kernel
theorem dX1_reach_27 : decode cX1_reach 27 = .ok (.getfield 63, 3) := by decide +kernel
theorem dX1_reach_30 : decode cX1_reach 30 = .ok (.getfield 187, 3) := by decide +kernel
theorem dX1_reach_33 : decode cX1_reach 33 = .ok (.aload_n 1, 1) := by decide +kernel
theorem dX1_reach_34 : decode cX1_reach 34 = .ok (.getfield 191, 3) := by decide +kernel
theorem dX1_reach_37 : decode cX1_reach 37 = .ok (.aaload, 1) := by decide +kernel
theorem dX1_reach_38 : decode cX1_reach 38 = .ok (.getfield 192, 3) := by decide +kernel
theorem dX1_reach_41 : decode cX1_reach 41 = .ok (.aload_n 1, 1) := by decide +kernel
theorem dX1_reach_42 : decode cX1_reach 42 = .ok (.getfield 197, 3) := by decide +kernel
theorem dX1_reach_45 : decode cX1_reach 45 = .ok (.iadd, 1) := by decide +kernel
theorem dX1_reach_46 : decode cX1_reach 46 = .ok (.istore_n 3, 1) := by decide +kernel
theorem dX1_reach_47 : decode cX1_reach 47 = .ok (.aload_n 0, 1) := by decide +kernel
theorem dX1_reach_48 : decode cX1_reach 48 = .ok (.getfield 63, 3) := by decide +kernel
theorem dX1_reach_51 : decode cX1_reach 51 = .ok (.getfield 166, 3) := by decide +kernel
theorem dX1_reach_54 : decode cX1_reach 54 = .ok (.iload_n 3, 1) := by decide +kernel
theorem dX1_reach_55 : decode cX1_reach 55 = .ok (.iaload, 1) := by decide +kernel
theorem dX1_reach_56 : decode cX1_reach 56 = .ok (.istore 4, 2) := by decide +kernel
theorem dX1_reach_58 : decode cX1_reach 58 = .ok (.aload_n 1, 1) := by decide +kernel
theorem dX1_reach_59 : decode cX1_reach 59 = .ok (.getfield 155, 3) := by decide +kernel
theorem dX1_reach_62 : decode cX1_reach 62 = .ok (.iconst 2, 1) := by decide +kernel
theorem dX1_reach_63 : decode cX1_reach 63 = .ok (.if_icmp .ne 6, 3) := by decide +kernel
theorem dX1_reach_66 : decode cX1_reach 66 = .ok (.iload 4, 2) := by decide +kernel
theorem dX1_reach_68 : decode cX1_reach 68 = .ok (.ireturn, 1) := by decide +kernel
theorem dX1_reach_69 : decode cX1_reach 69 = .ok (.aload_n 1, 1) := by decide +kernel
theorem dX1_reach_70 : decode cX1_reach 70 = .ok (.getfield 155, 3) := by decide +kernel
theorem dX1_reach_73 : decode cX1_reach 73 = .ok (.iconst 1, 1) := by decide +kernel
theorem dX1_reach_74 : decode cX1_reach 74 = .ok (.if_icmp .ne 18, 3) := by decide +kernel
theorem dX1_reach_77 : decode cX1_reach 77 = .ok (.aload_n 0, 1) := by decide +kernel
theorem dX1_reach_78 : decode cX1_reach 78 = .ok (.getfield 63, 3) := by decide +kernel
theorem dX1_reach_81 : decode cX1_reach 81 = .ok (.getfield 166, 3) := by decide +kernel
theorem dX1_reach_84 : decode cX1_reach 84 = .ok (.iload_n 3, 1) := by decide +kernel
theorem dX1_reach_85 : decode cX1_reach 85 = .ok (.aload_n 1, 1) := by decide +kernel
theorem dX1_reach_86 : decode cX1_reach 86 = .ok (.getfield 171, 3) := by decide +kernel
theorem dX1_reach_89 : decode cX1_reach 89 = .ok (.iastore, 1) := by decide +kernel
theorem dX1_reach_90 : decode cX1_reach 90 = .ok (.iconst 0, 1) := by decide +kernel
theorem dX1_reach_91 : decode cX1_reach 91 = .ok (.ireturn, 1) := by decide +kernel
theorem dX1_reach_92 : decode cX1_reach 92 = .ok (.aload_n 1, 1) := by decide +kernel
theorem dX1_reach_93 : decode cX1_reach 93 = .ok (.getfield 155, 3) := by decide +kernel
theorem dX1_reach_96 : decode cX1_reach 96 = .ok (.iconst 3, 1) := by decide +kernel
theorem dX1_reach_97 : decode cX1_reach 97 = .ok (.if_icmp .ne 26, 3) := by decide +kernel
theorem dX1_reach_100 : decode cX1_reach 100 = .ok (.aload_n 0, 1) := by decide +kernel
theorem dX1_reach_101 : decode cX1_reach 101 = .ok (.getfield 63, 3) := by decide +kernel
theorem dX1_reach_104 : decode cX1_reach 104 = .ok (.getfield 166, 3) := by decide +kernel
theorem dX1_reach_107 : decode cX1_reach 107 = .ok (.iload_n 3, 1) := by decide +kernel
theorem dX1_reach_108 : decode cX1_reach 108 = .ok (.iload 4, 2) := by decide +kernel
theorem dX1_reach_110 : decode cX1_reach 110 = .ok (.aload_n 1, 1) := by decide +kernel
theorem dX1_reach_111 : decode cX1_reach 111 = .ok (.getfield 171, 3) := by decide +kernel
theorem dX1_reach_114 : decode cX1_reach 114 = .ok (.iadd, 1) := by decide +kernel
theorem dX1_reach_115 : decode cX1_reach 115 = .ok (.sipush 10000, 3) := by decide +kernel
theorem dX1_reach_118 : decode cX1_reach 118 = .ok (.irem, 1) := by decide +kernel
theorem dX1_reach_119 : decode cX1_reach 119 = .ok (.iastore, 1) := by decide +kernel
theorem dX1_reach_120 : decode cX1_reach 120 = .ok (.goto 25, 3) := by decide +kernel
theorem dX1_reach_123 : decode cX1_reach 123 = .ok (.iload 4, 2) := by decide +kernel
theorem dX1_reach_125 : decode cX1_reach 125 = .ok (.aload_n 1, 1) := by decide +kernel
theorem dX1_reach_126 : decode cX1_reach 126 = .ok (.getfield 171, 3) := by decide +kernel
theorem dX1_reach_129 : decode cX1_reach 129 = .ok (.if_icmp .ne 16, 3) := by decide +kernel
theorem dX1_reach_132 : decode cX1_reach 132 = .ok (.aload_n 0, 1) := by decide +kernel
theorem dX1_reach_133 : decode cX1_reach 133 = .ok (.getfield 63, 3) := by decide +kernel
theorem dX1_reach_136 : decode cX1_reach 136 = .ok (.getfield 166, 3) := by decide +kernel
theorem dX1_reach_139 : decode cX1_reach 139 = .ok (.iload_n 3, 1) := by decide +kernel
theorem dX1_reach_140 : decode cX1_reach 140 = .ok (.aload_n 1, 1) := by decide +kernel
theorem dX1_reach_141 : decode cX1_reach 141 = .ok (.getfield 198, 3) := by decide +kernel
theorem dX1_reach_144 : decode cX1_reach 144 = .ok (.iastore, 1) := by decide +kernel
theorem dX1_reach_145 : decode cX1_reach 145 = .ok (.aload_n 0, 1) := by decide +kernel
theorem dX1_reach_146 : decode cX1_reach 146 = .ok (.getfield 24, 3) := by decide +kernel
theorem dX1_reach_149 : decode cX1_reach 149 = .ok (.aload_n 1, 1) := by decide +kernel
theorem dX1_reach_150 : decode cX1_reach 150 = .ok (.getfield 142, 3) := by decide +kernel
theorem dX1_reach_153 : decode cX1_reach 153 = .ok (.iload 4, 2) := by decide +kernel
theorem dX1_reach_155 : decode cX1_reach 155 = .ok (.invokevirtual 199, 3) := by decide +kernel
theorem dX1_reach_158 : decode cX1_reach 158 = .ok (.aload_n 0, 1) := by decide +kernel
theorem dX1_reach_159 : decode cX1_reach 159 = .ok (.getfield 63, 3) := by decide +kernel
theorem dX1_reach_162 : decode cX1_reach 162 = .ok (.dup, 1) := by decide +kernel
theorem dX1_reach_163 : decode cX1_reach 163 = .ok (.getfield 202, 3) := by decide +kernel
theorem dX1_reach_166 : decode cX1_reach 166 = .ok (.iconst 1, 1) := by decide +kernel
theorem dX1_reach_167 : decode cX1_reach 167 = .ok (.iadd, 1) := by decide +kernel
theorem dX1_reach_168 : decode cX1_reach 168 = .ok (.putfield 202, 3) := by decide +kernel
theorem dX1_reach_171 : decode cX1_reach 171 = .ok (.iload 4, 2) := by decide +kernel
theorem dX1_reach_173 : decode cX1_reach 173 = .ok (.ireturn, 1) := by decide +kernel
theorem dX1_reasonAgainst_0 : decode cX1_reasonAgainst 0 = .ok (.aload_n 0, 1) := by decide +kernel
theorem dX1_reasonAgainst_1 : decode cX1_reasonAgainst 1 = .ok (.getfield 63, 3) := by decide +kernel
theorem dX1_reasonAgainst_4 : decode cX1_reasonAgainst 4 = .ok (.getfield 187, 3) := by decide +kernel
theorem dX1_reasonAgainst_7 : decode cX1_reasonAgainst 7 = .ok (.aload_n 1, 1) := by decide +kernel
theorem dX1_reasonAgainst_8 : decode cX1_reasonAgainst 8 = .ok (.getfield 191, 3) := by decide +kernel
theorem dX1_reasonAgainst_11 : decode cX1_reasonAgainst 11 = .ok (.aaload, 1) := by decide +kernel
theorem dX1_reasonAgainst_12 : decode cX1_reasonAgainst 12 = .ok (.astore_n 2, 1) := by decide +kernel
theorem dX1_reasonAgainst_13 : decode cX1_reasonAgainst 13 = .ok (.aload_n 2, 1) := by decide +kernel
theorem dX1_reasonAgainst_14 : decode cX1_reasonAgainst 14 = .ok (.getfield 205, 3) := by decide +kernel
theorem dX1_reasonAgainst_17 : decode cX1_reasonAgainst 17 = .ok (.ifCond .ne 5, 3) := by decide +kernel
theorem dX1_reasonAgainst_20 : decode cX1_reasonAgainst 20 = .ok (.iconst 1, 1) := by decide +kernel
theorem dX1_reasonAgainst_21 : decode cX1_reasonAgainst 21 = .ok (.ireturn, 1) := by decide +kernel
theorem dX1_reasonAgainst_22 : decode cX1_reasonAgainst 22 = .ok (.aload_n 1, 1) := by decide +kernel
theorem dX1_reasonAgainst_23 : decode cX1_reasonAgainst 23 = .ok (.getfield 197, 3) := by decide +kernel
theorem dX1_reasonAgainst_26 : decode cX1_reasonAgainst 26 = .ok (.aload_n 2, 1) := by decide +kernel
theorem dX1_reasonAgainst_27 : decode cX1_reasonAgainst 27 = .ok (.getfield 208, 3) := by decide +kernel
theorem dX1_reasonAgainst_30 : decode cX1_reasonAgainst 30 = .ok (.if_icmp .lt 5, 3) := by decide +kernel
theorem dX1_reasonAgainst_33 : decode cX1_reasonAgainst 33 = .ok (.iconst 2, 1) := by decide +kernel
theorem dX1_reasonAgainst_34 : decode cX1_reasonAgainst 34 = .ok (.ireturn, 1) := by decide +kernel
theorem dX1_reasonAgainst_35 : decode cX1_reasonAgainst 35 = .ok (.aload_n 2, 1) := by decide +kernel
theorem dX1_reasonAgainst_36 : decode cX1_reasonAgainst 36 = .ok (.getfield 211, 3) := by decide +kernel
theorem dX1_reasonAgainst_39 : decode cX1_reasonAgainst 39 = .ok (.aload_n 1, 1) := by decide +kernel
theorem dX1_reasonAgainst_40 : decode cX1_reasonAgainst 40 = .ok (.getfield 155, 3) := by decide +kernel
theorem dX1_reasonAgainst_43 : decode cX1_reasonAgainst 43 = .ok (.invokestatic 214, 3) := by decide +kernel
theorem dX1_reasonAgainst_46 : decode cX1_reasonAgainst 46 = .ok (.iand, 1) := by decide +kernel
theorem dX1_reasonAgainst_47 : decode cX1_reasonAgainst 47 = .ok (.ifCond .ne 7, 3) := by decide +kernel
theorem dX1_reasonAgainst_50 : decode cX1_reasonAgainst 50 = .ok (.iconst 3, 1) := by decide +kernel
theorem dX1_reasonAgainst_51 : decode cX1_reasonAgainst 51 = .ok (.goto 4, 3) := by decide +kernel
theorem dX1_reasonAgainst_54 : decode cX1_reasonAgainst 54 = .ok (.iconst 0, 1) := by decide +kernel
theorem dX1_reasonAgainst_55 : decode cX1_reasonAgainst 55 = .ok (.ireturn, 1) := by decide +kernel
theorem dX1_rightFor_0 : decode cX1_rightFor 0 = .ok (.iload_n 0, 1) := by decide +kernel
theorem dX1_rightFor_1 : decode cX1_rightFor 1 = .ok (.iconst 2, 1) := by decide +kernel
theorem dX1_rightFor_2 : decode cX1_rightFor 2 = .ok (.if_icmp .ne 5, 3) := by decide +kernel
theorem dX1_rightFor_5 : decode cX1_rightFor 5 = .ok (.iconst 1, 1) := by decide +kernel
theorem dX1_rightFor_6 : decode cX1_rightFor 6 = .ok (.ireturn, 1) := by decide +kernel
theorem dX1_rightFor_7 : decode cX1_rightFor 7 = .ok (.iload_n 0, 1) := by decide +kernel
theorem dX1_rightFor_8 : decode cX1_rightFor 8 = .ok (.iconst 1, 1) := by decide +kernel
theorem dX1_rightFor_9 : decode cX1_rightFor 9 = .ok (.if_icmp .ne 7, 3) := by decide +kernel
theorem dX1_rightFor_12 : decode cX1_rightFor 12 = .ok (.iconst 2, 1) := by decide +kernel
theorem dX1_rightFor_13 : decode cX1_rightFor 13 = .ok (.goto 4, 3) := by decide +kernel
theorem dX1_rightFor_16 : decode cX1_rightFor 16 = .ok (.iconst 4, 1) := by decide +kernel
theorem dX1_rightFor_17 : decode cX1_rightFor 17 = .ok (.ireturn, 1) := by decide +kernel
theorem dX1_meetAnswer_0 : decode cX1_meetAnswer 0 = .ok (.aload_n 0, 1) := by decide +kernel
theorem dX1_meetAnswer_1 : decode cX1_meetAnswer 1 = .ok (.aload_n 1, 1) := by decide +kernel
theorem dX1_meetAnswer_2 : decode cX1_meetAnswer 2 = .ok (.invokevirtual 217, 3) := by decide +kernel
theorem dX1_meetAnswer_5 : decode cX1_meetAnswer 5 = .ok (.ifCond .ne 4, 3) := by decide +kernel
theorem dX1_meetAnswer_8 : decode cX1_meetAnswer 8 = .ok (.return_, 1) := by decide +kernel
theorem dX1_meetAnswer_9 : decode cX1_meetAnswer 9 = .ok (.aload_n 0, 1) := by decide +kernel
theorem dX1_meetAnswer_10 : decode cX1_meetAnswer 10 = .ok (.aload_n 1, 1) := by decide +kernel
theorem dX1_meetAnswer_11 : decode cX1_meetAnswer 11 = .ok (.getfield 142, 3) := by decide +kernel
theorem dX1_meetAnswer_14 : decode cX1_meetAnswer 14 = .ok (.invokevirtual 221, 3) := by decide +kernel
theorem dX1_meetAnswer_17 : decode cX1_meetAnswer 17 = .ok (.ifCond .ne 8, 3) := by decide +kernel
theorem dX1_meetAnswer_20 : decode cX1_meetAnswer 20 = .ok (.aload_n 0, 1) := by decide +kernel
theorem dX1_meetAnswer_21 : decode cX1_meetAnswer 21 = .ok (.invokevirtual 224, 3) := by decide +kernel
theorem dX1_meetAnswer_24 : decode cX1_meetAnswer 24 = .ok (.return_, 1) := by decide +kernel
theorem dX1_meetAnswer_25 : decode cX1_meetAnswer 25 = .ok (.aload_n 1, 1) := by decide +kernel
theorem dX1_meetAnswer_26 : decode cX1_meetAnswer 26 = .ok (.getfield 135, 3) := by decide +kernel
theorem dX1_meetAnswer_29 : decode cX1_meetAnswer 29 = .ok (.tableswitch 72 1 4 #[31, 42, 49, 56], 31) := by decide +kernel
theorem dX1_meetAnswer_60 : decode cX1_meetAnswer 60 = .ok (.aload_n 0, 1) := by decide +kernel
theorem dX1_meetAnswer_61 : decode cX1_meetAnswer 61 = .ok (.aload_n 1, 1) := by decide +kernel
theorem dX1_meetAnswer_62 : decode cX1_meetAnswer 62 = .ok (.getfield 227, 3) := by decide +kernel
theorem dX1_meetAnswer_65 : decode cX1_meetAnswer 65 = .ok (.invokevirtual 230, 3) := by decide +kernel
theorem dX1_meetAnswer_68 : decode cX1_meetAnswer 68 = .ok (.goto 33, 3) := by decide +kernel
theorem dX1_meetAnswer_71 : decode cX1_meetAnswer 71 = .ok (.aload_n 0, 1) := by decide +kernel
theorem dX1_meetAnswer_72 : decode cX1_meetAnswer 72 = .ok (.invokevirtual 224, 3) := by decide +kernel
theorem dX1_meetAnswer_75 : decode cX1_meetAnswer 75 = .ok (.goto 26, 3) := by decide +kernel
theorem dX1_meetAnswer_78 : decode cX1_meetAnswer 78 = .ok (.aload_n 0, 1) := by decide +kernel
theorem dX1_meetAnswer_79 : decode cX1_meetAnswer 79 = .ok (.invokevirtual 233, 3) := by decide +kernel
theorem dX1_meetAnswer_82 : decode cX1_meetAnswer 82 = .ok (.goto 19, 3) := by decide +kernel
theorem dX1_meetAnswer_85 : decode cX1_meetAnswer 85 = .ok (.aload_n 0, 1) := by decide +kernel
theorem dX1_meetAnswer_86 : decode cX1_meetAnswer 86 = .ok (.iconst 1, 1) := by decide +kernel
theorem dX1_meetAnswer_87 : decode cX1_meetAnswer 87 = .ok (.aload_n 1, 1) := by decide +kernel
theorem dX1_meetAnswer_88 : decode cX1_meetAnswer 88 = .ok (.getfield 227, 3) := by decide +kernel
theorem dX1_meetAnswer_91 : decode cX1_meetAnswer 91 = .ok (.invokevirtual 236, 3) := by decide +kernel
theorem dX1_meetAnswer_94 : decode cX1_meetAnswer 94 = .ok (.aload_n 0, 1) := by decide +kernel
theorem dX1_meetAnswer_95 : decode cX1_meetAnswer 95 = .ok (.invokevirtual 184, 3) := by decide +kernel
theorem dX1_meetAnswer_98 : decode cX1_meetAnswer 98 = .ok (.goto 3, 3) := by decide +kernel
theorem dX1_meetAnswer_101 : decode cX1_meetAnswer 101 = .ok (.return_, 1) := by decide +kernel
theorem dX1_isAwaited_0 : decode cX1_isAwaited 0 = .ok (.aload_n 1, 1) := by decide +kernel
theorem dX1_isAwaited_1 : decode cX1_isAwaited 1 = .ok (.getfield 135, 3) := by decide +kernel
theorem dX1_isAwaited_4 : decode cX1_isAwaited 4 = .ok (.iconst 2, 1) := by decide +kernel
theorem dX1_isAwaited_5 : decode cX1_isAwaited 5 = .ok (.if_icmp .ne 32, 3) := by decide +kernel
theorem dX1_isAwaited_8 : decode cX1_isAwaited 8 = .ok (.aload_n 0, 1) := by decide +kernel
theorem dX1_isAwaited_9 : decode cX1_isAwaited 9 = .ok (.getfield 35, 3) := by decide +kernel
theorem dX1_isAwaited_12 : decode cX1_isAwaited 12 = .ok (.ifCond .le 23, 3) := by decide +kernel
theorem dX1_isAwaited_15 : decode cX1_isAwaited 15 = .ok (.aload_n 1, 1) := by decide +kernel
theorem dX1_isAwaited_16 : decode cX1_isAwaited 16 = .ok (.getfield 142, 3) := by decide +kernel
theorem dX1_isAwaited_19 : decode cX1_isAwaited 19 = .ok (.aload_n 0, 1) := by decide +kernel
theorem dX1_isAwaited_20 : decode cX1_isAwaited 20 = .ok (.getfield 11, 3) := by decide +kernel
theorem dX1_isAwaited_23 : decode cX1_isAwaited 23 = .ok (.iconst 0, 1) := by decide +kernel
theorem dX1_isAwaited_24 : decode cX1_isAwaited 24 = .ok (.aaload, 1) := by decide +kernel
theorem dX1_isAwaited_25 : decode cX1_isAwaited 25 = .ok (.getfield 91, 3) := by decide +kernel
theorem dX1_isAwaited_28 : decode cX1_isAwaited 28 = .ok (.if_icmp .lt 7, 3) := by decide +kernel
theorem dX1_isAwaited_31 : decode cX1_isAwaited 31 = .ok (.iconst 1, 1) := by decide +kernel
theorem dX1_isAwaited_32 : decode cX1_isAwaited 32 = .ok (.goto 4, 3) := by decide +kernel
theorem dX1_isAwaited_35 : decode cX1_isAwaited 35 = .ok (.iconst 0, 1) := by decide +kernel
theorem dX1_isAwaited_36 : decode cX1_isAwaited 36 = .ok (.ireturn, 1) := by decide +kernel
theorem dX1_isAwaited_37 : decode cX1_isAwaited 37 = .ok (.iconst 0, 1) := by decide +kernel
theorem dX1_isAwaited_38 : decode cX1_isAwaited 38 = .ok (.istore_n 2, 1) := by decide +kernel
theorem dX1_isAwaited_39 : decode cX1_isAwaited 39 = .ok (.iload_n 2, 1) := by decide +kernel
theorem dX1_isAwaited_40 : decode cX1_isAwaited 40 = .ok (.aload_n 0, 1) := by decide +kernel
theorem dX1_isAwaited_41 : decode cX1_isAwaited 41 = .ok (.getfield 35, 3) := by decide +kernel
theorem dX1_isAwaited_44 : decode cX1_isAwaited 44 = .ok (.if_icmp .ge 27, 3) := by decide +kernel
theorem dX1_isAwaited_47 : decode cX1_isAwaited 47 = .ok (.aload_n 0, 1) := by decide +kernel
theorem dX1_isAwaited_48 : decode cX1_isAwaited 48 = .ok (.getfield 11, 3) := by decide +kernel
theorem dX1_isAwaited_51 : decode cX1_isAwaited 51 = .ok (.iload_n 2, 1) := by decide +kernel
theorem dX1_isAwaited_52 : decode cX1_isAwaited 52 = .ok (.aaload, 1) := by decide +kernel
theorem dX1_isAwaited_53 : decode cX1_isAwaited 53 = .ok (.getfield 91, 3) := by decide +kernel
theorem dX1_isAwaited_56 : decode cX1_isAwaited 56 = .ok (.aload_n 1, 1) := by decide +kernel
theorem dX1_isAwaited_57 : decode cX1_isAwaited 57 = .ok (.getfield 142, 3) := by decide +kernel
theorem dX1_isAwaited_60 : decode cX1_isAwaited 60 = .ok (.if_icmp .ne 5, 3) := by decide +kernel
theorem dX1_isAwaited_63 : decode cX1_isAwaited 63 = .ok (.iconst 1, 1) := by decide +kernel
theorem dX1_isAwaited_64 : decode cX1_isAwaited 64 = .ok (.ireturn, 1) := by decide +kernel
theorem dX1_isAwaited_65 : decode cX1_isAwaited 65 = .ok (.iinc 2 1, 3) := by decide +kernel
theorem dX1_isAwaited_68 : decode cX1_isAwaited 68 = .ok (.goto (-29), 3) := by decide +kernel
theorem dX1_isAwaited_71 : decode cX1_isAwaited 71 = .ok (.iconst 0, 1) := by decide +kernel
theorem dX1_isAwaited_72 : decode cX1_isAwaited 72 = .ok (.ireturn, 1) := by decide +kernel
theorem dX1_finishBelow_0 : decode cX1_finishBelow 0 = .ok (.iconst 0, 1) := by decide +kernel
theorem dX1_finishBelow_1 : decode cX1_finishBelow 1 = .ok (.istore_n 2, 1) := by decide +kernel
theorem dX1_finishBelow_2 : decode cX1_finishBelow 2 = .ok (.iload_n 2, 1) := by decide +kernel
theorem dX1_finishBelow_3 : decode cX1_finishBelow 3 = .ok (.iconst 4, 1) := by decide +kernel
theorem dX1_finishBelow_4 : decode cX1_finishBelow 4 = .ok (.if_icmp .ge 52, 3) := by decide +kernel
theorem dX1_finishBelow_7 : decode cX1_finishBelow 7 = .ok (.aload_n 0, 1) := by decide +kernel
theorem dX1_finishBelow_8 : decode cX1_finishBelow 8 = .ok (.getfield 35, 3) := by decide +kernel
theorem dX1_finishBelow_11 : decode cX1_finishBelow 11 = .ok (.ifCond .le 45, 3) := by decide +kernel
theorem dX1_finishBelow_14 : decode cX1_finishBelow 14 = .ok (.aload_n 0, 1) := by decide +kernel
theorem dX1_finishBelow_15 : decode cX1_finishBelow 15 = .ok (.getfield 11, 3) := by decide +kernel
theorem dX1_finishBelow_18 : decode cX1_finishBelow 18 = .ok (.iconst 0, 1) := by decide +kernel
theorem dX1_finishBelow_19 : decode cX1_finishBelow 19 = .ok (.aaload, 1) := by decide +kernel
theorem dX1_finishBelow_20 : decode cX1_finishBelow 20 = .ok (.getfield 91, 3) := by decide +kernel
theorem dX1_finishBelow_23 : decode cX1_finishBelow 23 = .ok (.iload_n 1, 1) := by decide +kernel
theorem dX1_finishBelow_24 : decode cX1_finishBelow 24 = .ok (.if_icmp .ge 32, 3) := by decide +kernel
theorem dX1_finishBelow_27 : decode cX1_finishBelow 27 = .ok (.aload_n 0, 1) := by decide +kernel
theorem dX1_finishBelow_28 : decode cX1_finishBelow 28 = .ok (.getfield 11, 3) := by decide +kernel
theorem dX1_finishBelow_31 : decode cX1_finishBelow 31 = .ok (.iconst 0, 1) := by decide +kernel
theorem dX1_finishBelow_32 : decode cX1_finishBelow 32 = .ok (.aaload, 1) := by decide +kernel
theorem dX1_finishBelow_33 : decode cX1_finishBelow 33 = .ok (.getfield 94, 3) := by decide +kernel
theorem dX1_finishBelow_36 : decode cX1_finishBelow 36 = .ok (.invokestatic 83, 3) := by decide +kernel
theorem dX1_finishBelow_39 : decode cX1_finishBelow 39 = .ok (.ifCond .eq 5, 3) := by decide +kernel
theorem dX1_finishBelow_42 : decode cX1_finishBelow 42 = .ok (.iconst 0, 1) := by decide +kernel
theorem dX1_finishBelow_43 : decode cX1_finishBelow 43 = .ok (.ireturn, 1) := by decide +kernel
theorem dX1_finishBelow_44 : decode cX1_finishBelow 44 = .ok (.aload_n 0, 1) := by decide +kernel
theorem dX1_finishBelow_45 : decode cX1_finishBelow 45 = .ok (.iconst 0, 1) := by decide +kernel
theorem dX1_finishBelow_46 : decode cX1_finishBelow 46 = .ok (.iconst 0, 1) := by decide +kernel
theorem dX1_finishBelow_47 : decode cX1_finishBelow 47 = .ok (.invokevirtual 236, 3) := by decide +kernel
theorem dX1_finishBelow_50 : decode cX1_finishBelow 50 = .ok (.iinc 2 1, 3) := by decide +kernel
theorem dX1_finishBelow_53 : decode cX1_finishBelow 53 = .ok (.goto (-51), 3) := by decide +kernel
theorem dX1_finishBelow_56 : decode cX1_finishBelow 56 = .ok (.iconst 1, 1) := by decide +kernel
theorem dX1_finishBelow_57 : decode cX1_finishBelow 57 = .ok (.ireturn, 1) := by decide +kernel
theorem dX1_bringHome_0 : decode cX1_bringHome 0 = .ok (.aload_n 0, 1) := by decide +kernel
theorem dX1_bringHome_1 : decode cX1_bringHome 1 = .ok (.getfield 11, 3) := by decide +kernel
theorem dX1_bringHome_4 : decode cX1_bringHome 4 = .ok (.iconst 0, 1) := by decide +kernel
theorem dX1_bringHome_5 : decode cX1_bringHome 5 = .ok (.aaload, 1) := by decide +kernel
theorem dX1_bringHome_6 : decode cX1_bringHome 6 = .ok (.getfield 94, 3) := by decide +kernel
theorem dX1_bringHome_9 : decode cX1_bringHome 9 = .ok (.invokestatic 83, 3) := by decide +kernel
theorem dX1_bringHome_12 : decode cX1_bringHome 12 = .ok (.ifCond .eq 21, 3) := by decide +kernel
theorem dX1_bringHome_15 : decode cX1_bringHome 15 = .ok (.aload_n 0, 1) := by decide +kernel
theorem dX1_bringHome_16 : decode cX1_bringHome 16 = .ok (.getfield 63, 3) := by decide +kernel
theorem dX1_bringHome_19 : decode cX1_bringHome 19 = .ok (.getfield 166, 3) := by decide +kernel
theorem dX1_bringHome_22 : decode cX1_bringHome 22 = .ok (.aload_n 0, 1) := by decide +kernel
theorem dX1_bringHome_23 : decode cX1_bringHome 23 = .ok (.getfield 11, 3) := by decide +kernel
theorem dX1_bringHome_26 : decode cX1_bringHome 26 = .ok (.iconst 0, 1) := by decide +kernel
theorem dX1_bringHome_27 : decode cX1_bringHome 27 = .ok (.aaload, 1) := by decide +kernel
theorem dX1_bringHome_28 : decode cX1_bringHome 28 = .ok (.getfield 109, 3) := by decide +kernel
theorem dX1_bringHome_31 : decode cX1_bringHome 31 = .ok (.iload_n 1, 1) := by decide +kernel
theorem dX1_bringHome_32 : decode cX1_bringHome 32 = .ok (.iastore, 1) := by decide +kernel
theorem dX1_bringHome_33 : decode cX1_bringHome 33 = .ok (.aload_n 0, 1) := by decide +kernel
theorem dX1_bringHome_34 : decode cX1_bringHome 34 = .ok (.iconst 0, 1) := by decide +kernel
theorem dX1_bringHome_35 : decode cX1_bringHome 35 = .ok (.iload_n 1, 1) := by decide +kernel
theorem dX1_bringHome_36 : decode cX1_bringHome 36 = .ok (.invokevirtual 236, 3) := by decide +kernel
theorem dX1_bringHome_39 : decode cX1_bringHome 39 = .ok (.return_, 1) := by decide +kernel
theorem dX1_bearBusy_0 : decode cX1_bearBusy 0 = .ok (.aload_n 0, 1) := by decide +kernel
theorem dX1_bearBusy_1 : decode cX1_bearBusy 1 = .ok (.dup, 1) := by decide +kernel
theorem dX1_bearBusy_2 : decode cX1_bearBusy 2 = .ok (.getfield 47, 3) := by decide +kernel
theorem dX1_bearBusy_5 : decode cX1_bearBusy 5 = .ok (.iconst 1, 1) := by decide +kernel
theorem dX1_bearBusy_6 : decode cX1_bearBusy 6 = .ok (.iadd, 1) := by decide +kernel
theorem dX1_bearBusy_7 : decode cX1_bearBusy 7 = .ok (.putfield 47, 3) := by decide +kernel
theorem dX1_bearBusy_10 : decode cX1_bearBusy 10 = .ok (.aload_n 0, 1) := by decide +kernel
theorem dX1_bearBusy_11 : decode cX1_bearBusy 11 = .ok (.getfield 47, 3) := by decide +kernel
theorem dX1_bearBusy_14 : decode cX1_bearBusy 14 = .ok (.iconst 4, 1) := by decide +kernel
theorem dX1_bearBusy_15 : decode cX1_bearBusy 15 = .ok (.if_icmp .lt 13, 3) := by decide +kernel
theorem dX1_bearBusy_18 : decode cX1_bearBusy 18 = .ok (.aload_n 0, 1) := by decide +kernel
theorem dX1_bearBusy_19 : decode cX1_bearBusy 19 = .ok (.iconst 4, 1) := by decide +kernel
theorem dX1_bearBusy_20 : decode cX1_bearBusy 20 = .ok (.iconst 0, 1) := by decide +kernel
theorem dX1_bearBusy_21 : decode cX1_bearBusy 21 = .ok (.invokevirtual 236, 3) := by decide +kernel
theorem dX1_bearBusy_24 : decode cX1_bearBusy 24 = .ok (.aload_n 0, 1) := by decide +kernel
theorem dX1_bearBusy_25 : decode cX1_bearBusy 25 = .ok (.invokevirtual 184, 3) := by decide +kernel
theorem dX1_bearBusy_28 : decode cX1_bearBusy 28 = .ok (.return_, 1) := by decide +kernel
theorem dX1_tryAgain_0 : decode cX1_tryAgain 0 = .ok (.aload_n 0, 1) := by decide +kernel
theorem dX1_tryAgain_1 : decode cX1_tryAgain 1 = .ok (.getfield 35, 3) := by decide +kernel
theorem dX1_tryAgain_4 : decode cX1_tryAgain 4 = .ok (.ifCond .ne 4, 3) := by decide +kernel
theorem dX1_tryAgain_7 : decode cX1_tryAgain 7 = .ok (.return_, 1) := by decide +kernel
theorem dX1_tryAgain_8 : decode cX1_tryAgain 8 = .ok (.aload_n 0, 1) := by decide +kernel
theorem dX1_tryAgain_9 : decode cX1_tryAgain 9 = .ok (.dup, 1) := by decide +kernel
theorem dX1_tryAgain_10 : decode cX1_tryAgain 10 = .ok (.getfield 44, 3) := by decide +kernel
theorem dX1_tryAgain_13 : decode cX1_tryAgain 13 = .ok (.iconst 1, 1) := by decide +kernel
theorem dX1_tryAgain_14 : decode cX1_tryAgain 14 = .ok (.iadd, 1) := by decide +kernel
theorem dX1_tryAgain_15 : decode cX1_tryAgain 15 = .ok (.putfield 44, 3) := by decide +kernel
theorem dX1_tryAgain_18 : decode cX1_tryAgain 18 = .ok (.aload_n 0, 1) := by decide +kernel
theorem dX1_tryAgain_19 : decode cX1_tryAgain 19 = .ok (.getfield 44, 3) := by decide +kernel
theorem dX1_tryAgain_22 : decode cX1_tryAgain 22 = .ok (.iconst 4, 1) := by decide +kernel
theorem dX1_tryAgain_23 : decode cX1_tryAgain 23 = .ok (.if_icmp .lt 14, 3) := by decide +kernel
theorem dX1_tryAgain_26 : decode cX1_tryAgain 26 = .ok (.aload_n 0, 1) := by decide +kernel
theorem dX1_tryAgain_27 : decode cX1_tryAgain 27 = .ok (.iconst 3, 1) := by decide +kernel
theorem dX1_tryAgain_28 : decode cX1_tryAgain 28 = .ok (.iconst 0, 1) := by decide +kernel
theorem dX1_tryAgain_29 : decode cX1_tryAgain 29 = .ok (.invokevirtual 236, 3) := by decide +kernel
theorem dX1_tryAgain_32 : decode cX1_tryAgain 32 = .ok (.aload_n 0, 1) := by decide +kernel
theorem dX1_tryAgain_33 : decode cX1_tryAgain 33 = .ok (.invokevirtual 184, 3) := by decide +kernel
theorem dX1_tryAgain_36 : decode cX1_tryAgain 36 = .ok (.return_, 1) := by decide +kernel
theorem dX1_tryAgain_37 : decode cX1_tryAgain 37 = .ok (.iconst 0, 1) := by decide +kernel
theorem dX1_tryAgain_38 : decode cX1_tryAgain 38 = .ok (.istore_n 1, 1) := by decide +kernel
theorem dX1_tryAgain_39 : decode cX1_tryAgain 39 = .ok (.iload_n 1, 1) := by decide +kernel
theorem dX1_tryAgain_40 : decode cX1_tryAgain 40 = .ok (.aload_n 0, 1) := by decide +kernel
theorem dX1_tryAgain_41 : decode cX1_tryAgain 41 = .ok (.getfield 35, 3) := by decide +kernel
theorem dX1_tryAgain_44 : decode cX1_tryAgain 44 = .ok (.if_icmp .ge 19, 3) := by decide +kernel
theorem dX1_tryAgain_47 : decode cX1_tryAgain 47 = .ok (.aload_n 0, 1) := by decide +kernel
theorem dX1_tryAgain_48 : decode cX1_tryAgain 48 = .ok (.aload_n 0, 1) := by decide +kernel
theorem dX1_tryAgain_49 : decode cX1_tryAgain 49 = .ok (.getfield 11, 3) := by decide +kernel
theorem dX1_tryAgain_52 : decode cX1_tryAgain 52 = .ok (.iload_n 1, 1) := by decide +kernel
theorem dX1_tryAgain_53 : decode cX1_tryAgain 53 = .ok (.aaload, 1) := by decide +kernel
theorem dX1_tryAgain_54 : decode cX1_tryAgain 54 = .ok (.invokevirtual 112, 3) := by decide +kernel
theorem dX1_tryAgain_57 : decode cX1_tryAgain 57 = .ok (.iinc 1 1, 3) := by decide +kernel
theorem dX1_tryAgain_60 : decode cX1_tryAgain 60 = .ok (.goto (-21), 3) := by decide +kernel
theorem dX1_tryAgain_63 : decode cX1_tryAgain 63 = .ok (.return_, 1) := by decide +kernel
theorem dX1_breakUp_0 : decode cX1_breakUp 0 = .ok (.aload_n 0, 1) := by decide +kernel
theorem dX1_breakUp_1 : decode cX1_breakUp 1 = .ok (.iconst 2, 1) := by decide +kernel
theorem dX1_breakUp_2 : decode cX1_breakUp 2 = .ok (.putfield 28, 3) := by decide +kernel
theorem dX1_breakUp_5 : decode cX1_breakUp 5 = .ok (.iconst 0, 1) := by decide +kernel
theorem dX1_breakUp_6 : decode cX1_breakUp 6 = .ok (.istore_n 1, 1) := by decide +kernel
theorem dX1_breakUp_7 : decode cX1_breakUp 7 = .ok (.iload_n 1, 1) := by decide +kernel
theorem dX1_breakUp_8 : decode cX1_breakUp 8 = .ok (.iconst 4, 1) := by decide +kernel
theorem dX1_breakUp_9 : decode cX1_breakUp 9 = .ok (.if_icmp .ge 22, 3) := by decide +kernel
theorem dX1_breakUp_12 : decode cX1_breakUp 12 = .ok (.aload_n 0, 1) := by decide +kernel
theorem dX1_breakUp_13 : decode cX1_breakUp 13 = .ok (.getfield 35, 3) := by decide +kernel
theorem dX1_breakUp_16 : decode cX1_breakUp 16 = .ok (.ifCond .le 15, 3) := by decide +kernel
theorem dX1_breakUp_19 : decode cX1_breakUp 19 = .ok (.aload_n 0, 1) := by decide +kernel
theorem dX1_breakUp_20 : decode cX1_breakUp 20 = .ok (.iconst 2, 1) := by decide +kernel
theorem dX1_breakUp_21 : decode cX1_breakUp 21 = .ok (.iconst 0, 1) := by decide +kernel
theorem dX1_breakUp_22 : decode cX1_breakUp 22 = .ok (.invokevirtual 236, 3) := by decide +kernel
theorem dX1_breakUp_25 : decode cX1_breakUp 25 = .ok (.iinc 1 1, 3) := by decide +kernel
theorem dX1_breakUp_28 : decode cX1_breakUp 28 = .ok (.goto (-21), 3) := by decide +kernel
theorem dX1_breakUp_31 : decode cX1_breakUp 31 = .ok (.iconst 0, 1) := by decide +kernel
theorem dX1_breakUp_32 : decode cX1_breakUp 32 = .ok (.istore_n 1, 1) := by decide +kernel
theorem dX1_breakUp_33 : decode cX1_breakUp 33 = .ok (.iload_n 1, 1) := by decide +kernel
theorem dX1_breakUp_34 : decode cX1_breakUp 34 = .ok (.aload_n 0, 1) := by decide +kernel
theorem dX1_breakUp_35 : decode cX1_breakUp 35 = .ok (.getfield 41, 3) := by decide +kernel
theorem dX1_breakUp_38 : decode cX1_breakUp 38 = .ok (.if_icmp .ge 36, 3) := by decide +kernel
theorem dX1_breakUp_41 : decode cX1_breakUp 41 = .ok (.aload_n 0, 1) := by decide +kernel
theorem dX1_breakUp_42 : decode cX1_breakUp 42 = .ok (.getfield 63, 3) := by decide +kernel
theorem dX1_breakUp_45 : decode cX1_breakUp 45 = .ok (.new 172, 3) := by decide +kernel
theorem dX1_breakUp_48 : decode cX1_breakUp 48 = .ok (.dup, 1) := by decide +kernel
theorem dX1_breakUp_49 : decode cX1_breakUp 49 = .ok (.aload_n 0, 1) := by decide +kernel
theorem dX1_breakUp_50 : decode cX1_breakUp 50 = .ok (.getfield 60, 3) := by decide +kernel
theorem dX1_breakUp_53 : decode cX1_breakUp 53 = .ok (.iconst 5, 1) := by decide +kernel
theorem dX1_breakUp_54 : decode cX1_breakUp 54 = .ok (.iconst (-1), 1) := by decide +kernel
theorem dX1_breakUp_55 : decode cX1_breakUp 55 = .ok (.iconst 2, 1) := by decide +kernel
theorem dX1_breakUp_56 : decode cX1_breakUp 56 = .ok (.aload_n 0, 1) := by decide +kernel
theorem dX1_breakUp_57 : decode cX1_breakUp 57 = .ok (.getfield 17, 3) := by decide +kernel
theorem dX1_breakUp_60 : decode cX1_breakUp 60 = .ok (.iload_n 1, 1) := by decide +kernel
theorem dX1_breakUp_61 : decode cX1_breakUp 61 = .ok (.iaload, 1) := by decide +kernel
theorem dX1_breakUp_62 : decode cX1_breakUp 62 = .ok (.invokespecial 174, 3) := by decide +kernel
theorem dX1_breakUp_65 : decode cX1_breakUp 65 = .ok (.invokevirtual 177, 3) := by decide +kernel
theorem dX1_breakUp_68 : decode cX1_breakUp 68 = .ok (.iinc 1 1, 3) := by decide +kernel
theorem dX1_breakUp_71 : decode cX1_breakUp 71 = .ok (.goto (-38), 3) := by decide +kernel
theorem dX1_breakUp_74 : decode cX1_breakUp 74 = .ok (.aload_n 0, 1) := by decide +kernel
theorem dX1_breakUp_75 : decode cX1_breakUp 75 = .ok (.iconst 0, 1) := by decide +kernel
theorem dX1_breakUp_76 : decode cX1_breakUp 76 = .ok (.putfield 41, 3) := by decide +kernel
theorem dX1_breakUp_79 : decode cX1_breakUp 79 = .ok (.return_, 1) := by decide +kernel
theorem dX1_finishOldest_0 : decode cX1_finishOldest 0 = .ok (.aload_n 0, 1) := by decide +kernel
theorem dX1_finishOldest_1 : decode cX1_finishOldest 1 = .ok (.getfield 35, 3) := by decide +kernel
theorem dX1_finishOldest_4 : decode cX1_finishOldest 4 = .ok (.ifCond .ne 4, 3) := by decide +kernel
theorem dX1_finishOldest_7 : decode cX1_finishOldest 7 = .ok (.return_, 1) := by decide +kernel
theorem dX1_finishOldest_8 : decode cX1_finishOldest 8 = .ok (.aload_n 0, 1) := by decide +kernel
theorem dX1_finishOldest_9 : decode cX1_finishOldest 9 = .ok (.getfield 11, 3) := by decide +kernel
theorem dX1_finishOldest_12 : decode cX1_finishOldest 12 = .ok (.iconst 0, 1) := by decide +kernel
theorem dX1_finishOldest_13 : decode cX1_finishOldest 13 = .ok (.aaload, 1) := by decide +kernel
theorem dX1_finishOldest_14 : decode cX1_finishOldest 14 = .ok (.astore_n 3, 1) := by decide +kernel
theorem dX1_finishOldest_15 : decode cX1_finishOldest 15 = .ok (.iconst 1, 1) := by decide +kernel
theorem dX1_finishOldest_16 : decode cX1_finishOldest 16 = .ok (.istore 4, 2) := by decide +kernel
theorem dX1_finishOldest_18 : decode cX1_finishOldest 18 = .ok (.iload 4, 2) := by decide +kernel
theorem dX1_finishOldest_20 : decode cX1_finishOldest 20 = .ok (.aload_n 0, 1) := by decide +kernel
theorem dX1_finishOldest_21 : decode cX1_finishOldest 21 = .ok (.getfield 35, 3) := by decide +kernel
theorem dX1_finishOldest_24 : decode cX1_finishOldest 24 = .ok (.if_icmp .ge 25, 3) := by decide +kernel
theorem dX1_finishOldest_27 : decode cX1_finishOldest 27 = .ok (.aload_n 0, 1) := by decide +kernel
theorem dX1_finishOldest_28 : decode cX1_finishOldest 28 = .ok (.getfield 11, 3) := by decide +kernel
theorem dX1_finishOldest_31 : decode cX1_finishOldest 31 = .ok (.iload 4, 2) := by decide +kernel
theorem dX1_finishOldest_33 : decode cX1_finishOldest 33 = .ok (.iconst 1, 1) := by decide +kernel
theorem dX1_finishOldest_34 : decode cX1_finishOldest 34 = .ok (.isub, 1) := by decide +kernel
theorem dX1_finishOldest_35 : decode cX1_finishOldest 35 = .ok (.aload_n 0, 1) := by decide +kernel
theorem dX1_finishOldest_36 : decode cX1_finishOldest 36 = .ok (.getfield 11, 3) := by decide +kernel
theorem dX1_finishOldest_39 : decode cX1_finishOldest 39 = .ok (.iload 4, 2) := by decide +kernel
theorem dX1_finishOldest_41 : decode cX1_finishOldest 41 = .ok (.aaload, 1) := by decide +kernel
theorem dX1_finishOldest_42 : decode cX1_finishOldest 42 = .ok (.aastore, 1) := by decide +kernel
theorem dX1_finishOldest_43 : decode cX1_finishOldest 43 = .ok (.iinc 4 1, 3) := by decide +kernel
theorem dX1_finishOldest_46 : decode cX1_finishOldest 46 = .ok (.goto (-28), 3) := by decide +kernel
theorem dX1_finishOldest_49 : decode cX1_finishOldest 49 = .ok (.aload_n 0, 1) := by decide +kernel
theorem dX1_finishOldest_50 : decode cX1_finishOldest 50 = .ok (.dup, 1) := by decide +kernel
theorem dX1_finishOldest_51 : decode cX1_finishOldest 51 = .ok (.getfield 35, 3) := by decide +kernel
theorem dX1_finishOldest_54 : decode cX1_finishOldest 54 = .ok (.iconst 1, 1) := by decide +kernel
theorem dX1_finishOldest_55 : decode cX1_finishOldest 55 = .ok (.isub, 1) := by decide +kernel
theorem dX1_finishOldest_56 : decode cX1_finishOldest 56 = .ok (.putfield 35, 3) := by decide +kernel
theorem dX1_finishOldest_59 : decode cX1_finishOldest 59 = .ok (.aload_n 0, 1) := by decide +kernel
theorem dX1_finishOldest_60 : decode cX1_finishOldest 60 = .ok (.getfield 11, 3) := by decide +kernel
theorem dX1_finishOldest_63 : decode cX1_finishOldest 63 = .ok (.aload_n 0, 1) := by decide +kernel
theorem dX1_finishOldest_64 : decode cX1_finishOldest 64 = .ok (.getfield 35, 3) := by decide +kernel
theorem dX1_finishOldest_67 : decode cX1_finishOldest 67 = .ok (.aload_n 3, 1) := by decide +kernel
theorem dX1_finishOldest_68 : decode cX1_finishOldest 68 = .ok (.aastore, 1) := by decide +kernel
theorem dX1_finishOldest_69 : decode cX1_finishOldest 69 = .ok (.aload_n 0, 1) := by decide +kernel
theorem dX1_finishOldest_70 : decode cX1_finishOldest 70 = .ok (.iconst 0, 1) := by decide +kernel
theorem dX1_finishOldest_71 : decode cX1_finishOldest 71 = .ok (.putfield 44, 3) := by decide +kernel
theorem dX1_finishOldest_74 : decode cX1_finishOldest 74 = .ok (.aload_n 0, 1) := by decide +kernel
theorem dX1_finishOldest_75 : decode cX1_finishOldest 75 = .ok (.iconst 0, 1) := by decide +kernel
theorem dX1_finishOldest_76 : decode cX1_finishOldest 76 = .ok (.putfield 47, 3) := by decide +kernel
theorem dX1_finishOldest_79 : decode cX1_finishOldest 79 = .ok (.aload_n 0, 1) := by decide +kernel
theorem dX1_finishOldest_80 : decode cX1_finishOldest 80 = .ok (.getfield 63, 3) := by decide +kernel
theorem dX1_finishOldest_83 : decode cX1_finishOldest 83 = .ok (.new 172, 3) := by decide +kernel
theorem dX1_finishOldest_86 : decode cX1_finishOldest 86 = .ok (.dup, 1) := by decide +kernel
theorem dX1_finishOldest_87 : decode cX1_finishOldest 87 = .ok (.aload_n 0, 1) := by decide +kernel
theorem dX1_finishOldest_88 : decode cX1_finishOldest 88 = .ok (.getfield 60, 3) := by decide +kernel
theorem dX1_finishOldest_91 : decode cX1_finishOldest 91 = .ok (.aload_n 3, 1) := by decide +kernel
theorem dX1_finishOldest_92 : decode cX1_finishOldest 92 = .ok (.getfield 94, 3) := by decide +kernel
theorem dX1_finishOldest_95 : decode cX1_finishOldest 95 = .ok (.aload_n 3, 1) := by decide +kernel
theorem dX1_finishOldest_96 : decode cX1_finishOldest 96 = .ok (.getfield 91, 3) := by decide +kernel
theorem dX1_finishOldest_99 : decode cX1_finishOldest 99 = .ok (.iload_n 1, 1) := by decide +kernel
theorem dX1_finishOldest_100 : decode cX1_finishOldest 100 = .ok (.iload_n 2, 1) := by decide +kernel
theorem dX1_finishOldest_101 : decode cX1_finishOldest 101 = .ok (.invokespecial 174, 3) := by decide +kernel
theorem dX1_finishOldest_104 : decode cX1_finishOldest 104 = .ok (.invokevirtual 177, 3) := by decide +kernel
theorem dX1_finishOldest_107 : decode cX1_finishOldest 107 = .ok (.return_, 1) := by decide +kernel
theorem dX2_init_0 : decode cX2_init 0 = .ok (.aload_n 0, 1) := by decide +kernel
theorem dX2_init_1 : decode cX2_init 1 = .ok (.invokespecial 3, 3) := by decide +kernel
theorem dX2_init_4 : decode cX2_init 4 = .ok (.aload_n 0, 1) := by decide +kernel
theorem dX2_init_5 : decode cX2_init 5 = .ok (.bipush 12, 2) := by decide +kernel
theorem dX2_init_7 : decode cX2_init 7 = .ok (.newarray .int, 2) := by decide +kernel
theorem dX2_init_9 : decode cX2_init 9 = .ok (.putfield 9, 3) := by decide +kernel
theorem dX2_init_12 : decode cX2_init 12 = .ok (.aload_n 0, 1) := by decide +kernel
theorem dX2_init_13 : decode cX2_init 13 = .ok (.iconst 4, 1) := by decide +kernel
theorem dX2_init_14 : decode cX2_init 14 = .ok (.anewarray 15, 3) := by decide +kernel
theorem dX2_init_17 : decode cX2_init 17 = .ok (.putfield 17, 3) := by decide +kernel
theorem dX2_init_20 : decode cX2_init 20 = .ok (.aload_n 0, 1) := by decide +kernel
theorem dX2_init_21 : decode cX2_init 21 = .ok (.aconst_null, 1) := by decide +kernel
theorem dX2_init_22 : decode cX2_init 22 = .ok (.putfield 21, 3) := by decide +kernel
theorem dX2_init_25 : decode cX2_init 25 = .ok (.aload_n 0, 1) := by decide +kernel
theorem dX2_init_26 : decode cX2_init 26 = .ok (.aconst_null, 1) := by decide +kernel
theorem dX2_init_27 : decode cX2_init 27 = .ok (.putfield 25, 3) := by decide +kernel
theorem dX2_init_30 : decode cX2_init 30 = .ok (.aload_n 0, 1) := by decide +kernel
theorem dX2_init_31 : decode cX2_init 31 = .ok (.iconst 0, 1) := by decide +kernel
theorem dX2_init_32 : decode cX2_init 32 = .ok (.putfield 28, 3) := by decide +kernel
theorem dX2_init_35 : decode cX2_init 35 = .ok (.aload_n 0, 1) := by decide +kernel
theorem dX2_init_36 : decode cX2_init 36 = .ok (.iconst 0, 1) := by decide +kernel
theorem dX2_init_37 : decode cX2_init 37 = .ok (.putfield 32, 3) := by decide +kernel
theorem dX2_init_40 : decode cX2_init 40 = .ok (.iconst 0, 1) := by decide +kernel
theorem dX2_init_41 : decode cX2_init 41 = .ok (.istore_n 1, 1) := by decide +kernel
theorem dX2_init_42 : decode cX2_init 42 = .ok (.iload_n 1, 1) := by decide +kernel
theorem dX2_init_43 : decode cX2_init 43 = .ok (.iconst 4, 1) := by decide +kernel
theorem dX2_init_44 : decode cX2_init 44 = .ok (.if_icmp .ge 22, 3) := by decide +kernel
theorem dX2_init_47 : decode cX2_init 47 = .ok (.aload_n 0, 1) := by decide +kernel
theorem dX2_init_48 : decode cX2_init 48 = .ok (.getfield 17, 3) := by decide +kernel
theorem dX2_init_51 : decode cX2_init 51 = .ok (.iload_n 1, 1) := by decide +kernel
theorem dX2_init_52 : decode cX2_init 52 = .ok (.new 15, 3) := by decide +kernel
theorem dX2_init_55 : decode cX2_init 55 = .ok (.dup, 1) := by decide +kernel
theorem dX2_init_56 : decode cX2_init 56 = .ok (.invokespecial 35, 3) := by decide +kernel
theorem dX2_init_59 : decode cX2_init 59 = .ok (.aastore, 1) := by decide +kernel
theorem dX2_init_60 : decode cX2_init 60 = .ok (.iinc 1 1, 3) := by decide +kernel
theorem dX2_init_63 : decode cX2_init 63 = .ok (.goto (-21), 3) := by decide +kernel
theorem dX2_init_66 : decode cX2_init 66 = .ok (.return_, 1) := by decide +kernel
theorem dX2_reset_0 : decode cX2_reset 0 = .ok (.iconst 0, 1) := by decide +kernel
theorem dX2_reset_1 : decode cX2_reset 1 = .ok (.istore_n 1, 1) := by decide +kernel
theorem dX2_reset_2 : decode cX2_reset 2 = .ok (.iload_n 1, 1) := by decide +kernel
theorem dX2_reset_3 : decode cX2_reset 3 = .ok (.bipush 12, 2) := by decide +kernel
theorem dX2_reset_5 : decode cX2_reset 5 = .ok (.if_icmp .ge 16, 3) := by decide +kernel
theorem dX2_reset_8 : decode cX2_reset 8 = .ok (.aload_n 0, 1) := by decide +kernel
theorem dX2_reset_9 : decode cX2_reset 9 = .ok (.getfield 9, 3) := by decide +kernel
theorem dX2_reset_12 : decode cX2_reset 12 = .ok (.iload_n 1, 1) := by decide +kernel
theorem dX2_reset_13 : decode cX2_reset 13 = .ok (.iconst 0, 1) := by decide +kernel
theorem dX2_reset_14 : decode cX2_reset 14 = .ok (.iastore, 1) := by decide +kernel
theorem dX2_reset_15 : decode cX2_reset 15 = .ok (.iinc 1 1, 3) := by decide +kernel
theorem dX2_reset_18 : decode cX2_reset 18 = .ok (.goto (-16), 3) := by decide +kernel
theorem dX2_reset_21 : decode cX2_reset 21 = .ok (.iconst 0, 1) := by decide +kernel
theorem dX2_reset_22 : decode cX2_reset 22 = .ok (.istore_n 1, 1) := by decide +kernel
theorem dX2_reset_23 : decode cX2_reset 23 = .ok (.iload_n 1, 1) := by decide +kernel
theorem dX2_reset_24 : decode cX2_reset 24 = .ok (.iconst 4, 1) := by decide +kernel
theorem dX2_reset_25 : decode cX2_reset 25 = .ok (.if_icmp .ge 19, 3) := by decide +kernel
theorem dX2_reset_28 : decode cX2_reset 28 = .ok (.aload_n 0, 1) := by decide +kernel
theorem dX2_reset_29 : decode cX2_reset 29 = .ok (.getfield 17, 3) := by decide +kernel
theorem dX2_reset_32 : decode cX2_reset 32 = .ok (.iload_n 1, 1) := by decide +kernel
theorem dX2_reset_33 : decode cX2_reset 33 = .ok (.aaload, 1) := by decide +kernel
theorem dX2_reset_34 : decode cX2_reset 34 = .ok (.iconst 0, 1) := by decide +kernel
theorem dX2_reset_35 : decode cX2_reset 35 = .ok (.putfield 36, 3) := by decide +kernel
theorem dX2_reset_38 : decode cX2_reset 38 = .ok (.iinc 1 1, 3) := by decide +kernel
theorem dX2_reset_41 : decode cX2_reset 41 = .ok (.goto (-18), 3) := by decide +kernel
theorem dX2_reset_44 : decode cX2_reset 44 = .ok (.aload_n 0, 1) := by decide +kernel
theorem dX2_reset_45 : decode cX2_reset 45 = .ok (.aconst_null, 1) := by decide +kernel
theorem dX2_reset_46 : decode cX2_reset 46 = .ok (.putfield 21, 3) := by decide +kernel
theorem dX2_reset_49 : decode cX2_reset 49 = .ok (.aload_n 0, 1) := by decide +kernel
theorem dX2_reset_50 : decode cX2_reset 50 = .ok (.aconst_null, 1) := by decide +kernel
theorem dX2_reset_51 : decode cX2_reset 51 = .ok (.putfield 25, 3) := by decide +kernel
theorem dX2_reset_54 : decode cX2_reset 54 = .ok (.aload_n 0, 1) := by decide +kernel
theorem dX2_reset_55 : decode cX2_reset 55 = .ok (.iconst 0, 1) := by decide +kernel
theorem dX2_reset_56 : decode cX2_reset 56 = .ok (.putfield 28, 3) := by decide +kernel
theorem dX2_reset_59 : decode cX2_reset 59 = .ok (.aload_n 0, 1) := by decide +kernel
theorem dX2_reset_60 : decode cX2_reset 60 = .ok (.iconst 0, 1) := by decide +kernel
theorem dX2_reset_61 : decode cX2_reset 61 = .ok (.putfield 32, 3) := by decide +kernel
theorem dX2_reset_64 : decode cX2_reset 64 = .ok (.return_, 1) := by decide +kernel
theorem dX2_setKey_0 : decode cX2_setKey 0 = .ok (.aload_n 0, 1) := by decide +kernel
theorem dX2_setKey_1 : decode cX2_setKey 1 = .ok (.getfield 17, 3) := by decide +kernel
theorem dX2_setKey_4 : decode cX2_setKey 4 = .ok (.iload_n 1, 1) := by decide +kernel
theorem dX2_setKey_5 : decode cX2_setKey 5 = .ok (.aaload, 1) := by decide +kernel
theorem dX2_setKey_6 : decode cX2_setKey 6 = .ok (.astore 5, 2) := by decide +kernel
theorem dX2_setKey_8 : decode cX2_setKey 8 = .ok (.aload 5, 2) := by decide +kernel
theorem dX2_setKey_10 : decode cX2_setKey 10 = .ok (.iconst 1, 1) := by decide +kernel
theorem dX2_setKey_11 : decode cX2_setKey 11 = .ok (.putfield 36, 3) := by decide +kernel
theorem dX2_setKey_14 : decode cX2_setKey 14 = .ok (.aload 5, 2) := by decide +kernel
theorem dX2_setKey_16 : decode cX2_setKey 16 = .ok (.iload_n 2, 1) := by decide +kernel
theorem dX2_setKey_17 : decode cX2_setKey 17 = .ok (.putfield 40, 3) := by decide +kernel
theorem dX2_setKey_20 : decode cX2_setKey 20 = .ok (.aload 5, 2) := by decide +kernel
theorem dX2_setKey_22 : decode cX2_setKey 22 = .ok (.iload_n 3, 1) := by decide +kernel
theorem dX2_setKey_23 : decode cX2_setKey 23 = .ok (.putfield 43, 3) := by decide +kernel
theorem dX2_setKey_26 : decode cX2_setKey 26 = .ok (.aload 5, 2) := by decide +kernel
theorem dX2_setKey_28 : decode cX2_setKey 28 = .ok (.iload 4, 2) := by decide +kernel
theorem dX2_setKey_30 : decode cX2_setKey 30 = .ok (.putfield 46, 3) := by decide +kernel
theorem dX2_setKey_33 : decode cX2_setKey 33 = .ok (.return_, 1) := by decide +kernel
theorem dX2_keyCount_0 : decode cX2_keyCount 0 = .ok (.iconst 0, 1) := by decide +kernel
theorem dX2_keyCount_1 : decode cX2_keyCount 1 = .ok (.istore_n 1, 1) := by decide +kernel
theorem dX2_keyCount_2 : decode cX2_keyCount 2 = .ok (.iconst 0, 1) := by decide +kernel
theorem dX2_keyCount_3 : decode cX2_keyCount 3 = .ok (.istore_n 2, 1) := by decide +kernel
theorem dX2_keyCount_4 : decode cX2_keyCount 4 = .ok (.iload_n 2, 1) := by decide +kernel
theorem dX2_keyCount_5 : decode cX2_keyCount 5 = .ok (.iconst 4, 1) := by decide +kernel
theorem dX2_keyCount_6 : decode cX2_keyCount 6 = .ok (.if_icmp .ge 24, 3) := by decide +kernel
theorem dX2_keyCount_9 : decode cX2_keyCount 9 = .ok (.aload_n 0, 1) := by decide +kernel
theorem dX2_keyCount_10 : decode cX2_keyCount 10 = .ok (.getfield 17, 3) := by decide +kernel
theorem dX2_keyCount_13 : decode cX2_keyCount 13 = .ok (.iload_n 2, 1) := by decide +kernel
theorem dX2_keyCount_14 : decode cX2_keyCount 14 = .ok (.aaload, 1) := by decide +kernel
theorem dX2_keyCount_15 : decode cX2_keyCount 15 = .ok (.getfield 36, 3) := by decide +kernel
theorem dX2_keyCount_18 : decode cX2_keyCount 18 = .ok (.ifCond .eq 6, 3) := by decide +kernel
theorem dX2_keyCount_21 : decode cX2_keyCount 21 = .ok (.iinc 1 1, 3) := by decide +kernel
theorem dX2_keyCount_24 : decode cX2_keyCount 24 = .ok (.iinc 2 1, 3) := by decide +kernel
theorem dX2_keyCount_27 : decode cX2_keyCount 27 = .ok (.goto (-23), 3) := by decide +kernel
theorem dX2_keyCount_30 : decode cX2_keyCount 30 = .ok (.iload_n 1, 1) := by decide +kernel
theorem dX2_keyCount_31 : decode cX2_keyCount 31 = .ok (.ireturn, 1) := by decide +kernel
theorem dX2_cellSum_0 : decode cX2_cellSum 0 = .ok (.iconst 0, 1) := by decide +kernel
theorem dX2_cellSum_1 : decode cX2_cellSum 1 = .ok (.istore_n 1, 1) := by decide +kernel
theorem dX2_cellSum_2 : decode cX2_cellSum 2 = .ok (.iconst 0, 1) := by decide +kernel
theorem dX2_cellSum_3 : decode cX2_cellSum 3 = .ok (.istore_n 2, 1) := by decide +kernel
theorem dX2_cellSum_4 : decode cX2_cellSum 4 = .ok (.iload_n 2, 1) := by decide +kernel
theorem dX2_cellSum_5 : decode cX2_cellSum 5 = .ok (.bipush 12, 2) := by decide +kernel
theorem dX2_cellSum_7 : decode cX2_cellSum 7 = .ok (.if_icmp .ge 18, 3) := by decide +kernel
theorem dX2_cellSum_10 : decode cX2_cellSum 10 = .ok (.iload_n 1, 1) := by decide +kernel
theorem dX2_cellSum_11 : decode cX2_cellSum 11 = .ok (.aload_n 0, 1) := by decide +kernel
theorem dX2_cellSum_12 : decode cX2_cellSum 12 = .ok (.getfield 9, 3) := by decide +kernel
theorem dX2_cellSum_15 : decode cX2_cellSum 15 = .ok (.iload_n 2, 1) := by decide +kernel
theorem dX2_cellSum_16 : decode cX2_cellSum 16 = .ok (.iaload, 1) := by decide +kernel
theorem dX2_cellSum_17 : decode cX2_cellSum 17 = .ok (.iadd, 1) := by decide +kernel
theorem dX2_cellSum_18 : decode cX2_cellSum 18 = .ok (.istore_n 1, 1) := by decide +kernel
theorem dX2_cellSum_19 : decode cX2_cellSum 19 = .ok (.iinc 2 1, 3) := by decide +kernel
theorem dX2_cellSum_22 : decode cX2_cellSum 22 = .ok (.goto (-18), 3) := by decide +kernel
theorem dX2_cellSum_25 : decode cX2_cellSum 25 = .ok (.iload_n 1, 1) := by decide +kernel
theorem dX2_cellSum_26 : decode cX2_cellSum 26 = .ok (.ireturn, 1) := by decide +kernel
theorem dX2_pushNotice_0 : decode cX2_pushNotice 0 = .ok (.aload_n 0, 1) := by decide +kernel
theorem dX2_pushNotice_1 : decode cX2_pushNotice 1 = .ok (.getfield 28, 3) := by decide +kernel
theorem dX2_pushNotice_4 : decode cX2_pushNotice 4 = .ok (.sipush 512, 3) := by decide +kernel
theorem dX2_pushNotice_7 : decode cX2_pushNotice 7 = .ok (.if_icmp .lt 4, 3) := by decide +kernel
theorem dX2_pushNotice_10 : decode cX2_pushNotice 10 = .ok (.return_, 1) := by decide +kernel
theorem dX2_pushNotice_11 : decode cX2_pushNotice 11 = .ok (.aload_n 0, 1) := by decide +kernel
theorem dX2_pushNotice_12 : decode cX2_pushNotice 12 = .ok (.getfield 25, 3) := by decide +kernel
theorem dX2_pushNotice_15 : decode cX2_pushNotice 15 = .ok (.ifnonnull 11, 3) := by decide +kernel
theorem dX2_pushNotice_18 : decode cX2_pushNotice 18 = .ok (.aload_n 0, 1) := by decide +kernel
theorem dX2_pushNotice_19 : decode cX2_pushNotice 19 = .ok (.aload_n 1, 1) := by decide +kernel
theorem dX2_pushNotice_20 : decode cX2_pushNotice 20 = .ok (.putfield 21, 3) := by decide +kernel
theorem dX2_pushNotice_23 : decode cX2_pushNotice 23 = .ok (.goto 11, 3) := by decide +kernel
theorem dX2_pushNotice_26 : decode cX2_pushNotice 26 = .ok (.aload_n 0, 1) := by decide +kernel
theorem dX2_pushNotice_27 : decode cX2_pushNotice 27 = .ok (.getfield 25, 3) := by decide +kernel
theorem dX2_pushNotice_30 : decode cX2_pushNotice 30 = .ok (.aload_n 1, 1) := by decide +kernel
theorem dX2_pushNotice_31 : decode cX2_pushNotice 31 = .ok (.putfield 49, 3) := by decide +kernel
theorem dX2_pushNotice_34 : decode cX2_pushNotice 34 = .ok (.aload_n 0, 1) := by decide +kernel
theorem dX2_pushNotice_35 : decode cX2_pushNotice 35 = .ok (.aload_n 1, 1) := by decide +kernel
theorem dX2_pushNotice_36 : decode cX2_pushNotice 36 = .ok (.putfield 25, 3) := by decide +kernel
theorem dX2_pushNotice_39 : decode cX2_pushNotice 39 = .ok (.aload_n 0, 1) := by decide +kernel
theorem dX2_pushNotice_40 : decode cX2_pushNotice 40 = .ok (.dup, 1) := by decide +kernel
theorem dX2_pushNotice_41 : decode cX2_pushNotice 41 = .ok (.getfield 28, 3) := by decide +kernel
theorem dX2_pushNotice_44 : decode cX2_pushNotice 44 = .ok (.iconst 1, 1) := by decide +kernel
theorem dX2_pushNotice_45 : decode cX2_pushNotice 45 = .ok (.iadd, 1) := by decide +kernel
theorem dX2_pushNotice_46 : decode cX2_pushNotice 46 = .ok (.putfield 28, 3) := by decide +kernel
theorem dX2_pushNotice_49 : decode cX2_pushNotice 49 = .ok (.return_, 1) := by decide +kernel
theorem dX2_pullNotice_0 : decode cX2_pullNotice 0 = .ok (.aload_n 0, 1) := by decide +kernel
theorem dX2_pullNotice_1 : decode cX2_pullNotice 1 = .ok (.getfield 21, 3) := by decide +kernel
theorem dX2_pullNotice_4 : decode cX2_pullNotice 4 = .ok (.astore_n 1, 1) := by decide +kernel
theorem dX2_pullNotice_5 : decode cX2_pullNotice 5 = .ok (.aload_n 1, 1) := by decide +kernel
theorem dX2_pullNotice_6 : decode cX2_pullNotice 6 = .ok (.ifnonnull 5, 3) := by decide +kernel
theorem dX2_pullNotice_9 : decode cX2_pullNotice 9 = .ok (.aconst_null, 1) := by decide +kernel
theorem dX2_pullNotice_10 : decode cX2_pullNotice 10 = .ok (.areturn, 1) := by decide +kernel
theorem dX2_pullNotice_11 : decode cX2_pullNotice 11 = .ok (.aload_n 0, 1) := by decide +kernel
theorem dX2_pullNotice_12 : decode cX2_pullNotice 12 = .ok (.aload_n 1, 1) := by decide +kernel
theorem dX2_pullNotice_13 : decode cX2_pullNotice 13 = .ok (.getfield 49, 3) := by decide +kernel
theorem dX2_pullNotice_16 : decode cX2_pullNotice 16 = .ok (.putfield 21, 3) := by decide +kernel
theorem dX2_pullNotice_19 : decode cX2_pullNotice 19 = .ok (.aload_n 0, 1) := by decide +kernel
theorem dX2_pullNotice_20 : decode cX2_pullNotice 20 = .ok (.getfield 21, 3) := by decide +kernel
theorem dX2_pullNotice_23 : decode cX2_pullNotice 23 = .ok (.ifnonnull 8, 3) := by decide +kernel
theorem dX2_pullNotice_26 : decode cX2_pullNotice 26 = .ok (.aload_n 0, 1) := by decide +kernel
theorem dX2_pullNotice_27 : decode cX2_pullNotice 27 = .ok (.aconst_null, 1) := by decide +kernel
theorem dX2_pullNotice_28 : decode cX2_pullNotice 28 = .ok (.putfield 25, 3) := by decide +kernel
theorem dX2_pullNotice_31 : decode cX2_pullNotice 31 = .ok (.aload_n 1, 1) := by decide +kernel
theorem dX2_pullNotice_32 : decode cX2_pullNotice 32 = .ok (.aconst_null, 1) := by decide +kernel
theorem dX2_pullNotice_33 : decode cX2_pullNotice 33 = .ok (.putfield 49, 3) := by decide +kernel
theorem dX2_pullNotice_36 : decode cX2_pullNotice 36 = .ok (.aload_n 0, 1) := by decide +kernel
theorem dX2_pullNotice_37 : decode cX2_pullNotice 37 = .ok (.dup, 1) := by decide +kernel
theorem dX2_pullNotice_38 : decode cX2_pullNotice 38 = .ok (.getfield 28, 3) := by decide +kernel
theorem dX2_pullNotice_41 : decode cX2_pullNotice 41 = .ok (.iconst 1, 1) := by decide +kernel
theorem dX2_pullNotice_42 : decode cX2_pullNotice 42 = .ok (.isub, 1) := by decide +kernel
theorem dX2_pullNotice_43 : decode cX2_pullNotice 43 = .ok (.putfield 28, 3) := by decide +kernel
theorem dX2_pullNotice_46 : decode cX2_pullNotice 46 = .ok (.aload_n 1, 1) := by decide +kernel
theorem dX2_pullNotice_47 : decode cX2_pullNotice 47 = .ok (.areturn, 1) := by decide +kernel
theorem dX3_init_0 : decode cX3_init 0 = .ok (.aload_n 0, 1) := by decide +kernel
theorem dX3_init_1 : decode cX3_init 1 = .ok (.invokespecial 1, 3) := by decide +kernel
theorem dX3_init_4 : decode cX3_init 4 = .ok (.aload_n 0, 1) := by decide +kernel
theorem dX3_init_5 : decode cX3_init 5 = .ok (.iconst 0, 1) := by decide +kernel
theorem dX3_init_6 : decode cX3_init 6 = .ok (.putfield 7, 3) := by decide +kernel
theorem dX3_init_9 : decode cX3_init 9 = .ok (.aload_n 0, 1) := by decide +kernel
theorem dX3_init_10 : decode cX3_init 10 = .ok (.iconst 0, 1) := by decide +kernel
theorem dX3_init_11 : decode cX3_init 11 = .ok (.putfield 13, 3) := by decide +kernel
theorem dX3_init_14 : decode cX3_init 14 = .ok (.aload_n 0, 1) := by decide +kernel
theorem dX3_init_15 : decode cX3_init 15 = .ok (.iconst 0, 1) := by decide +kernel
theorem dX3_init_16 : decode cX3_init 16 = .ok (.putfield 17, 3) := by decide +kernel
theorem dX3_init_19 : decode cX3_init 19 = .ok (.aload_n 0, 1) := by decide +kernel
theorem dX3_init_20 : decode cX3_init 20 = .ok (.iconst 0, 1) := by decide +kernel
theorem dX3_init_21 : decode cX3_init 21 = .ok (.putfield 20, 3) := by decide +kernel
theorem dX3_init_24 : decode cX3_init 24 = .ok (.return_, 1) := by decide +kernel
theorem dX4_init_0 : decode cX4_init 0 = .ok (.aload_n 0, 1) := by decide +kernel
theorem dX4_init_1 : decode cX4_init 1 = .ok (.invokespecial 1, 3) := by decide +kernel
theorem dX4_init_4 : decode cX4_init 4 = .ok (.aload_n 0, 1) := by decide +kernel
theorem dX4_init_5 : decode cX4_init 5 = .ok (.aconst_null, 1) := by decide +kernel
theorem dX4_init_6 : decode cX4_init 6 = .ok (.putfield 7, 3) := by decide +kernel
theorem dX4_init_9 : decode cX4_init 9 = .ok (.aload_n 0, 1) := by decide +kernel
theorem dX4_init_10 : decode cX4_init 10 = .ok (.iload_n 1, 1) := by decide +kernel
theorem dX4_init_11 : decode cX4_init 11 = .ok (.putfield 13, 3) := by decide +kernel
theorem dX4_init_14 : decode cX4_init 14 = .ok (.aload_n 0, 1) := by decide +kernel
theorem dX4_init_15 : decode cX4_init 15 = .ok (.iload_n 2, 1) := by decide +kernel
theorem dX4_init_16 : decode cX4_init 16 = .ok (.putfield 17, 3) := by decide +kernel
theorem dX4_init_19 : decode cX4_init 19 = .ok (.aload_n 0, 1) := by decide +kernel
theorem dX4_init_20 : decode cX4_init 20 = .ok (.iload_n 3, 1) := by decide +kernel
theorem dX4_init_21 : decode cX4_init 21 = .ok (.putfield 20, 3) := by decide +kernel
theorem dX4_init_24 : decode cX4_init 24 = .ok (.aload_n 0, 1) := by decide +kernel
theorem dX4_init_25 : decode cX4_init 25 = .ok (.iload 4, 2) := by decide +kernel
theorem dX4_init_27 : decode cX4_init 27 = .ok (.putfield 23, 3) := by decide +kernel
theorem dX4_init_30 : decode cX4_init 30 = .ok (.aload_n 0, 1) := by decide +kernel
theorem dX4_init_31 : decode cX4_init 31 = .ok (.iload 5, 2) := by decide +kernel
theorem dX4_init_33 : decode cX4_init 33 = .ok (.putfield 26, 3) := by decide +kernel
theorem dX4_init_36 : decode cX4_init 36 = .ok (.return_, 1) := by decide +kernel
theorem dX5_init_0 : decode cX5_init 0 = .ok (.aload_n 0, 1) := by decide +kernel
theorem dX5_init_1 : decode cX5_init 1 = .ok (.invokespecial 3, 3) := by decide +kernel
theorem dX5_init_4 : decode cX5_init 4 = .ok (.aload_n 0, 1) := by decide +kernel
theorem dX5_init_5 : decode cX5_init 5 = .ok (.iconst 0, 1) := by decide +kernel
theorem dX5_init_6 : decode cX5_init 6 = .ok (.putfield 9, 3) := by decide +kernel
theorem dX5_init_9 : decode cX5_init 9 = .ok (.aload_n 0, 1) := by decide +kernel
theorem dX5_init_10 : decode cX5_init 10 = .ok (.iconst 0, 1) := by decide +kernel
theorem dX5_init_11 : decode cX5_init 11 = .ok (.putfield 15, 3) := by decide +kernel
theorem dX5_init_14 : decode cX5_init 14 = .ok (.aload_n 0, 1) := by decide +kernel
theorem dX5_init_15 : decode cX5_init 15 = .ok (.iconst 0, 1) := by decide +kernel
theorem dX5_init_16 : decode cX5_init 16 = .ok (.putfield 18, 3) := by decide +kernel
theorem dX5_init_19 : decode cX5_init 19 = .ok (.aload_n 0, 1) := by decide +kernel
theorem dX5_init_20 : decode cX5_init 20 = .ok (.iconst 0, 1) := by decide +kernel
theorem dX5_init_21 : decode cX5_init 21 = .ok (.putfield 21, 3) := by decide +kernel
theorem dX5_init_24 : decode cX5_init 24 = .ok (.aload_n 0, 1) := by decide +kernel
theorem dX5_init_25 : decode cX5_init 25 = .ok (.iconst 0, 1) := by decide +kernel
theorem dX5_init_26 : decode cX5_init 26 = .ok (.putfield 24, 3) := by decide +kernel
theorem dX5_init_29 : decode cX5_init 29 = .ok (.aload_n 0, 1) := by decide +kernel
theorem dX5_init_30 : decode cX5_init 30 = .ok (.iconst 0, 1) := by decide +kernel
theorem dX5_init_31 : decode cX5_init 31 = .ok (.putfield 27, 3) := by decide +kernel
theorem dX5_init_34 : decode cX5_init 34 = .ok (.aload_n 0, 1) := by decide +kernel
theorem dX5_init_35 : decode cX5_init 35 = .ok (.iconst 0, 1) := by decide +kernel
theorem dX5_init_36 : decode cX5_init 36 = .ok (.putfield 30, 3) := by decide +kernel
theorem dX5_init_39 : decode cX5_init 39 = .ok (.aload_n 0, 1) := by decide +kernel
theorem dX5_init_40 : decode cX5_init 40 = .ok (.iconst 0, 1) := by decide +kernel
theorem dX5_init_41 : decode cX5_init 41 = .ok (.putfield 33, 3) := by decide +kernel
theorem dX5_init_44 : decode cX5_init 44 = .ok (.aload_n 0, 1) := by decide +kernel
theorem dX5_init_45 : decode cX5_init 45 = .ok (.iconst 0, 1) := by decide +kernel
theorem dX5_init_46 : decode cX5_init 46 = .ok (.putfield 36, 3) := by decide +kernel
theorem dX5_init_49 : decode cX5_init 49 = .ok (.aload_n 0, 1) := by decide +kernel
theorem dX5_init_50 : decode cX5_init 50 = .ok (.iconst 0, 1) := by decide +kernel
theorem dX5_init_51 : decode cX5_init 51 = .ok (.putfield 39, 3) := by decide +kernel
theorem dX5_init_54 : decode cX5_init 54 = .ok (.return_, 1) := by decide +kernel
theorem dX5_beAnswer_0 : decode cX5_beAnswer 0 = .ok (.aload_n 0, 1) := by decide +kernel
theorem dX5_beAnswer_1 : decode cX5_beAnswer 1 = .ok (.iload_n 1, 1) := by decide +kernel
theorem dX5_beAnswer_2 : decode cX5_beAnswer 2 = .ok (.putfield 18, 3) := by decide +kernel
theorem dX5_beAnswer_5 : decode cX5_beAnswer 5 = .ok (.aload_n 0, 1) := by decide +kernel
theorem dX5_beAnswer_6 : decode cX5_beAnswer 6 = .ok (.iload_n 2, 1) := by decide +kernel
theorem dX5_beAnswer_7 : decode cX5_beAnswer 7 = .ok (.putfield 21, 3) := by decide +kernel
theorem dX5_beAnswer_10 : decode cX5_beAnswer 10 = .ok (.aload_n 0, 1) := by decide +kernel
theorem dX5_beAnswer_11 : decode cX5_beAnswer 11 = .ok (.iload_n 3, 1) := by decide +kernel
theorem dX5_beAnswer_12 : decode cX5_beAnswer 12 = .ok (.putfield 24, 3) := by decide +kernel
theorem dX5_beAnswer_15 : decode cX5_beAnswer 15 = .ok (.return_, 1) := by decide +kernel
theorem dX5_beRequest_0 : decode cX5_beRequest 0 = .ok (.aload_n 0, 1) := by decide +kernel
theorem dX5_beRequest_1 : decode cX5_beRequest 1 = .ok (.iconst 0, 1) := by decide +kernel
