theorem dX10_next_94 : decode cX10_next 94 = .ok (.invokestatic 145, 3) := by decide +kernel
theorem dX10_next_97 : decode cX10_next 97 = .ok (.ifCond .eq 7, 3) := by decide +kernel
theorem dX10_next_100 : decode cX10_next 100 = .ok (.iconst 1, 1) := by decide +kernel
theorem dX10_next_101 : decode cX10_next 101 = .ok (.goto 4, 3) := by decide +kernel
theorem dX10_next_104 : decode cX10_next 104 = .ok (.iconst 0, 1) := by decide +kernel
theorem dX10_next_105 : decode cX10_next 105 = .ok (.istore_n 1, 1) := by decide +kernel
theorem dX10_next_106 : decode cX10_next 106 = .ok (.aload_n 0, 1) := by decide +kernel
theorem dX10_next_107 : decode cX10_next 107 = .ok (.getfield 142, 3) := by decide +kernel
theorem dX10_next_110 : decode cX10_next 110 = .ok (.aload_n 0, 1) := by decide +kernel
theorem dX10_next_111 : decode cX10_next 111 = .ok (.getfield 128, 3) := by decide +kernel
theorem dX10_next_114 : decode cX10_next 114 = .ok (.if_icmp .ge 22, 3) := by decide +kernel
theorem dX10_next_117 : decode cX10_next 117 = .ok (.aload_n 0, 1) := by decide +kernel
theorem dX10_next_118 : decode cX10_next 118 = .ok (.getfield 83, 3) := by decide +kernel
theorem dX10_next_121 : decode cX10_next 121 = .ok (.aload_n 0, 1) := by decide +kernel
theorem dX10_next_122 : decode cX10_next 122 = .ok (.getfield 142, 3) := by decide +kernel
theorem dX10_next_125 : decode cX10_next 125 = .ok (.iaload, 1) := by decide +kernel
theorem dX10_next_126 : decode cX10_next 126 = .ok (.invokestatic 149, 3) := by decide +kernel
theorem dX10_next_129 : decode cX10_next 129 = .ok (.ifCond .eq 7, 3) := by decide +kernel
theorem dX10_next_132 : decode cX10_next 132 = .ok (.iconst 1, 1) := by decide +kernel
theorem dX10_next_133 : decode cX10_next 133 = .ok (.goto 4, 3) := by decide +kernel
theorem dX10_next_136 : decode cX10_next 136 = .ok (.iconst 0, 1) := by decide +kernel
theorem dX10_next_137 : decode cX10_next 137 = .ok (.istore_n 2, 1) := by decide +kernel
theorem dX10_next_138 : decode cX10_next 138 = .ok (.aload_n 0, 1) := by decide +kernel
theorem dX10_next_139 : decode cX10_next 139 = .ok (.getfield 139, 3) := by decide +kernel
theorem dX10_next_142 : decode cX10_next 142 = .ok (.aload_n 0, 1) := by decide +kernel
theorem dX10_next_143 : decode cX10_next 143 = .ok (.getfield 128, 3) := by decide +kernel
theorem dX10_next_146 : decode cX10_next 146 = .ok (.if_icmp .ge 54, 3) := by decide +kernel
theorem dX10_next_149 : decode cX10_next 149 = .ok (.iload_n 1, 1) := by decide +kernel
theorem dX10_next_150 : decode cX10_next 150 = .ok (.ifCond .eq 18, 3) := by decide +kernel
theorem dX10_next_153 : decode cX10_next 153 = .ok (.aload_n 0, 1) := by decide +kernel
theorem dX10_next_154 : decode cX10_next 154 = .ok (.getfield 83, 3) := by decide +kernel
theorem dX10_next_157 : decode cX10_next 157 = .ok (.aload_n 0, 1) := by decide +kernel
theorem dX10_next_158 : decode cX10_next 158 = .ok (.getfield 139, 3) := by decide +kernel
theorem dX10_next_161 : decode cX10_next 161 = .ok (.iaload, 1) := by decide +kernel
theorem dX10_next_162 : decode cX10_next 162 = .ok (.invokestatic 145, 3) := by decide +kernel
theorem dX10_next_165 : decode cX10_next 165 = .ok (.ifCond .ne 22, 3) := by decide +kernel
theorem dX10_next_168 : decode cX10_next 168 = .ok (.iload_n 2, 1) := by decide +kernel
theorem dX10_next_169 : decode cX10_next 169 = .ok (.ifCond .eq 31, 3) := by decide +kernel
theorem dX10_next_172 : decode cX10_next 172 = .ok (.aload_n 0, 1) := by decide +kernel
theorem dX10_next_173 : decode cX10_next 173 = .ok (.getfield 83, 3) := by decide +kernel
theorem dX10_next_176 : decode cX10_next 176 = .ok (.aload_n 0, 1) := by decide +kernel
theorem dX10_next_177 : decode cX10_next 177 = .ok (.getfield 139, 3) := by decide +kernel
theorem dX10_next_180 : decode cX10_next 180 = .ok (.iaload, 1) := by decide +kernel
theorem dX10_next_181 : decode cX10_next 181 = .ok (.invokestatic 149, 3) := by decide +kernel
theorem dX10_next_184 : decode cX10_next 184 = .ok (.ifCond .eq 16, 3) := by decide +kernel
theorem dX10_next_187 : decode cX10_next 187 = .ok (.aload_n 0, 1) := by decide +kernel
theorem dX10_next_188 : decode cX10_next 188 = .ok (.dup, 1) := by decide +kernel
theorem dX10_next_189 : decode cX10_next 189 = .ok (.getfield 139, 3) := by decide +kernel
theorem dX10_next_192 : decode cX10_next 192 = .ok (.iconst 1, 1) := by decide +kernel
theorem dX10_next_193 : decode cX10_next 193 = .ok (.iadd, 1) := by decide +kernel
theorem dX10_next_194 : decode cX10_next 194 = .ok (.putfield 139, 3) := by decide +kernel
theorem dX10_next_197 : decode cX10_next 197 = .ok (.goto (-59), 3) := by decide +kernel
theorem dX10_next_200 : decode cX10_next 200 = .ok (.return_, 1) := by decide +kernel
theorem dX10_wordHere_0 : decode cX10_wordHere 0 = .ok (.iconst 0, 1) := by decide +kernel
theorem dX10_wordHere_1 : decode cX10_wordHere 1 = .ok (.istore_n 1, 1) := by decide +kernel
theorem dX10_wordHere_2 : decode cX10_wordHere 2 = .ok (.iload_n 1, 1) := by decide +kernel
theorem dX10_wordHere_3 : decode cX10_wordHere 3 = .ok (.bipush 6, 2) := by decide +kernel
theorem dX10_wordHere_5 : decode cX10_wordHere 5 = .ok (.if_icmp .ge 110, 3) := by decide +kernel
theorem dX10_wordHere_8 : decode cX10_wordHere 8 = .ok (.aload_n 0, 1) := by decide +kernel
theorem dX10_wordHere_9 : decode cX10_wordHere 9 = .ok (.getfield 139, 3) := by decide +kernel
theorem dX10_wordHere_12 : decode cX10_wordHere 12 = .ok (.aload_n 0, 1) := by decide +kernel
theorem dX10_wordHere_13 : decode cX10_wordHere 13 = .ok (.getfield 142, 3) := by decide +kernel
theorem dX10_wordHere_16 : decode cX10_wordHere 16 = .ok (.if_icmp .le 21, 3) := by decide +kernel
theorem dX10_wordHere_19 : decode cX10_wordHere 19 = .ok (.aload_n 0, 1) := by decide +kernel
theorem dX10_wordHere_20 : decode cX10_wordHere 20 = .ok (.getfield 139, 3) := by decide +kernel
theorem dX10_wordHere_23 : decode cX10_wordHere 23 = .ok (.aload_n 0, 1) := by decide +kernel
theorem dX10_wordHere_24 : decode cX10_wordHere 24 = .ok (.getfield 142, 3) := by decide +kernel
theorem dX10_wordHere_27 : decode cX10_wordHere 27 = .ok (.isub, 1) := by decide +kernel
theorem dX10_wordHere_28 : decode cX10_wordHere 28 = .ok (.bipush 6, 2) := by decide +kernel
theorem dX10_wordHere_30 : decode cX10_wordHere 30 = .ok (.if_icmp .ge 7, 3) := by decide +kernel
theorem dX10_wordHere_33 : decode cX10_wordHere 33 = .ok (.iconst 1, 1) := by decide +kernel
theorem dX10_wordHere_34 : decode cX10_wordHere 34 = .ok (.goto 4, 3) := by decide +kernel
theorem dX10_wordHere_37 : decode cX10_wordHere 37 = .ok (.iconst 0, 1) := by decide +kernel
theorem dX10_wordHere_38 : decode cX10_wordHere 38 = .ok (.istore_n 2, 1) := by decide +kernel
theorem dX10_wordHere_39 : decode cX10_wordHere 39 = .ok (.iconst 0, 1) := by decide +kernel
theorem dX10_wordHere_40 : decode cX10_wordHere 40 = .ok (.istore_n 3, 1) := by decide +kernel
theorem dX10_wordHere_41 : decode cX10_wordHere 41 = .ok (.iload_n 3, 1) := by decide +kernel
theorem dX10_wordHere_42 : decode cX10_wordHere 42 = .ok (.iconst 5, 1) := by decide +kernel
theorem dX10_wordHere_43 : decode cX10_wordHere 43 = .ok (.if_icmp .ge 60, 3) := by decide +kernel
theorem dX10_wordHere_46 : decode cX10_wordHere 46 = .ok (.iload_n 2, 1) := by decide +kernel
theorem dX10_wordHere_47 : decode cX10_wordHere 47 = .ok (.ifCond .eq 56, 3) := by decide +kernel
theorem dX10_wordHere_50 : decode cX10_wordHere 50 = .ok (.aload_n 0, 1) := by decide +kernel
theorem dX10_wordHere_51 : decode cX10_wordHere 51 = .ok (.getfield 89, 3) := by decide +kernel
theorem dX10_wordHere_54 : decode cX10_wordHere 54 = .ok (.iconst 5, 1) := by decide +kernel
theorem dX10_wordHere_55 : decode cX10_wordHere 55 = .ok (.iload_n 1, 1) := by decide +kernel
theorem dX10_wordHere_56 : decode cX10_wordHere 56 = .ok (.imul, 1) := by decide +kernel
theorem dX10_wordHere_57 : decode cX10_wordHere 57 = .ok (.iload_n 3, 1) := by decide +kernel
theorem dX10_wordHere_58 : decode cX10_wordHere 58 = .ok (.iadd, 1) := by decide +kernel
theorem dX10_wordHere_59 : decode cX10_wordHere 59 = .ok (.iaload, 1) := by decide +kernel
theorem dX10_wordHere_60 : decode cX10_wordHere 60 = .ok (.aload_n 0, 1) := by decide +kernel
theorem dX10_wordHere_61 : decode cX10_wordHere 61 = .ok (.getfield 142, 3) := by decide +kernel
theorem dX10_wordHere_64 : decode cX10_wordHere 64 = .ok (.iload_n 3, 1) := by decide +kernel
theorem dX10_wordHere_65 : decode cX10_wordHere 65 = .ok (.iadd, 1) := by decide +kernel
theorem dX10_wordHere_66 : decode cX10_wordHere 66 = .ok (.aload_n 0, 1) := by decide +kernel
theorem dX10_wordHere_67 : decode cX10_wordHere 67 = .ok (.getfield 139, 3) := by decide +kernel
theorem dX10_wordHere_70 : decode cX10_wordHere 70 = .ok (.if_icmp .ge 17, 3) := by decide +kernel
theorem dX10_wordHere_73 : decode cX10_wordHere 73 = .ok (.aload_n 0, 1) := by decide +kernel
theorem dX10_wordHere_74 : decode cX10_wordHere 74 = .ok (.getfield 83, 3) := by decide +kernel
theorem dX10_wordHere_77 : decode cX10_wordHere 77 = .ok (.aload_n 0, 1) := by decide +kernel
theorem dX10_wordHere_78 : decode cX10_wordHere 78 = .ok (.getfield 142, 3) := by decide +kernel
theorem dX10_wordHere_81 : decode cX10_wordHere 81 = .ok (.iload_n 3, 1) := by decide +kernel
theorem dX10_wordHere_82 : decode cX10_wordHere 82 = .ok (.iadd, 1) := by decide +kernel
theorem dX10_wordHere_83 : decode cX10_wordHere 83 = .ok (.iaload, 1) := by decide +kernel
theorem dX10_wordHere_84 : decode cX10_wordHere 84 = .ok (.goto 4, 3) := by decide +kernel
theorem dX10_wordHere_87 : decode cX10_wordHere 87 = .ok (.iconst 0, 1) := by decide +kernel
theorem dX10_wordHere_88 : decode cX10_wordHere 88 = .ok (.if_icmp .ne 7, 3) := by decide +kernel
theorem dX10_wordHere_91 : decode cX10_wordHere 91 = .ok (.iconst 1, 1) := by decide +kernel
theorem dX10_wordHere_92 : decode cX10_wordHere 92 = .ok (.goto 4, 3) := by decide +kernel
theorem dX10_wordHere_95 : decode cX10_wordHere 95 = .ok (.iconst 0, 1) := by decide +kernel
theorem dX10_wordHere_96 : decode cX10_wordHere 96 = .ok (.istore_n 2, 1) := by decide +kernel
theorem dX10_wordHere_97 : decode cX10_wordHere 97 = .ok (.iinc 3 1, 3) := by decide +kernel
theorem dX10_wordHere_100 : decode cX10_wordHere 100 = .ok (.goto (-59), 3) := by decide +kernel
theorem dX10_wordHere_103 : decode cX10_wordHere 103 = .ok (.iload_n 2, 1) := by decide +kernel
theorem dX10_wordHere_104 : decode cX10_wordHere 104 = .ok (.ifCond .eq 5, 3) := by decide +kernel
theorem dX10_wordHere_107 : decode cX10_wordHere 107 = .ok (.iload_n 1, 1) := by decide +kernel
theorem dX10_wordHere_108 : decode cX10_wordHere 108 = .ok (.ireturn, 1) := by decide +kernel
theorem dX10_wordHere_109 : decode cX10_wordHere 109 = .ok (.iinc 1 1, 3) := by decide +kernel
theorem dX10_wordHere_112 : decode cX10_wordHere 112 = .ok (.goto (-110), 3) := by decide +kernel
theorem dX10_wordHere_115 : decode cX10_wordHere 115 = .ok (.iconst (-1), 1) := by decide +kernel
theorem dX10_wordHere_116 : decode cX10_wordHere 116 = .ok (.ireturn, 1) := by decide +kernel
theorem dX10_reads_0 : decode cX10_reads 0 = .ok (.aload_n 0, 1) := by decide +kernel
theorem dX10_reads_1 : decode cX10_reads 1 = .ok (.getfield 142, 3) := by decide +kernel
theorem dX10_reads_4 : decode cX10_reads 4 = .ok (.aload_n 0, 1) := by decide +kernel
theorem dX10_reads_5 : decode cX10_reads 5 = .ok (.getfield 128, 3) := by decide +kernel
theorem dX10_reads_8 : decode cX10_reads 8 = .ok (.if_icmp .eq 31, 3) := by decide +kernel
theorem dX10_reads_11 : decode cX10_reads 11 = .ok (.aload_n 0, 1) := by decide +kernel
theorem dX10_reads_12 : decode cX10_reads 12 = .ok (.getfield 83, 3) := by decide +kernel
theorem dX10_reads_15 : decode cX10_reads 15 = .ok (.aload_n 0, 1) := by decide +kernel
theorem dX10_reads_16 : decode cX10_reads 16 = .ok (.getfield 142, 3) := by decide +kernel
theorem dX10_reads_19 : decode cX10_reads 19 = .ok (.iaload, 1) := by decide +kernel
theorem dX10_reads_20 : decode cX10_reads 20 = .ok (.invokestatic 149, 3) := by decide +kernel
theorem dX10_reads_23 : decode cX10_reads 23 = .ok (.ifCond .eq 16, 3) := by decide +kernel
theorem dX10_reads_26 : decode cX10_reads 26 = .ok (.aload_n 0, 1) := by decide +kernel
theorem dX10_reads_27 : decode cX10_reads 27 = .ok (.getfield 139, 3) := by decide +kernel
theorem dX10_reads_30 : decode cX10_reads 30 = .ok (.aload_n 0, 1) := by decide +kernel
theorem dX10_reads_31 : decode cX10_reads 31 = .ok (.getfield 142, 3) := by decide +kernel
theorem dX10_reads_34 : decode cX10_reads 34 = .ok (.isub, 1) := by decide +kernel
theorem dX10_reads_35 : decode cX10_reads 35 = .ok (.iconst 4, 1) := by decide +kernel
theorem dX10_reads_36 : decode cX10_reads 36 = .ok (.if_icmp .le 5, 3) := by decide +kernel
theorem dX10_reads_39 : decode cX10_reads 39 = .ok (.iconst 0, 1) := by decide +kernel
theorem dX10_reads_40 : decode cX10_reads 40 = .ok (.ireturn, 1) := by decide +kernel
theorem dX10_reads_41 : decode cX10_reads 41 = .ok (.iconst 0, 1) := by decide +kernel
theorem dX10_reads_42 : decode cX10_reads 42 = .ok (.istore 4, 2) := by decide +kernel
theorem dX10_reads_44 : decode cX10_reads 44 = .ok (.aload_n 0, 1) := by decide +kernel
theorem dX10_reads_45 : decode cX10_reads 45 = .ok (.getfield 142, 3) := by decide +kernel
theorem dX10_reads_48 : decode cX10_reads 48 = .ok (.istore 5, 2) := by decide +kernel
theorem dX10_reads_50 : decode cX10_reads 50 = .ok (.iload 5, 2) := by decide +kernel
theorem dX10_reads_52 : decode cX10_reads 52 = .ok (.aload_n 0, 1) := by decide +kernel
theorem dX10_reads_53 : decode cX10_reads 53 = .ok (.getfield 139, 3) := by decide +kernel
theorem dX10_reads_56 : decode cX10_reads 56 = .ok (.if_icmp .ge 27, 3) := by decide +kernel
theorem dX10_reads_59 : decode cX10_reads 59 = .ok (.bipush 10, 2) := by decide +kernel
theorem dX10_reads_61 : decode cX10_reads 61 = .ok (.iload 4, 2) := by decide +kernel
theorem dX10_reads_63 : decode cX10_reads 63 = .ok (.imul, 1) := by decide +kernel
theorem dX10_reads_64 : decode cX10_reads 64 = .ok (.aload_n 0, 1) := by decide +kernel
theorem dX10_reads_65 : decode cX10_reads 65 = .ok (.getfield 83, 3) := by decide +kernel
theorem dX10_reads_68 : decode cX10_reads 68 = .ok (.iload 5, 2) := by decide +kernel
theorem dX10_reads_70 : decode cX10_reads 70 = .ok (.iaload, 1) := by decide +kernel
theorem dX10_reads_71 : decode cX10_reads 71 = .ok (.iadd, 1) := by decide +kernel
theorem dX10_reads_72 : decode cX10_reads 72 = .ok (.bipush 48, 2) := by decide +kernel
theorem dX10_reads_74 : decode cX10_reads 74 = .ok (.isub, 1) := by decide +kernel
theorem dX10_reads_75 : decode cX10_reads 75 = .ok (.istore 4, 2) := by decide +kernel
theorem dX10_reads_77 : decode cX10_reads 77 = .ok (.iinc 5 1, 3) := by decide +kernel
theorem dX10_reads_80 : decode cX10_reads 80 = .ok (.goto (-30), 3) := by decide +kernel
theorem dX10_reads_83 : decode cX10_reads 83 = .ok (.iload 4, 2) := by decide +kernel
theorem dX10_reads_85 : decode cX10_reads 85 = .ok (.i2l, 1) := by decide +kernel
theorem dX10_reads_86 : decode cX10_reads 86 = .ok (.iload_n 2, 1) := by decide +kernel
theorem dX10_reads_87 : decode cX10_reads 87 = .ok (.i2l, 1) := by decide +kernel
theorem dX10_reads_88 : decode cX10_reads 88 = .ok (.iload_n 3, 1) := by decide +kernel
theorem dX10_reads_89 : decode cX10_reads 89 = .ok (.i2l, 1) := by decide +kernel
theorem dX10_reads_90 : decode cX10_reads 90 = .ok (.invokestatic 95, 3) := by decide +kernel
theorem dX10_reads_93 : decode cX10_reads 93 = .ok (.ifCond .ne 5, 3) := by decide +kernel
theorem dX10_reads_96 : decode cX10_reads 96 = .ok (.iconst 0, 1) := by decide +kernel
theorem dX10_reads_97 : decode cX10_reads 97 = .ok (.ireturn, 1) := by decide +kernel
theorem dX10_reads_98 : decode cX10_reads 98 = .ok (.aload_n 0, 1) := by decide +kernel
theorem dX10_reads_99 : decode cX10_reads 99 = .ok (.getfield 86, 3) := by decide +kernel
theorem dX10_reads_102 : decode cX10_reads 102 = .ok (.iload_n 1, 1) := by decide +kernel
theorem dX10_reads_103 : decode cX10_reads 103 = .ok (.iload 4, 2) := by decide +kernel
theorem dX10_reads_105 : decode cX10_reads 105 = .ok (.iastore, 1) := by decide +kernel
theorem dX10_reads_106 : decode cX10_reads 106 = .ok (.aload_n 0, 1) := by decide +kernel
theorem dX10_reads_107 : decode cX10_reads 107 = .ok (.invokevirtual 152, 3) := by decide +kernel
theorem dX10_reads_110 : decode cX10_reads 110 = .ok (.iconst 1, 1) := by decide +kernel
theorem dX10_reads_111 : decode cX10_reads 111 = .ok (.ireturn, 1) := by decide +kernel
theorem dX10_readsRest_0 : decode cX10_readsRest 0 = .ok (.iload_n 1, 1) := by decide +kernel
theorem dX10_readsRest_1 : decode cX10_readsRest 1 = .ok (.tableswitch 206 0 4 #[35, 37, 103, 142, 169], 35) := by decide +kernel
theorem dX10_readsRest_36 : decode cX10_readsRest 36 = .ok (.iconst 1, 1) := by decide +kernel
theorem dX10_readsRest_37 : decode cX10_readsRest 37 = .ok (.ireturn, 1) := by decide +kernel
theorem dX10_readsRest_38 : decode cX10_readsRest 38 = .ok (.aload_n 0, 1) := by decide +kernel
theorem dX10_readsRest_39 : decode cX10_readsRest 39 = .ok (.iconst 0, 1) := by decide +kernel
theorem dX10_readsRest_40 : decode cX10_readsRest 40 = .ok (.iconst 0, 1) := by decide +kernel
theorem dX10_readsRest_41 : decode cX10_readsRest 41 = .ok (.iconst 1, 1) := by decide +kernel
theorem dX10_readsRest_42 : decode cX10_readsRest 42 = .ok (.invokevirtual 155, 3) := by decide +kernel
theorem dX10_readsRest_45 : decode cX10_readsRest 45 = .ok (.ifCond .eq 57, 3) := by decide +kernel
theorem dX10_readsRest_48 : decode cX10_readsRest 48 = .ok (.aload_n 0, 1) := by decide +kernel
theorem dX10_readsRest_49 : decode cX10_readsRest 49 = .ok (.iconst 1, 1) := by decide +kernel
theorem dX10_readsRest_50 : decode cX10_readsRest 50 = .ok (.iconst 0, 1) := by decide +kernel
theorem dX10_readsRest_51 : decode cX10_readsRest 51 = .ok (.iconst 3, 1) := by decide +kernel
theorem dX10_readsRest_52 : decode cX10_readsRest 52 = .ok (.invokevirtual 155, 3) := by decide +kernel
theorem dX10_readsRest_55 : decode cX10_readsRest 55 = .ok (.ifCond .eq 47, 3) := by decide +kernel
theorem dX10_readsRest_58 : decode cX10_readsRest 58 = .ok (.aload_n 0, 1) := by decide +kernel
theorem dX10_readsRest_59 : decode cX10_readsRest 59 = .ok (.iconst 2, 1) := by decide +kernel
theorem dX10_readsRest_60 : decode cX10_readsRest 60 = .ok (.iconst 0, 1) := by decide +kernel
theorem dX10_readsRest_61 : decode cX10_readsRest 61 = .ok (.bipush 11, 2) := by decide +kernel
theorem dX10_readsRest_63 : decode cX10_readsRest 63 = .ok (.invokevirtual 155, 3) := by decide +kernel
theorem dX10_readsRest_66 : decode cX10_readsRest 66 = .ok (.ifCond .eq 36, 3) := by decide +kernel
theorem dX10_readsRest_69 : decode cX10_readsRest 69 = .ok (.aload_n 0, 1) := by decide +kernel
theorem dX10_readsRest_70 : decode cX10_readsRest 70 = .ok (.iconst 3, 1) := by decide +kernel
theorem dX10_readsRest_71 : decode cX10_readsRest 71 = .ok (.iconst 1, 1) := by decide +kernel
theorem dX10_readsRest_72 : decode cX10_readsRest 72 = .ok (.bipush 12, 2) := by decide +kernel
theorem dX10_readsRest_74 : decode cX10_readsRest 74 = .ok (.aload_n 0, 1) := by decide +kernel
theorem dX10_readsRest_75 : decode cX10_readsRest 75 = .ok (.getfield 86, 3) := by decide +kernel
theorem dX10_readsRest_78 : decode cX10_readsRest 78 = .ok (.iconst 2, 1) := by decide +kernel
theorem dX10_readsRest_79 : decode cX10_readsRest 79 = .ok (.iaload, 1) := by decide +kernel
theorem dX10_readsRest_80 : decode cX10_readsRest 80 = .ok (.isub, 1) := by decide +kernel
theorem dX10_readsRest_81 : decode cX10_readsRest 81 = .ok (.invokevirtual 155, 3) := by decide +kernel
theorem dX10_readsRest_84 : decode cX10_readsRest 84 = .ok (.ifCond .eq 18, 3) := by decide +kernel
theorem dX10_readsRest_87 : decode cX10_readsRest 87 = .ok (.aload_n 0, 1) := by decide +kernel
theorem dX10_readsRest_88 : decode cX10_readsRest 88 = .ok (.iconst 4, 1) := by decide +kernel
theorem dX10_readsRest_89 : decode cX10_readsRest 89 = .ok (.iconst 0, 1) := by decide +kernel
theorem dX10_readsRest_90 : decode cX10_readsRest 90 = .ok (.bipush 7, 2) := by decide +kernel
theorem dX10_readsRest_92 : decode cX10_readsRest 92 = .ok (.invokevirtual 155, 3) := by decide +kernel
theorem dX10_readsRest_95 : decode cX10_readsRest 95 = .ok (.ifCond .eq 7, 3) := by decide +kernel
theorem dX10_readsRest_98 : decode cX10_readsRest 98 = .ok (.iconst 1, 1) := by decide +kernel
theorem dX10_readsRest_99 : decode cX10_readsRest 99 = .ok (.goto 4, 3) := by decide +kernel
theorem dX10_readsRest_102 : decode cX10_readsRest 102 = .ok (.iconst 0, 1) := by decide +kernel
theorem dX10_readsRest_103 : decode cX10_readsRest 103 = .ok (.ireturn, 1) := by decide +kernel
theorem dX10_readsRest_104 : decode cX10_readsRest 104 = .ok (.aload_n 0, 1) := by decide +kernel
theorem dX10_readsRest_105 : decode cX10_readsRest 105 = .ok (.iconst 0, 1) := by decide +kernel
theorem dX10_readsRest_106 : decode cX10_readsRest 106 = .ok (.iconst 0, 1) := by decide +kernel
theorem dX10_readsRest_107 : decode cX10_readsRest 107 = .ok (.iconst 1, 1) := by decide +kernel
theorem dX10_readsRest_108 : decode cX10_readsRest 108 = .ok (.invokevirtual 155, 3) := by decide +kernel
theorem dX10_readsRest_111 : decode cX10_readsRest 111 = .ok (.ifCond .eq 30, 3) := by decide +kernel
theorem dX10_readsRest_114 : decode cX10_readsRest 114 = .ok (.aload_n 0, 1) := by decide +kernel
theorem dX10_readsRest_115 : decode cX10_readsRest 115 = .ok (.iconst 1, 1) := by decide +kernel
theorem dX10_readsRest_116 : decode cX10_readsRest 116 = .ok (.iconst 0, 1) := by decide +kernel
theorem dX10_readsRest_117 : decode cX10_readsRest 117 = .ok (.bipush 11, 2) := by decide +kernel
theorem dX10_readsRest_119 : decode cX10_readsRest 119 = .ok (.invokevirtual 155, 3) := by decide +kernel
theorem dX10_readsRest_122 : decode cX10_readsRest 122 = .ok (.ifCond .eq 19, 3) := by decide +kernel
theorem dX10_readsRest_125 : decode cX10_readsRest 125 = .ok (.aload_n 0, 1) := by decide +kernel
theorem dX10_readsRest_126 : decode cX10_readsRest 126 = .ok (.iconst 2, 1) := by decide +kernel
theorem dX10_readsRest_127 : decode cX10_readsRest 127 = .ok (.iconst 0, 1) := by decide +kernel
theorem dX10_readsRest_128 : decode cX10_readsRest 128 = .ok (.sipush 9999, 3) := by decide +kernel
theorem dX10_readsRest_131 : decode cX10_readsRest 131 = .ok (.invokevirtual 155, 3) := by decide +kernel
theorem dX10_readsRest_134 : decode cX10_readsRest 134 = .ok (.ifCond .eq 7, 3) := by decide +kernel
theorem dX10_readsRest_137 : decode cX10_readsRest 137 = .ok (.iconst 1, 1) := by decide +kernel
theorem dX10_readsRest_138 : decode cX10_readsRest 138 = .ok (.goto 4, 3) := by decide +kernel
theorem dX10_readsRest_141 : decode cX10_readsRest 141 = .ok (.iconst 0, 1) := by decide +kernel
theorem dX10_readsRest_142 : decode cX10_readsRest 142 = .ok (.ireturn, 1) := by decide +kernel
theorem dX10_readsRest_143 : decode cX10_readsRest 143 = .ok (.aload_n 0, 1) := by decide +kernel
theorem dX10_readsRest_144 : decode cX10_readsRest 144 = .ok (.iconst 0, 1) := by decide +kernel
theorem dX10_readsRest_145 : decode cX10_readsRest 145 = .ok (.iconst 0, 1) := by decide +kernel
theorem dX10_readsRest_146 : decode cX10_readsRest 146 = .ok (.iconst 1, 1) := by decide +kernel
theorem dX10_readsRest_147 : decode cX10_readsRest 147 = .ok (.invokevirtual 155, 3) := by decide +kernel
theorem dX10_readsRest_150 : decode cX10_readsRest 150 = .ok (.ifCond .eq 18, 3) := by decide +kernel
theorem dX10_readsRest_153 : decode cX10_readsRest 153 = .ok (.aload_n 0, 1) := by decide +kernel
theorem dX10_readsRest_154 : decode cX10_readsRest 154 = .ok (.iconst 1, 1) := by decide +kernel
theorem dX10_readsRest_155 : decode cX10_readsRest 155 = .ok (.iconst 1, 1) := by decide +kernel
theorem dX10_readsRest_156 : decode cX10_readsRest 156 = .ok (.bipush 9, 2) := by decide +kernel
theorem dX10_readsRest_158 : decode cX10_readsRest 158 = .ok (.invokevirtual 155, 3) := by decide +kernel
theorem dX10_readsRest_161 : decode cX10_readsRest 161 = .ok (.ifCond .eq 7, 3) := by decide +kernel
theorem dX10_readsRest_164 : decode cX10_readsRest 164 = .ok (.iconst 1, 1) := by decide +kernel
theorem dX10_readsRest_165 : decode cX10_readsRest 165 = .ok (.goto 4, 3) := by decide +kernel
theorem dX10_readsRest_168 : decode cX10_readsRest 168 = .ok (.iconst 0, 1) := by decide +kernel
theorem dX10_readsRest_169 : decode cX10_readsRest 169 = .ok (.ireturn, 1) := by decide +kernel
theorem dX10_readsRest_170 : decode cX10_readsRest 170 = .ok (.aload_n 0, 1) := by decide +kernel
theorem dX10_readsRest_171 : decode cX10_readsRest 171 = .ok (.iconst 0, 1) := by decide +kernel
theorem dX10_readsRest_172 : decode cX10_readsRest 172 = .ok (.iconst 0, 1) := by decide +kernel
theorem dX10_readsRest_173 : decode cX10_readsRest 173 = .ok (.iconst 3, 1) := by decide +kernel
theorem dX10_readsRest_174 : decode cX10_readsRest 174 = .ok (.invokevirtual 155, 3) := by decide +kernel
theorem dX10_readsRest_177 : decode cX10_readsRest 177 = .ok (.ifCond .eq 28, 3) := by decide +kernel
theorem dX10_readsRest_180 : decode cX10_readsRest 180 = .ok (.aload_n 0, 1) := by decide +kernel
theorem dX10_readsRest_181 : decode cX10_readsRest 181 = .ok (.iconst 1, 1) := by decide +kernel
theorem dX10_readsRest_182 : decode cX10_readsRest 182 = .ok (.iconst 0, 1) := by decide +kernel
theorem dX10_readsRest_183 : decode cX10_readsRest 183 = .ok (.iconst 3, 1) := by decide +kernel
theorem dX10_readsRest_184 : decode cX10_readsRest 184 = .ok (.invokevirtual 155, 3) := by decide +kernel
theorem dX10_readsRest_187 : decode cX10_readsRest 187 = .ok (.ifCond .eq 18, 3) := by decide +kernel
theorem dX10_readsRest_190 : decode cX10_readsRest 190 = .ok (.aload_n 0, 1) := by decide +kernel
theorem dX10_readsRest_191 : decode cX10_readsRest 191 = .ok (.iconst 2, 1) := by decide +kernel
theorem dX10_readsRest_192 : decode cX10_readsRest 192 = .ok (.iconst 0, 1) := by decide +kernel
theorem dX10_readsRest_193 : decode cX10_readsRest 193 = .ok (.bipush 11, 2) := by decide +kernel
theorem dX10_readsRest_195 : decode cX10_readsRest 195 = .ok (.invokevirtual 155, 3) := by decide +kernel
theorem dX10_readsRest_198 : decode cX10_readsRest 198 = .ok (.ifCond .eq 7, 3) := by decide +kernel
theorem dX10_readsRest_201 : decode cX10_readsRest 201 = .ok (.iconst 1, 1) := by decide +kernel
theorem dX10_readsRest_202 : decode cX10_readsRest 202 = .ok (.goto 4, 3) := by decide +kernel
theorem dX10_readsRest_205 : decode cX10_readsRest 205 = .ok (.iconst 0, 1) := by decide +kernel
theorem dX10_readsRest_206 : decode cX10_readsRest 206 = .ok (.ireturn, 1) := by decide +kernel
theorem dX10_readsRest_207 : decode cX10_readsRest 207 = .ok (.aload_n 0, 1) := by decide +kernel
theorem dX10_readsRest_208 : decode cX10_readsRest 208 = .ok (.iconst 0, 1) := by decide +kernel
theorem dX10_readsRest_209 : decode cX10_readsRest 209 = .ok (.iconst 0, 1) := by decide +kernel
theorem dX10_readsRest_210 : decode cX10_readsRest 210 = .ok (.iconst 1, 1) := by decide +kernel
theorem dX10_readsRest_211 : decode cX10_readsRest 211 = .ok (.invokevirtual 155, 3) := by decide +kernel
theorem dX10_readsRest_214 : decode cX10_readsRest 214 = .ok (.ireturn, 1) := by decide +kernel
theorem dX10_does_0 : decode cX10_does 0 = .ok (.iload_n 1, 1) := by decide +kernel
theorem dX10_does_1 : decode cX10_does 1 = .ok (.tableswitch 169 0 4 #[35, 42, 82, 112, 132], 35) := by decide +kernel
theorem dX10_does_36 : decode cX10_does 36 = .ok (.aload_n 0, 1) := by decide +kernel
theorem dX10_does_37 : decode cX10_does 37 = .ok (.invokevirtual 159, 3) := by decide +kernel
theorem dX10_does_40 : decode cX10_does 40 = .ok (.goto 140, 3) := by decide +kernel
theorem dX10_does_43 : decode cX10_does 43 = .ok (.aload_n 0, 1) := by decide +kernel
theorem dX10_does_44 : decode cX10_does 44 = .ok (.iconst 4, 1) := by decide +kernel
theorem dX10_does_45 : decode cX10_does 45 = .ok (.aload_n 0, 1) := by decide +kernel
theorem dX10_does_46 : decode cX10_does 46 = .ok (.getfield 86, 3) := by decide +kernel
theorem dX10_does_49 : decode cX10_does 49 = .ok (.iconst 0, 1) := by decide +kernel
theorem dX10_does_50 : decode cX10_does 50 = .ok (.iaload, 1) := by decide +kernel
theorem dX10_does_51 : decode cX10_does 51 = .ok (.imul, 1) := by decide +kernel
theorem dX10_does_52 : decode cX10_does 52 = .ok (.aload_n 0, 1) := by decide +kernel
theorem dX10_does_53 : decode cX10_does 53 = .ok (.getfield 86, 3) := by decide +kernel
theorem dX10_does_56 : decode cX10_does 56 = .ok (.iconst 1, 1) := by decide +kernel
theorem dX10_does_57 : decode cX10_does 57 = .ok (.iaload, 1) := by decide +kernel
theorem dX10_does_58 : decode cX10_does 58 = .ok (.iadd, 1) := by decide +kernel
theorem dX10_does_59 : decode cX10_does 59 = .ok (.aload_n 0, 1) := by decide +kernel
theorem dX10_does_60 : decode cX10_does 60 = .ok (.getfield 86, 3) := by decide +kernel
theorem dX10_does_63 : decode cX10_does 63 = .ok (.iconst 2, 1) := by decide +kernel
theorem dX10_does_64 : decode cX10_does 64 = .ok (.iaload, 1) := by decide +kernel
theorem dX10_does_65 : decode cX10_does 65 = .ok (.aload_n 0, 1) := by decide +kernel
theorem dX10_does_66 : decode cX10_does 66 = .ok (.getfield 86, 3) := by decide +kernel
theorem dX10_does_69 : decode cX10_does 69 = .ok (.iconst 3, 1) := by decide +kernel
theorem dX10_does_70 : decode cX10_does 70 = .ok (.iaload, 1) := by decide +kernel
theorem dX10_does_71 : decode cX10_does 71 = .ok (.aload_n 0, 1) := by decide +kernel
theorem dX10_does_72 : decode cX10_does 72 = .ok (.getfield 86, 3) := by decide +kernel
theorem dX10_does_75 : decode cX10_does 75 = .ok (.iconst 4, 1) := by decide +kernel
theorem dX10_does_76 : decode cX10_does 76 = .ok (.iaload, 1) := by decide +kernel
theorem dX10_does_77 : decode cX10_does 77 = .ok (.invokevirtual 162, 3) := by decide +kernel
theorem dX10_does_80 : decode cX10_does 80 = .ok (.goto 100, 3) := by decide +kernel
theorem dX10_does_83 : decode cX10_does 83 = .ok (.aload_n 0, 1) := by decide +kernel
theorem dX10_does_84 : decode cX10_does 84 = .ok (.getfield 7, 3) := by decide +kernel
theorem dX10_does_87 : decode cX10_does 87 = .ok (.bipush 12, 2) := by decide +kernel
theorem dX10_does_89 : decode cX10_does 89 = .ok (.aload_n 0, 1) := by decide +kernel
theorem dX10_does_90 : decode cX10_does 90 = .ok (.getfield 86, 3) := by decide +kernel
theorem dX10_does_93 : decode cX10_does 93 = .ok (.iconst 0, 1) := by decide +kernel
theorem dX10_does_94 : decode cX10_does 94 = .ok (.iaload, 1) := by decide +kernel
theorem dX10_does_95 : decode cX10_does 95 = .ok (.imul, 1) := by decide +kernel
theorem dX10_does_96 : decode cX10_does 96 = .ok (.aload_n 0, 1) := by decide +kernel
theorem dX10_does_97 : decode cX10_does 97 = .ok (.getfield 86, 3) := by decide +kernel
theorem dX10_does_100 : decode cX10_does 100 = .ok (.iconst 1, 1) := by decide +kernel
theorem dX10_does_101 : decode cX10_does 101 = .ok (.iaload, 1) := by decide +kernel
theorem dX10_does_102 : decode cX10_does 102 = .ok (.iadd, 1) := by decide +kernel
theorem dX10_does_103 : decode cX10_does 103 = .ok (.aload_n 0, 1) := by decide +kernel
theorem dX10_does_104 : decode cX10_does 104 = .ok (.getfield 86, 3) := by decide +kernel
theorem dX10_does_107 : decode cX10_does 107 = .ok (.iconst 2, 1) := by decide +kernel
theorem dX10_does_108 : decode cX10_does 108 = .ok (.iaload, 1) := by decide +kernel
theorem dX10_does_109 : decode cX10_does 109 = .ok (.iastore, 1) := by decide +kernel
theorem dX10_does_110 : decode cX10_does 110 = .ok (.goto 70, 3) := by decide +kernel
theorem dX10_does_113 : decode cX10_does 113 = .ok (.aload_n 0, 1) := by decide +kernel
theorem dX10_does_114 : decode cX10_does 114 = .ok (.getfield 65, 3) := by decide +kernel
theorem dX10_does_117 : decode cX10_does 117 = .ok (.aload_n 0, 1) := by decide +kernel
theorem dX10_does_118 : decode cX10_does 118 = .ok (.getfield 86, 3) := by decide +kernel
theorem dX10_does_121 : decode cX10_does 121 = .ok (.iconst 0, 1) := by decide +kernel
theorem dX10_does_122 : decode cX10_does 122 = .ok (.iaload, 1) := by decide +kernel
theorem dX10_does_123 : decode cX10_does 123 = .ok (.aload_n 0, 1) := by decide +kernel
theorem dX10_does_124 : decode cX10_does 124 = .ok (.getfield 86, 3) := by decide +kernel
theorem dX10_does_127 : decode cX10_does 127 = .ok (.iconst 1, 1) := by decide +kernel
theorem dX10_does_128 : decode cX10_does 128 = .ok (.iaload, 1) := by decide +kernel
theorem dX10_does_129 : decode cX10_does 129 = .ok (.iastore, 1) := by decide +kernel
theorem dX10_does_130 : decode cX10_does 130 = .ok (.goto 50, 3) := by decide +kernel
theorem dX10_does_133 : decode cX10_does 133 = .ok (.aload_n 0, 1) := by decide +kernel
theorem dX10_does_134 : decode cX10_does 134 = .ok (.getfield 59, 3) := by decide +kernel
theorem dX10_does_137 : decode cX10_does 137 = .ok (.aload_n 0, 1) := by decide +kernel
theorem dX10_does_138 : decode cX10_does 138 = .ok (.getfield 86, 3) := by decide +kernel
theorem dX10_does_141 : decode cX10_does 141 = .ok (.iconst 0, 1) := by decide +kernel
theorem dX10_does_142 : decode cX10_does 142 = .ok (.iaload, 1) := by decide +kernel
theorem dX10_does_143 : decode cX10_does 143 = .ok (.aload_n 0, 1) := by decide +kernel
theorem dX10_does_144 : decode cX10_does 144 = .ok (.getfield 86, 3) := by decide +kernel
theorem dX10_does_147 : decode cX10_does 147 = .ok (.iconst 1, 1) := by decide +kernel
theorem dX10_does_148 : decode cX10_does 148 = .ok (.iaload, 1) := by decide +kernel
theorem dX10_does_149 : decode cX10_does 149 = .ok (.iastore, 1) := by decide +kernel
theorem dX10_does_150 : decode cX10_does 150 = .ok (.aload_n 0, 1) := by decide +kernel
theorem dX10_does_151 : decode cX10_does 151 = .ok (.getfield 62, 3) := by decide +kernel
theorem dX10_does_154 : decode cX10_does 154 = .ok (.aload_n 0, 1) := by decide +kernel
theorem dX10_does_155 : decode cX10_does 155 = .ok (.getfield 86, 3) := by decide +kernel
theorem dX10_does_158 : decode cX10_does 158 = .ok (.iconst 0, 1) := by decide +kernel
theorem dX10_does_159 : decode cX10_does 159 = .ok (.iaload, 1) := by decide +kernel
theorem dX10_does_160 : decode cX10_does 160 = .ok (.aload_n 0, 1) := by decide +kernel
theorem dX10_does_161 : decode cX10_does 161 = .ok (.getfield 86, 3) := by decide +kernel
theorem dX10_does_164 : decode cX10_does 164 = .ok (.iconst 2, 1) := by decide +kernel
theorem dX10_does_165 : decode cX10_does 165 = .ok (.iaload, 1) := by decide +kernel
theorem dX10_does_166 : decode cX10_does 166 = .ok (.iastore, 1) := by decide +kernel
theorem dX10_does_167 : decode cX10_does 167 = .ok (.goto 13, 3) := by decide +kernel
theorem dX10_does_170 : decode cX10_does 170 = .ok (.aload_n 0, 1) := by decide +kernel
theorem dX10_does_171 : decode cX10_does 171 = .ok (.aload_n 0, 1) := by decide +kernel
theorem dX10_does_172 : decode cX10_does 172 = .ok (.getfield 86, 3) := by decide +kernel
theorem dX10_does_175 : decode cX10_does 175 = .ok (.iconst 0, 1) := by decide +kernel
theorem dX10_does_176 : decode cX10_does 176 = .ok (.iaload, 1) := by decide +kernel
theorem dX10_does_177 : decode cX10_does 177 = .ok (.invokevirtual 166, 3) := by decide +kernel
theorem dX10_does_180 : decode cX10_does 180 = .ok (.return_, 1) := by decide +kernel
theorem dX10_readsClause_0 : decode cX10_readsClause 0 = .ok (.aload_n 0, 1) := by decide +kernel
theorem dX10_readsClause_1 : decode cX10_readsClause 1 = .ok (.invokevirtual 170, 3) := by decide +kernel
theorem dX10_readsClause_4 : decode cX10_readsClause 4 = .ok (.istore_n 1, 1) := by decide +kernel
theorem dX10_readsClause_5 : decode cX10_readsClause 5 = .ok (.iload_n 1, 1) := by decide +kernel
theorem dX10_readsClause_6 : decode cX10_readsClause 6 = .ok (.iconst (-1), 1) := by decide +kernel
theorem dX10_readsClause_7 : decode cX10_readsClause 7 = .ok (.if_icmp .ne 5, 3) := by decide +kernel
theorem dX10_readsClause_10 : decode cX10_readsClause 10 = .ok (.iconst 0, 1) := by decide +kernel
theorem dX10_readsClause_11 : decode cX10_readsClause 11 = .ok (.ireturn, 1) := by decide +kernel
theorem dX10_readsClause_12 : decode cX10_readsClause 12 = .ok (.aload_n 0, 1) := by decide +kernel
theorem dX10_readsClause_13 : decode cX10_readsClause 13 = .ok (.invokevirtual 152, 3) := by decide +kernel
theorem dX10_readsClause_16 : decode cX10_readsClause 16 = .ok (.aload_n 0, 1) := by decide +kernel
theorem dX10_readsClause_17 : decode cX10_readsClause 17 = .ok (.iload_n 1, 1) := by decide +kernel
theorem dX10_readsClause_18 : decode cX10_readsClause 18 = .ok (.invokevirtual 174, 3) := by decide +kernel
theorem dX10_readsClause_21 : decode cX10_readsClause 21 = .ok (.ifCond .ne 5, 3) := by decide +kernel
theorem dX10_readsClause_24 : decode cX10_readsClause 24 = .ok (.iconst 0, 1) := by decide +kernel
theorem dX10_readsClause_25 : decode cX10_readsClause 25 = .ok (.ireturn, 1) := by decide +kernel
theorem dX10_readsClause_26 : decode cX10_readsClause 26 = .ok (.aload_n 0, 1) := by decide +kernel
theorem dX10_readsClause_27 : decode cX10_readsClause 27 = .ok (.getfield 177, 3) := by decide +kernel
theorem dX10_readsClause_30 : decode cX10_readsClause 30 = .ok (.ifCond .eq 8, 3) := by decide +kernel
theorem dX10_readsClause_33 : decode cX10_readsClause 33 = .ok (.aload_n 0, 1) := by decide +kernel
theorem dX10_readsClause_34 : decode cX10_readsClause 34 = .ok (.iload_n 1, 1) := by decide +kernel
theorem dX10_readsClause_35 : decode cX10_readsClause 35 = .ok (.invokevirtual 180, 3) := by decide +kernel
theorem dX10_readsClause_38 : decode cX10_readsClause 38 = .ok (.iconst 1, 1) := by decide +kernel
theorem dX10_readsClause_39 : decode cX10_readsClause 39 = .ok (.ireturn, 1) := by decide +kernel
theorem dX10_readsAll_0 : decode cX10_readsAll 0 = .ok (.aload_n 0, 1) := by decide +kernel
theorem dX10_readsAll_1 : decode cX10_readsAll 1 = .ok (.iload_n 1, 1) := by decide +kernel
theorem dX10_readsAll_2 : decode cX10_readsAll 2 = .ok (.putfield 177, 3) := by decide +kernel
theorem dX10_readsAll_5 : decode cX10_readsAll 5 = .ok (.aload_n 0, 1) := by decide +kernel
theorem dX10_readsAll_6 : decode cX10_readsAll 6 = .ok (.iconst 0, 1) := by decide +kernel
theorem dX10_readsAll_7 : decode cX10_readsAll 7 = .ok (.putfield 139, 3) := by decide +kernel
theorem dX10_readsAll_10 : decode cX10_readsAll 10 = .ok (.aload_n 0, 1) := by decide +kernel
theorem dX10_readsAll_11 : decode cX10_readsAll 11 = .ok (.iconst 1, 1) := by decide +kernel
theorem dX10_readsAll_12 : decode cX10_readsAll 12 = .ok (.putfield 183, 3) := by decide +kernel
theorem dX10_readsAll_15 : decode cX10_readsAll 15 = .ok (.aload_n 0, 1) := by decide +kernel
theorem dX10_readsAll_16 : decode cX10_readsAll 16 = .ok (.invokevirtual 152, 3) := by decide +kernel
theorem dX10_readsAll_19 : decode cX10_readsAll 19 = .ok (.aload_n 0, 1) := by decide +kernel
theorem dX10_readsAll_20 : decode cX10_readsAll 20 = .ok (.invokevirtual 186, 3) := by decide +kernel
theorem dX10_readsAll_23 : decode cX10_readsAll 23 = .ok (.istore_n 2, 1) := by decide +kernel
theorem dX10_readsAll_24 : decode cX10_readsAll 24 = .ok (.iload_n 2, 1) := by decide +kernel
theorem dX10_readsAll_25 : decode cX10_readsAll 25 = .ok (.ifCond .eq 69, 3) := by decide +kernel
theorem dX10_readsAll_28 : decode cX10_readsAll 28 = .ok (.aload_n 0, 1) := by decide +kernel
theorem dX10_readsAll_29 : decode cX10_readsAll 29 = .ok (.getfield 142, 3) := by decide +kernel
theorem dX10_readsAll_32 : decode cX10_readsAll 32 = .ok (.aload_n 0, 1) := by decide +kernel
theorem dX10_readsAll_33 : decode cX10_readsAll 33 = .ok (.getfield 128, 3) := by decide +kernel
theorem dX10_readsAll_36 : decode cX10_readsAll 36 = .ok (.if_icmp .ge 58, 3) := by decide +kernel
theorem dX10_readsAll_39 : decode cX10_readsAll 39 = .ok (.aload_n 0, 1) := by decide +kernel
theorem dX10_readsAll_40 : decode cX10_readsAll 40 = .ok (.getfield 183, 3) := by decide +kernel
theorem dX10_readsAll_43 : decode cX10_readsAll 43 = .ok (.bipush 24, 2) := by decide +kernel
theorem dX10_readsAll_45 : decode cX10_readsAll 45 = .ok (.if_icmp .ge 21, 3) := by decide +kernel
theorem dX10_readsAll_48 : decode cX10_readsAll 48 = .ok (.aload_n 0, 1) := by decide +kernel
theorem dX10_readsAll_49 : decode cX10_readsAll 49 = .ok (.getfield 83, 3) := by decide +kernel
theorem dX10_readsAll_52 : decode cX10_readsAll 52 = .ok (.aload_n 0, 1) := by decide +kernel
theorem dX10_readsAll_53 : decode cX10_readsAll 53 = .ok (.getfield 142, 3) := by decide +kernel
theorem dX10_readsAll_56 : decode cX10_readsAll 56 = .ok (.iaload, 1) := by decide +kernel
theorem dX10_readsAll_57 : decode cX10_readsAll 57 = .ok (.bipush 59, 2) := by decide +kernel
theorem dX10_readsAll_59 : decode cX10_readsAll 59 = .ok (.if_icmp .ne 7, 3) := by decide +kernel
theorem dX10_readsAll_62 : decode cX10_readsAll 62 = .ok (.iconst 1, 1) := by decide +kernel
theorem dX10_readsAll_63 : decode cX10_readsAll 63 = .ok (.goto 4, 3) := by decide +kernel
theorem dX10_readsAll_66 : decode cX10_readsAll 66 = .ok (.iconst 0, 1) := by decide +kernel
theorem dX10_readsAll_67 : decode cX10_readsAll 67 = .ok (.istore_n 2, 1) := by decide +kernel
theorem dX10_readsAll_68 : decode cX10_readsAll 68 = .ok (.iload_n 2, 1) := by decide +kernel
theorem dX10_readsAll_69 : decode cX10_readsAll 69 = .ok (.ifCond .eq (-45), 3) := by decide +kernel
theorem dX10_readsAll_72 : decode cX10_readsAll 72 = .ok (.aload_n 0, 1) := by decide +kernel
theorem dX10_readsAll_73 : decode cX10_readsAll 73 = .ok (.invokevirtual 152, 3) := by decide +kernel
theorem dX10_readsAll_76 : decode cX10_readsAll 76 = .ok (.aload_n 0, 1) := by decide +kernel
theorem dX10_readsAll_77 : decode cX10_readsAll 77 = .ok (.invokevirtual 186, 3) := by decide +kernel
theorem dX10_readsAll_80 : decode cX10_readsAll 80 = .ok (.istore_n 2, 1) := by decide +kernel
theorem dX10_readsAll_81 : decode cX10_readsAll 81 = .ok (.aload_n 0, 1) := by decide +kernel
theorem dX10_readsAll_82 : decode cX10_readsAll 82 = .ok (.dup, 1) := by decide +kernel
theorem dX10_readsAll_83 : decode cX10_readsAll 83 = .ok (.getfield 183, 3) := by decide +kernel
theorem dX10_readsAll_86 : decode cX10_readsAll 86 = .ok (.iconst 1, 1) := by decide +kernel
theorem dX10_readsAll_87 : decode cX10_readsAll 87 = .ok (.iadd, 1) := by decide +kernel
theorem dX10_readsAll_88 : decode cX10_readsAll 88 = .ok (.putfield 183, 3) := by decide +kernel
theorem dX10_readsAll_91 : decode cX10_readsAll 91 = .ok (.goto (-67), 3) := by decide +kernel
theorem dX10_readsAll_94 : decode cX10_readsAll 94 = .ok (.iload_n 2, 1) := by decide +kernel
theorem dX10_readsAll_95 : decode cX10_readsAll 95 = .ok (.ireturn, 1) := by decide +kernel
theorem dX10_fault_0 : decode cX10_fault 0 = .ok (.aload_n 0, 1) := by decide +kernel
theorem dX10_fault_1 : decode cX10_fault 1 = .ok (.iconst 0, 1) := by decide +kernel
theorem dX10_fault_2 : decode cX10_fault 2 = .ok (.invokevirtual 190, 3) := by decide +kernel
theorem dX10_fault_5 : decode cX10_fault 5 = .ok (.ifCond .eq 7, 3) := by decide +kernel
theorem dX10_fault_8 : decode cX10_fault 8 = .ok (.iconst (-1), 1) := by decide +kernel
theorem dX10_fault_9 : decode cX10_fault 9 = .ok (.goto 7, 3) := by decide +kernel
theorem dX10_fault_12 : decode cX10_fault 12 = .ok (.aload_n 0, 1) := by decide +kernel
theorem dX10_fault_13 : decode cX10_fault 13 = .ok (.getfield 142, 3) := by decide +kernel
theorem dX10_fault_16 : decode cX10_fault 16 = .ok (.ireturn, 1) := by decide +kernel
theorem dX10_tell_0 : decode cX10_tell 0 = .ok (.aload_n 0, 1) := by decide +kernel
theorem dX10_tell_1 : decode cX10_tell 1 = .ok (.iconst 0, 1) := by decide +kernel
theorem dX10_tell_2 : decode cX10_tell 2 = .ok (.invokevirtual 190, 3) := by decide +kernel
theorem dX10_tell_5 : decode cX10_tell 5 = .ok (.ifCond .ne 7, 3) := by decide +kernel
theorem dX10_tell_8 : decode cX10_tell 8 = .ok (.sipush (-1003), 3) := by decide +kernel
theorem dX10_tell_11 : decode cX10_tell 11 = .ok (.ireturn, 1) := by decide +kernel
theorem dX10_tell_12 : decode cX10_tell 12 = .ok (.aload_n 0, 1) := by decide +kernel
theorem dX10_tell_13 : decode cX10_tell 13 = .ok (.iconst 1, 1) := by decide +kernel
theorem dX10_tell_14 : decode cX10_tell 14 = .ok (.invokevirtual 190, 3) := by decide +kernel
theorem dX10_tell_17 : decode cX10_tell 17 = .ok (.pop, 1) := by decide +kernel
theorem dX10_tell_18 : decode cX10_tell 18 = .ok (.aload_n 0, 1) := by decide +kernel
theorem dX10_tell_19 : decode cX10_tell 19 = .ok (.iconst 0, 1) := by decide +kernel
theorem dX10_tell_20 : decode cX10_tell 20 = .ok (.putfield 128, 3) := by decide +kernel
theorem dX10_tell_23 : decode cX10_tell 23 = .ok (.aload_n 0, 1) := by decide +kernel
theorem dX10_tell_24 : decode cX10_tell 24 = .ok (.getfield 183, 3) := by decide +kernel
theorem dX10_tell_27 : decode cX10_tell 27 = .ok (.ireturn, 1) := by decide +kernel
theorem dX10_cell_0 : decode cX10_cell 0 = .ok (.iload_n 1, 1) := by decide +kernel
theorem dX10_cell_1 : decode cX10_cell 1 = .ok (.invokestatic 194, 3) := by decide +kernel
theorem dX10_cell_4 : decode cX10_cell 4 = .ok (.ifCond .eq 24, 3) := by decide +kernel
theorem dX10_cell_7 : decode cX10_cell 7 = .ok (.iload_n 2, 1) := by decide +kernel
theorem dX10_cell_8 : decode cX10_cell 8 = .ok (.invokestatic 197, 3) := by decide +kernel
theorem dX10_cell_11 : decode cX10_cell 11 = .ok (.ifCond .eq 17, 3) := by decide +kernel
theorem dX10_cell_14 : decode cX10_cell 14 = .ok (.aload_n 0, 1) := by decide +kernel
theorem dX10_cell_15 : decode cX10_cell 15 = .ok (.getfield 7, 3) := by decide +kernel
theorem dX10_cell_18 : decode cX10_cell 18 = .ok (.bipush 12, 2) := by decide +kernel
theorem dX10_cell_20 : decode cX10_cell 20 = .ok (.iload_n 1, 1) := by decide +kernel
theorem dX10_cell_21 : decode cX10_cell 21 = .ok (.imul, 1) := by decide +kernel
theorem dX10_cell_22 : decode cX10_cell 22 = .ok (.iload_n 2, 1) := by decide +kernel
theorem dX10_cell_23 : decode cX10_cell 23 = .ok (.iadd, 1) := by decide +kernel
theorem dX10_cell_24 : decode cX10_cell 24 = .ok (.iaload, 1) := by decide +kernel
theorem dX10_cell_25 : decode cX10_cell 25 = .ok (.goto 6, 3) := by decide +kernel
theorem dX10_cell_28 : decode cX10_cell 28 = .ok (.sipush (-1001), 3) := by decide +kernel
theorem dX10_cell_31 : decode cX10_cell 31 = .ok (.ireturn, 1) := by decide +kernel
theorem dX10_put_0 : decode cX10_put 0 = .ok (.iload_n 1, 1) := by decide +kernel
theorem dX10_put_1 : decode cX10_put 1 = .ok (.invokestatic 194, 3) := by decide +kernel
theorem dX10_put_4 : decode cX10_put 4 = .ok (.ifCond .eq 10, 3) := by decide +kernel
theorem dX10_put_7 : decode cX10_put 7 = .ok (.iload_n 2, 1) := by decide +kernel
theorem dX10_put_8 : decode cX10_put 8 = .ok (.invokestatic 197, 3) := by decide +kernel
theorem dX10_put_11 : decode cX10_put 11 = .ok (.ifCond .ne 7, 3) := by decide +kernel
theorem dX10_put_14 : decode cX10_put 14 = .ok (.sipush (-1001), 3) := by decide +kernel
theorem dX10_put_17 : decode cX10_put 17 = .ok (.ireturn, 1) := by decide +kernel
theorem dX10_put_18 : decode cX10_put 18 = .ok (.iload_n 3, 1) := by decide +kernel
theorem dX10_put_19 : decode cX10_put 19 = .ok (.invokestatic 200, 3) := by decide +kernel
theorem dX10_put_22 : decode cX10_put 22 = .ok (.ifCond .ne 7, 3) := by decide +kernel
theorem dX10_put_25 : decode cX10_put 25 = .ok (.sipush (-1002), 3) := by decide +kernel
theorem dX10_put_28 : decode cX10_put 28 = .ok (.ireturn, 1) := by decide +kernel
theorem dX10_put_29 : decode cX10_put 29 = .ok (.aload_n 0, 1) := by decide +kernel
theorem dX10_put_30 : decode cX10_put 30 = .ok (.getfield 7, 3) := by decide +kernel
theorem dX10_put_33 : decode cX10_put 33 = .ok (.bipush 12, 2) := by decide +kernel
theorem dX10_put_35 : decode cX10_put 35 = .ok (.iload_n 1, 1) := by decide +kernel
theorem dX10_put_36 : decode cX10_put 36 = .ok (.imul, 1) := by decide +kernel
theorem dX10_put_37 : decode cX10_put 37 = .ok (.iload_n 2, 1) := by decide +kernel
theorem dX10_put_38 : decode cX10_put 38 = .ok (.iadd, 1) := by decide +kernel
theorem dX10_put_39 : decode cX10_put 39 = .ok (.iaload, 1) := by decide +kernel
theorem dX10_put_40 : decode cX10_put 40 = .ok (.istore 4, 2) := by decide +kernel
theorem dX10_put_42 : decode cX10_put 42 = .ok (.aload_n 0, 1) := by decide +kernel
theorem dX10_put_43 : decode cX10_put 43 = .ok (.getfield 7, 3) := by decide +kernel
theorem dX10_put_46 : decode cX10_put 46 = .ok (.bipush 12, 2) := by decide +kernel
theorem dX10_put_48 : decode cX10_put 48 = .ok (.iload_n 1, 1) := by decide +kernel
theorem dX10_put_49 : decode cX10_put 49 = .ok (.imul, 1) := by decide +kernel
theorem dX10_put_50 : decode cX10_put 50 = .ok (.iload_n 2, 1) := by decide +kernel
theorem dX10_put_51 : decode cX10_put 51 = .ok (.iadd, 1) := by decide +kernel
theorem dX10_put_52 : decode cX10_put 52 = .ok (.iload_n 3, 1) := by decide +kernel
theorem dX10_put_53 : decode cX10_put 53 = .ok (.iastore, 1) := by decide +kernel
theorem dX10_put_54 : decode cX10_put 54 = .ok (.iload 4, 2) := by decide +kernel
theorem dX10_put_56 : decode cX10_put 56 = .ok (.ireturn, 1) := by decide +kernel
theorem dX10_keys_0 : decode cX10_keys 0 = .ok (.aload_n 0, 1) := by decide +kernel
theorem dX10_keys_1 : decode cX10_keys 1 = .ok (.getfield 13, 3) := by decide +kernel
theorem dX10_keys_4 : decode cX10_keys 4 = .ok (.iload_n 1, 1) := by decide +kernel
theorem dX10_keys_5 : decode cX10_keys 5 = .ok (.iload_n 2, 1) := by decide +kernel
theorem dX10_keys_6 : decode cX10_keys 6 = .ok (.iastore, 1) := by decide +kernel
theorem dX10_keys_7 : decode cX10_keys 7 = .ok (.aload_n 0, 1) := by decide +kernel
theorem dX10_keys_8 : decode cX10_keys 8 = .ok (.getfield 16, 3) := by decide +kernel
theorem dX10_keys_11 : decode cX10_keys 11 = .ok (.iload_n 1, 1) := by decide +kernel
theorem dX10_keys_12 : decode cX10_keys 12 = .ok (.iload_n 3, 1) := by decide +kernel
theorem dX10_keys_13 : decode cX10_keys 13 = .ok (.iastore, 1) := by decide +kernel
theorem dX10_keys_14 : decode cX10_keys 14 = .ok (.aload_n 0, 1) := by decide +kernel
theorem dX10_keys_15 : decode cX10_keys 15 = .ok (.getfield 19, 3) := by decide +kernel
theorem dX10_keys_18 : decode cX10_keys 18 = .ok (.iload_n 1, 1) := by decide +kernel
theorem dX10_keys_19 : decode cX10_keys 19 = .ok (.iload 4, 2) := by decide +kernel
theorem dX10_keys_21 : decode cX10_keys 21 = .ok (.iastore, 1) := by decide +kernel
theorem dX10_keys_22 : decode cX10_keys 22 = .ok (.return_, 1) := by decide +kernel
theorem dX10_keysOf_0 : decode cX10_keysOf 0 = .ok (.iconst 0, 1) := by decide +kernel
theorem dX10_keysOf_1 : decode cX10_keysOf 1 = .ok (.istore_n 2, 1) := by decide +kernel
theorem dX10_keysOf_2 : decode cX10_keysOf 2 = .ok (.iconst 0, 1) := by decide +kernel
theorem dX10_keysOf_3 : decode cX10_keysOf 3 = .ok (.istore_n 3, 1) := by decide +kernel
theorem dX10_keysOf_4 : decode cX10_keysOf 4 = .ok (.iload_n 3, 1) := by decide +kernel
theorem dX10_keysOf_5 : decode cX10_keysOf 5 = .ok (.iconst 4, 1) := by decide +kernel
theorem dX10_keysOf_6 : decode cX10_keysOf 6 = .ok (.if_icmp .ge 30, 3) := by decide +kernel
theorem dX10_keysOf_9 : decode cX10_keysOf 9 = .ok (.iload_n 2, 1) := by decide +kernel
theorem dX10_keysOf_10 : decode cX10_keysOf 10 = .ok (.aload_n 0, 1) := by decide +kernel
theorem dX10_keysOf_11 : decode cX10_keysOf 11 = .ok (.getfield 16, 3) := by decide +kernel
theorem dX10_keysOf_14 : decode cX10_keysOf 14 = .ok (.iconst 4, 1) := by decide +kernel
theorem dX10_keysOf_15 : decode cX10_keysOf 15 = .ok (.iload_n 1, 1) := by decide +kernel
theorem dX10_keysOf_16 : decode cX10_keysOf 16 = .ok (.imul, 1) := by decide +kernel
theorem dX10_keysOf_17 : decode cX10_keysOf 17 = .ok (.iload_n 3, 1) := by decide +kernel
theorem dX10_keysOf_18 : decode cX10_keysOf 18 = .ok (.iadd, 1) := by decide +kernel
theorem dX10_keysOf_19 : decode cX10_keysOf 19 = .ok (.iaload, 1) := by decide +kernel
theorem dX10_keysOf_20 : decode cX10_keysOf 20 = .ok (.ifCond .le 7, 3) := by decide +kernel
theorem dX10_keysOf_23 : decode cX10_keysOf 23 = .ok (.iconst 1, 1) := by decide +kernel
theorem dX10_keysOf_24 : decode cX10_keysOf 24 = .ok (.goto 4, 3) := by decide +kernel
theorem dX10_keysOf_27 : decode cX10_keysOf 27 = .ok (.iconst 0, 1) := by decide +kernel
theorem dX10_keysOf_28 : decode cX10_keysOf 28 = .ok (.iadd, 1) := by decide +kernel
theorem dX10_keysOf_29 : decode cX10_keysOf 29 = .ok (.istore_n 2, 1) := by decide +kernel
theorem dX10_keysOf_30 : decode cX10_keysOf 30 = .ok (.iinc 3 1, 3) := by decide +kernel
theorem dX10_keysOf_33 : decode cX10_keysOf 33 = .ok (.goto (-29), 3) := by decide +kernel
theorem dX10_keysOf_36 : decode cX10_keysOf 36 = .ok (.iload_n 2, 1) := by decide +kernel
theorem dX10_keysOf_37 : decode cX10_keysOf 37 = .ok (.ireturn, 1) := by decide +kernel
theorem dX10_key_0 : decode cX10_key 0 = .ok (.iload_n 1, 1) := by decide +kernel
theorem dX10_key_1 : decode cX10_key 1 = .ok (.invokestatic 194, 3) := by decide +kernel
theorem dX10_key_4 : decode cX10_key 4 = .ok (.ifCond .eq 15, 3) := by decide +kernel
theorem dX10_key_7 : decode cX10_key 7 = .ok (.iload_n 2, 1) := by decide +kernel
theorem dX10_key_8 : decode cX10_key 8 = .ok (.i2l, 1) := by decide +kernel
theorem dX10_key_9 : decode cX10_key 9 = .ok (.lconst 0, 1) := by decide +kernel
theorem dX10_key_10 : decode cX10_key 10 = .ok (.ldc2_w 101, 3) := by decide +kernel
theorem dX10_key_13 : decode cX10_key 13 = .ok (.invokestatic 95, 3) := by decide +kernel
theorem dX10_key_16 : decode cX10_key 16 = .ok (.ifCond .ne 7, 3) := by decide +kernel
theorem dX10_key_19 : decode cX10_key 19 = .ok (.sipush (-1001), 3) := by decide +kernel
theorem dX10_key_22 : decode cX10_key 22 = .ok (.ireturn, 1) := by decide +kernel
theorem dX10_key_23 : decode cX10_key 23 = .ok (.iload_n 3, 1) := by decide +kernel
theorem dX10_key_24 : decode cX10_key 24 = .ok (.invokestatic 197, 3) := by decide +kernel
theorem dX10_key_27 : decode cX10_key 27 = .ok (.ifCond .eq 31, 3) := by decide +kernel
theorem dX10_key_30 : decode cX10_key 30 = .ok (.iload 4, 2) := by decide +kernel
theorem dX10_key_32 : decode cX10_key 32 = .ok (.i2l, 1) := by decide +kernel
theorem dX10_key_33 : decode cX10_key 33 = .ok (.lconst 1, 1) := by decide +kernel
theorem dX10_key_34 : decode cX10_key 34 = .ok (.bipush 12, 2) := by decide +kernel
theorem dX10_key_36 : decode cX10_key 36 = .ok (.iload_n 3, 1) := by decide +kernel
theorem dX10_key_37 : decode cX10_key 37 = .ok (.isub, 1) := by decide +kernel
theorem dX10_key_38 : decode cX10_key 38 = .ok (.i2l, 1) := by decide +kernel
theorem dX10_key_39 : decode cX10_key 39 = .ok (.invokestatic 95, 3) := by decide +kernel
theorem dX10_key_42 : decode cX10_key 42 = .ok (.ifCond .eq 16, 3) := by decide +kernel
theorem dX10_key_45 : decode cX10_key 45 = .ok (.iload 5, 2) := by decide +kernel
theorem dX10_key_47 : decode cX10_key 47 = .ok (.i2l, 1) := by decide +kernel
theorem dX10_key_48 : decode cX10_key 48 = .ok (.lconst 0, 1) := by decide +kernel
theorem dX10_key_49 : decode cX10_key 49 = .ok (.ldc2_w 203, 3) := by decide +kernel
theorem dX10_key_52 : decode cX10_key 52 = .ok (.invokestatic 95, 3) := by decide +kernel
theorem dX10_key_55 : decode cX10_key 55 = .ok (.ifCond .ne 7, 3) := by decide +kernel
theorem dX10_key_58 : decode cX10_key 58 = .ok (.sipush (-1002), 3) := by decide +kernel
theorem dX10_key_61 : decode cX10_key 61 = .ok (.ireturn, 1) := by decide +kernel
theorem dX10_key_62 : decode cX10_key 62 = .ok (.aload_n 0, 1) := by decide +kernel
theorem dX10_key_63 : decode cX10_key 63 = .ok (.iconst 4, 1) := by decide +kernel
theorem dX10_key_64 : decode cX10_key 64 = .ok (.iload_n 1, 1) := by decide +kernel
theorem dX10_key_65 : decode cX10_key 65 = .ok (.imul, 1) := by decide +kernel
theorem dX10_key_66 : decode cX10_key 66 = .ok (.iload_n 2, 1) := by decide +kernel
theorem dX10_key_67 : decode cX10_key 67 = .ok (.iadd, 1) := by decide +kernel
theorem dX10_key_68 : decode cX10_key 68 = .ok (.iload_n 3, 1) := by decide +kernel
theorem dX10_key_69 : decode cX10_key 69 = .ok (.iload 4, 2) := by decide +kernel
theorem dX10_key_71 : decode cX10_key 71 = .ok (.iload 5, 2) := by decide +kernel
theorem dX10_key_73 : decode cX10_key 73 = .ok (.invokevirtual 162, 3) := by decide +kernel
theorem dX10_key_76 : decode cX10_key 76 = .ok (.aload_n 0, 1) := by decide +kernel
theorem dX10_key_77 : decode cX10_key 77 = .ok (.iload_n 1, 1) := by decide +kernel
theorem dX10_key_78 : decode cX10_key 78 = .ok (.invokevirtual 205, 3) := by decide +kernel
theorem dX10_key_81 : decode cX10_key 81 = .ok (.ireturn, 1) := by decide +kernel
theorem dX10_lock_0 : decode cX10_lock 0 = .ok (.iload_n 1, 1) := by decide +kernel
theorem dX10_lock_1 : decode cX10_lock 1 = .ok (.invokestatic 194, 3) := by decide +kernel
theorem dX10_lock_4 : decode cX10_lock 4 = .ok (.ifCond .eq 15, 3) := by decide +kernel
theorem dX10_lock_7 : decode cX10_lock 7 = .ok (.iload_n 2, 1) := by decide +kernel
theorem dX10_lock_8 : decode cX10_lock 8 = .ok (.i2l, 1) := by decide +kernel
theorem dX10_lock_9 : decode cX10_lock 9 = .ok (.lconst 0, 1) := by decide +kernel
theorem dX10_lock_10 : decode cX10_lock 10 = .ok (.ldc2_w 101, 3) := by decide +kernel
theorem dX10_lock_13 : decode cX10_lock 13 = .ok (.invokestatic 95, 3) := by decide +kernel
theorem dX10_lock_16 : decode cX10_lock 16 = .ok (.ifCond .ne 7, 3) := by decide +kernel
theorem dX10_lock_19 : decode cX10_lock 19 = .ok (.sipush (-1001), 3) := by decide +kernel
theorem dX10_lock_22 : decode cX10_lock 22 = .ok (.ireturn, 1) := by decide +kernel
theorem dX10_lock_23 : decode cX10_lock 23 = .ok (.aload_n 0, 1) := by decide +kernel
theorem dX10_lock_24 : decode cX10_lock 24 = .ok (.getfield 16, 3) := by decide +kernel
theorem dX10_lock_27 : decode cX10_lock 27 = .ok (.iconst 4, 1) := by decide +kernel
theorem dX10_lock_28 : decode cX10_lock 28 = .ok (.iload_n 1, 1) := by decide +kernel
theorem dX10_lock_29 : decode cX10_lock 29 = .ok (.imul, 1) := by decide +kernel
theorem dX10_lock_30 : decode cX10_lock 30 = .ok (.iload_n 2, 1) := by decide +kernel
theorem dX10_lock_31 : decode cX10_lock 31 = .ok (.iadd, 1) := by decide +kernel
theorem dX10_lock_32 : decode cX10_lock 32 = .ok (.iaload, 1) := by decide +kernel
theorem dX10_lock_33 : decode cX10_lock 33 = .ok (.ifCond .ne 7, 3) := by decide +kernel
theorem dX10_lock_36 : decode cX10_lock 36 = .ok (.sipush (-1003), 3) := by decide +kernel
theorem dX10_lock_39 : decode cX10_lock 39 = .ok (.ireturn, 1) := by decide +kernel
theorem dX10_lock_40 : decode cX10_lock 40 = .ok (.aload_n 0, 1) := by decide +kernel
theorem dX10_lock_41 : decode cX10_lock 41 = .ok (.getfield 16, 3) := by decide +kernel
theorem dX10_lock_44 : decode cX10_lock 44 = .ok (.iconst 4, 1) := by decide +kernel
theorem dX10_lock_45 : decode cX10_lock 45 = .ok (.iload_n 1, 1) := by decide +kernel
theorem dX10_lock_46 : decode cX10_lock 46 = .ok (.imul, 1) := by decide +kernel
theorem dX10_lock_47 : decode cX10_lock 47 = .ok (.iload_n 2, 1) := by decide +kernel
theorem dX10_lock_48 : decode cX10_lock 48 = .ok (.iadd, 1) := by decide +kernel
theorem dX10_lock_49 : decode cX10_lock 49 = .ok (.iconst 0, 1) := by decide +kernel
theorem dX10_lock_50 : decode cX10_lock 50 = .ok (.iastore, 1) := by decide +kernel
theorem dX10_lock_51 : decode cX10_lock 51 = .ok (.aload_n 0, 1) := by decide +kernel
theorem dX10_lock_52 : decode cX10_lock 52 = .ok (.iload_n 1, 1) := by decide +kernel
theorem dX10_lock_53 : decode cX10_lock 53 = .ok (.invokevirtual 205, 3) := by decide +kernel
theorem dX10_lock_56 : decode cX10_lock 56 = .ok (.ireturn, 1) := by decide +kernel
theorem dX10_door_0 : decode cX10_door 0 = .ok (.iload_n 1, 1) := by decide +kernel
theorem dX10_door_1 : decode cX10_door 1 = .ok (.invokestatic 194, 3) := by decide +kernel
theorem dX10_door_4 : decode cX10_door 4 = .ok (.ifCond .eq 15, 3) := by decide +kernel
theorem dX10_door_7 : decode cX10_door 7 = .ok (.iload_n 2, 1) := by decide +kernel
theorem dX10_door_8 : decode cX10_door 8 = .ok (.i2l, 1) := by decide +kernel
theorem dX10_door_9 : decode cX10_door 9 = .ok (.lconst 0, 1) := by decide +kernel
theorem dX10_door_10 : decode cX10_door 10 = .ok (.ldc2_w 101, 3) := by decide +kernel
theorem dX10_door_13 : decode cX10_door 13 = .ok (.invokestatic 95, 3) := by decide +kernel
theorem dX10_door_16 : decode cX10_door 16 = .ok (.ifCond .ne 7, 3) := by decide +kernel
theorem dX10_door_19 : decode cX10_door 19 = .ok (.sipush (-1001), 3) := by decide +kernel
theorem dX10_door_22 : decode cX10_door 22 = .ok (.ireturn, 1) := by decide +kernel
theorem dX10_door_23 : decode cX10_door 23 = .ok (.iload_n 3, 1) := by decide +kernel
theorem dX10_door_24 : decode cX10_door 24 = .ok (.i2l, 1) := by decide +kernel
theorem dX10_door_25 : decode cX10_door 25 = .ok (.lconst 0, 1) := by decide +kernel
theorem dX10_door_26 : decode cX10_door 26 = .ok (.ldc2_w 209, 3) := by decide +kernel
theorem dX10_door_29 : decode cX10_door 29 = .ok (.invokestatic 95, 3) := by decide +kernel
theorem dX10_door_32 : decode cX10_door 32 = .ok (.ifCond .ne 7, 3) := by decide +kernel
theorem dX10_door_35 : decode cX10_door 35 = .ok (.sipush (-1002), 3) := by decide +kernel
theorem dX10_door_38 : decode cX10_door 38 = .ok (.ireturn, 1) := by decide +kernel
theorem dX10_door_39 : decode cX10_door 39 = .ok (.iconst 4, 1) := by decide +kernel
theorem dX10_door_40 : decode cX10_door 40 = .ok (.iload_n 1, 1) := by decide +kernel
theorem dX10_door_41 : decode cX10_door 41 = .ok (.imul, 1) := by decide +kernel
theorem dX10_door_42 : decode cX10_door 42 = .ok (.iload_n 2, 1) := by decide +kernel
theorem dX10_door_43 : decode cX10_door 43 = .ok (.iadd, 1) := by decide +kernel
theorem dX10_door_44 : decode cX10_door 44 = .ok (.istore 4, 2) := by decide +kernel
theorem dX10_door_46 : decode cX10_door 46 = .ok (.aload_n 0, 1) := by decide +kernel
theorem dX10_door_47 : decode cX10_door 47 = .ok (.getfield 16, 3) := by decide +kernel
theorem dX10_door_50 : decode cX10_door 50 = .ok (.iload 4, 2) := by decide +kernel
theorem dX10_door_52 : decode cX10_door 52 = .ok (.iaload, 1) := by decide +kernel
theorem dX10_door_53 : decode cX10_door 53 = .ok (.ifCond .ne 9, 3) := by decide +kernel
theorem dX10_door_56 : decode cX10_door 56 = .ok (.sipush (-1003), 3) := by decide +kernel
theorem dX10_door_59 : decode cX10_door 59 = .ok (.goto 39, 3) := by decide +kernel
theorem dX10_door_62 : decode cX10_door 62 = .ok (.iload_n 3, 1) := by decide +kernel
theorem dX10_door_63 : decode cX10_door 63 = .ok (.ifCond .ne 13, 3) := by decide +kernel
theorem dX10_door_66 : decode cX10_door 66 = .ok (.aload_n 0, 1) := by decide +kernel
theorem dX10_door_67 : decode cX10_door 67 = .ok (.getfield 13, 3) := by decide +kernel
theorem dX10_door_70 : decode cX10_door 70 = .ok (.iload 4, 2) := by decide +kernel
theorem dX10_door_72 : decode cX10_door 72 = .ok (.iaload, 1) := by decide +kernel
theorem dX10_door_73 : decode cX10_door 73 = .ok (.goto 25, 3) := by decide +kernel
theorem dX10_door_76 : decode cX10_door 76 = .ok (.iload_n 3, 1) := by decide +kernel
theorem dX10_door_77 : decode cX10_door 77 = .ok (.iconst 1, 1) := by decide +kernel
theorem dX10_door_78 : decode cX10_door 78 = .ok (.if_icmp .ne 13, 3) := by decide +kernel
theorem dX10_door_81 : decode cX10_door 81 = .ok (.aload_n 0, 1) := by decide +kernel
theorem dX10_door_82 : decode cX10_door 82 = .ok (.getfield 16, 3) := by decide +kernel
theorem dX10_door_85 : decode cX10_door 85 = .ok (.iload 4, 2) := by decide +kernel
theorem dX10_door_87 : decode cX10_door 87 = .ok (.iaload, 1) := by decide +kernel
theorem dX10_door_88 : decode cX10_door 88 = .ok (.goto 10, 3) := by decide +kernel
theorem dX10_door_91 : decode cX10_door 91 = .ok (.aload_n 0, 1) := by decide +kernel
theorem dX10_door_92 : decode cX10_door 92 = .ok (.getfield 19, 3) := by decide +kernel
theorem dX10_door_95 : decode cX10_door 95 = .ok (.iload 4, 2) := by decide +kernel
theorem dX10_door_97 : decode cX10_door 97 = .ok (.iaload, 1) := by decide +kernel
theorem dX10_door_98 : decode cX10_door 98 = .ok (.ireturn, 1) := by decide +kernel
theorem dX10_isReady_0 : decode cX10_isReady 0 = .ok (.aload_n 0, 1) := by decide +kernel
theorem dX10_isReady_1 : decode cX10_isReady 1 = .ok (.getfield 22, 3) := by decide +kernel
theorem dX10_isReady_4 : decode cX10_isReady 4 = .ok (.iconst 2, 1) := by decide +kernel
theorem dX10_isReady_5 : decode cX10_isReady 5 = .ok (.iload_n 1, 1) := by decide +kernel
theorem dX10_isReady_6 : decode cX10_isReady 6 = .ok (.imul, 1) := by decide +kernel
theorem dX10_isReady_7 : decode cX10_isReady 7 = .ok (.iaload, 1) := by decide +kernel
theorem dX10_isReady_8 : decode cX10_isReady 8 = .ok (.iconst 1, 1) := by decide +kernel
theorem dX10_isReady_9 : decode cX10_isReady 9 = .ok (.if_icmp .eq 17, 3) := by decide +kernel
theorem dX10_isReady_12 : decode cX10_isReady 12 = .ok (.aload_n 0, 1) := by decide +kernel
theorem dX10_isReady_13 : decode cX10_isReady 13 = .ok (.getfield 22, 3) := by decide +kernel
theorem dX10_isReady_16 : decode cX10_isReady 16 = .ok (.iconst 2, 1) := by decide +kernel
theorem dX10_isReady_17 : decode cX10_isReady 17 = .ok (.iload_n 1, 1) := by decide +kernel
theorem dX10_isReady_18 : decode cX10_isReady 18 = .ok (.imul, 1) := by decide +kernel
theorem dX10_isReady_19 : decode cX10_isReady 19 = .ok (.iconst 1, 1) := by decide +kernel
theorem dX10_isReady_20 : decode cX10_isReady 20 = .ok (.iadd, 1) := by decide +kernel
theorem dX10_isReady_21 : decode cX10_isReady 21 = .ok (.iaload, 1) := by decide +kernel
theorem dX10_isReady_22 : decode cX10_isReady 22 = .ok (.iconst 1, 1) := by decide +kernel
theorem dX10_isReady_23 : decode cX10_isReady 23 = .ok (.if_icmp .ne 7, 3) := by decide +kernel
theorem dX10_isReady_26 : decode cX10_isReady 26 = .ok (.iconst 1, 1) := by decide +kernel
theorem dX10_isReady_27 : decode cX10_isReady 27 = .ok (.goto 4, 3) := by decide +kernel
theorem dX10_isReady_30 : decode cX10_isReady 30 = .ok (.iconst 0, 1) := by decide +kernel
theorem dX10_isReady_31 : decode cX10_isReady 31 = .ok (.ireturn, 1) := by decide +kernel
theorem dX10_joins_0 : decode cX10_joins 0 = .ok (.aload_n 0, 1) := by decide +kernel
theorem dX10_joins_1 : decode cX10_joins 1 = .ok (.iload_n 1, 1) := by decide +kernel
theorem dX10_joins_2 : decode cX10_joins 2 = .ok (.invokevirtual 211, 3) := by decide +kernel
theorem dX10_joins_5 : decode cX10_joins 5 = .ok (.ifCond .eq 4, 3) := by decide +kernel
theorem dX10_joins_8 : decode cX10_joins 8 = .ok (.return_, 1) := by decide +kernel
theorem dX10_joins_9 : decode cX10_joins 9 = .ok (.aload_n 0, 1) := by decide +kernel
theorem dX10_joins_10 : decode cX10_joins 10 = .ok (.iconst 2, 1) := by decide +kernel
theorem dX10_joins_11 : decode cX10_joins 11 = .ok (.iload_n 1, 1) := by decide +kernel
theorem dX10_joins_12 : decode cX10_joins 12 = .ok (.imul, 1) := by decide +kernel
theorem dX10_joins_13 : decode cX10_joins 13 = .ok (.iconst 1, 1) := by decide +kernel
theorem dX10_joins_14 : decode cX10_joins 14 = .ok (.invokevirtual 105, 3) := by decide +kernel
theorem dX10_joins_17 : decode cX10_joins 17 = .ok (.aload_n 0, 1) := by decide +kernel
theorem dX10_joins_18 : decode cX10_joins 18 = .ok (.iconst 2, 1) := by decide +kernel
theorem dX10_joins_19 : decode cX10_joins 19 = .ok (.iload_n 1, 1) := by decide +kernel
theorem dX10_joins_20 : decode cX10_joins 20 = .ok (.imul, 1) := by decide +kernel
theorem dX10_joins_21 : decode cX10_joins 21 = .ok (.iconst 1, 1) := by decide +kernel
theorem dX10_joins_22 : decode cX10_joins 22 = .ok (.iadd, 1) := by decide +kernel
theorem dX10_joins_23 : decode cX10_joins 23 = .ok (.iconst 1, 1) := by decide +kernel
theorem dX10_joins_24 : decode cX10_joins 24 = .ok (.invokevirtual 105, 3) := by decide +kernel
theorem dX10_joins_27 : decode cX10_joins 27 = .ok (.iconst 0, 1) := by decide +kernel
theorem dX10_joins_28 : decode cX10_joins 28 = .ok (.istore_n 2, 1) := by decide +kernel
theorem dX10_joins_29 : decode cX10_joins 29 = .ok (.iconst 0, 1) := by decide +kernel
theorem dX10_joins_30 : decode cX10_joins 30 = .ok (.istore_n 3, 1) := by decide +kernel
theorem dX10_joins_31 : decode cX10_joins 31 = .ok (.iload_n 3, 1) := by decide +kernel
theorem dX10_joins_32 : decode cX10_joins 32 = .ok (.aload_n 0, 1) := by decide +kernel
theorem dX10_joins_33 : decode cX10_joins 33 = .ok (.getfield 113, 3) := by decide +kernel
theorem dX10_joins_36 : decode cX10_joins 36 = .ok (.if_icmp .ge 35, 3) := by decide +kernel
theorem dX10_joins_39 : decode cX10_joins 39 = .ok (.aload_n 0, 1) := by decide +kernel
theorem dX10_joins_40 : decode cX10_joins 40 = .ok (.getfield 68, 3) := by decide +kernel
theorem dX10_joins_43 : decode cX10_joins 43 = .ok (.bipush 11, 2) := by decide +kernel
theorem dX10_joins_45 : decode cX10_joins 45 = .ok (.iload_n 3, 1) := by decide +kernel
theorem dX10_joins_46 : decode cX10_joins 46 = .ok (.imul, 1) := by decide +kernel
theorem dX10_joins_47 : decode cX10_joins 47 = .ok (.iconst 0, 1) := by decide +kernel
theorem dX10_joins_48 : decode cX10_joins 48 = .ok (.iadd, 1) := by decide +kernel
theorem dX10_joins_49 : decode cX10_joins 49 = .ok (.iaload, 1) := by decide +kernel
theorem dX10_joins_50 : decode cX10_joins 50 = .ok (.iconst 2, 1) := by decide +kernel
theorem dX10_joins_51 : decode cX10_joins 51 = .ok (.idiv, 1) := by decide +kernel
theorem dX10_joins_52 : decode cX10_joins 52 = .ok (.iload_n 1, 1) := by decide +kernel
theorem dX10_joins_53 : decode cX10_joins 53 = .ok (.if_icmp .eq 12, 3) := by decide +kernel
theorem dX10_joins_56 : decode cX10_joins 56 = .ok (.aload_n 0, 1) := by decide +kernel
theorem dX10_joins_57 : decode cX10_joins 57 = .ok (.iload_n 3, 1) := by decide +kernel
theorem dX10_joins_58 : decode cX10_joins 58 = .ok (.iload_n 2, 1) := by decide +kernel
theorem dX10_joins_59 : decode cX10_joins 59 = .ok (.invokevirtual 214, 3) := by decide +kernel
theorem dX10_joins_62 : decode cX10_joins 62 = .ok (.iinc 2 1, 3) := by decide +kernel
theorem dX10_joins_65 : decode cX10_joins 65 = .ok (.iinc 3 1, 3) := by decide +kernel
theorem dX10_joins_68 : decode cX10_joins 68 = .ok (.goto (-37), 3) := by decide +kernel
theorem dX10_joins_71 : decode cX10_joins 71 = .ok (.aload_n 0, 1) := by decide +kernel
theorem dX10_joins_72 : decode cX10_joins 72 = .ok (.iload_n 2, 1) := by decide +kernel
theorem dX10_joins_73 : decode cX10_joins 73 = .ok (.putfield 113, 3) := by decide +kernel
theorem dX10_joins_76 : decode cX10_joins 76 = .ok (.return_, 1) := by decide +kernel
theorem dX10_copyPacket_0 : decode cX10_copyPacket 0 = .ok (.iconst 0, 1) := by decide +kernel
theorem dX10_copyPacket_1 : decode cX10_copyPacket 1 = .ok (.istore_n 3, 1) := by decide +kernel
theorem dX10_copyPacket_2 : decode cX10_copyPacket 2 = .ok (.iload_n 3, 1) := by decide +kernel
theorem dX10_copyPacket_3 : decode cX10_copyPacket 3 = .ok (.bipush 11, 2) := by decide +kernel
theorem dX10_copyPacket_5 : decode cX10_copyPacket 5 = .ok (.if_icmp .ge 31, 3) := by decide +kernel
theorem dX10_copyPacket_8 : decode cX10_copyPacket 8 = .ok (.aload_n 0, 1) := by decide +kernel
theorem dX10_copyPacket_9 : decode cX10_copyPacket 9 = .ok (.getfield 68, 3) := by decide +kernel
theorem dX10_copyPacket_12 : decode cX10_copyPacket 12 = .ok (.bipush 11, 2) := by decide +kernel
theorem dX10_copyPacket_14 : decode cX10_copyPacket 14 = .ok (.iload_n 2, 1) := by decide +kernel
theorem dX10_copyPacket_15 : decode cX10_copyPacket 15 = .ok (.imul, 1) := by decide +kernel
theorem dX10_copyPacket_16 : decode cX10_copyPacket 16 = .ok (.iload_n 3, 1) := by decide +kernel
theorem dX10_copyPacket_17 : decode cX10_copyPacket 17 = .ok (.iadd, 1) := by decide +kernel
theorem dX10_copyPacket_18 : decode cX10_copyPacket 18 = .ok (.aload_n 0, 1) := by decide +kernel
theorem dX10_copyPacket_19 : decode cX10_copyPacket 19 = .ok (.getfield 68, 3) := by decide +kernel
theorem dX10_copyPacket_22 : decode cX10_copyPacket 22 = .ok (.bipush 11, 2) := by decide +kernel
theorem dX10_copyPacket_24 : decode cX10_copyPacket 24 = .ok (.iload_n 1, 1) := by decide +kernel
theorem dX10_copyPacket_25 : decode cX10_copyPacket 25 = .ok (.imul, 1) := by decide +kernel
theorem dX10_copyPacket_26 : decode cX10_copyPacket 26 = .ok (.iload_n 3, 1) := by decide +kernel
theorem dX10_copyPacket_27 : decode cX10_copyPacket 27 = .ok (.iadd, 1) := by decide +kernel
theorem dX10_copyPacket_28 : decode cX10_copyPacket 28 = .ok (.iaload, 1) := by decide +kernel
theorem dX10_copyPacket_29 : decode cX10_copyPacket 29 = .ok (.iastore, 1) := by decide +kernel
theorem dX10_copyPacket_30 : decode cX10_copyPacket 30 = .ok (.iinc 3 1, 3) := by decide +kernel
theorem dX10_copyPacket_33 : decode cX10_copyPacket 33 = .ok (.goto (-31), 3) := by decide +kernel
theorem dX10_copyPacket_36 : decode cX10_copyPacket 36 = .ok (.return_, 1) := by decide +kernel
theorem dX10_readyEnds_0 : decode cX10_readyEnds 0 = .ok (.iconst 0, 1) := by decide +kernel
theorem dX10_readyEnds_1 : decode cX10_readyEnds 1 = .ok (.istore_n 1, 1) := by decide +kernel
theorem dX10_readyEnds_2 : decode cX10_readyEnds 2 = .ok (.iconst 0, 1) := by decide +kernel
theorem dX10_readyEnds_3 : decode cX10_readyEnds 3 = .ok (.istore_n 2, 1) := by decide +kernel
theorem dX10_readyEnds_4 : decode cX10_readyEnds 4 = .ok (.iload_n 2, 1) := by decide +kernel
theorem dX10_readyEnds_5 : decode cX10_readyEnds 5 = .ok (.iconst 4, 1) := by decide +kernel
theorem dX10_readyEnds_6 : decode cX10_readyEnds 6 = .ok (.if_icmp .ge 27, 3) := by decide +kernel
theorem dX10_readyEnds_9 : decode cX10_readyEnds 9 = .ok (.iload_n 1, 1) := by decide +kernel
theorem dX10_readyEnds_10 : decode cX10_readyEnds 10 = .ok (.aload_n 0, 1) := by decide +kernel
theorem dX10_readyEnds_11 : decode cX10_readyEnds 11 = .ok (.getfield 22, 3) := by decide +kernel
theorem dX10_readyEnds_14 : decode cX10_readyEnds 14 = .ok (.iload_n 2, 1) := by decide +kernel
theorem dX10_readyEnds_15 : decode cX10_readyEnds 15 = .ok (.iaload, 1) := by decide +kernel
theorem dX10_readyEnds_16 : decode cX10_readyEnds 16 = .ok (.iconst 1, 1) := by decide +kernel
theorem dX10_readyEnds_17 : decode cX10_readyEnds 17 = .ok (.if_icmp .ne 7, 3) := by decide +kernel
theorem dX10_readyEnds_20 : decode cX10_readyEnds 20 = .ok (.iconst 1, 1) := by decide +kernel
theorem dX10_readyEnds_21 : decode cX10_readyEnds 21 = .ok (.goto 4, 3) := by decide +kernel
theorem dX10_readyEnds_24 : decode cX10_readyEnds 24 = .ok (.iconst 0, 1) := by decide +kernel
theorem dX10_readyEnds_25 : decode cX10_readyEnds 25 = .ok (.iadd, 1) := by decide +kernel
theorem dX10_readyEnds_26 : decode cX10_readyEnds 26 = .ok (.istore_n 1, 1) := by decide +kernel
theorem dX10_readyEnds_27 : decode cX10_readyEnds 27 = .ok (.iinc 2 1, 3) := by decide +kernel
theorem dX10_readyEnds_30 : decode cX10_readyEnds 30 = .ok (.goto (-26), 3) := by decide +kernel
theorem dX10_readyEnds_33 : decode cX10_readyEnds 33 = .ok (.iload_n 1, 1) := by decide +kernel
theorem dX10_readyEnds_34 : decode cX10_readyEnds 34 = .ok (.ireturn, 1) := by decide +kernel
theorem dX10_join_0 : decode cX10_join 0 = .ok (.iload_n 1, 1) := by decide +kernel
theorem dX10_join_1 : decode cX10_join 1 = .ok (.invokestatic 194, 3) := by decide +kernel
theorem dX10_join_4 : decode cX10_join 4 = .ok (.ifCond .ne 7, 3) := by decide +kernel
theorem dX10_join_7 : decode cX10_join 7 = .ok (.sipush (-1001), 3) := by decide +kernel
theorem dX10_join_10 : decode cX10_join 10 = .ok (.ireturn, 1) := by decide +kernel
theorem dX10_join_11 : decode cX10_join 11 = .ok (.aload_n 0, 1) := by decide +kernel
theorem dX10_join_12 : decode cX10_join 12 = .ok (.iload_n 1, 1) := by decide +kernel
theorem dX10_join_13 : decode cX10_join 13 = .ok (.invokevirtual 211, 3) := by decide +kernel
theorem dX10_join_16 : decode cX10_join 16 = .ok (.ifCond .eq 7, 3) := by decide +kernel
theorem dX10_join_19 : decode cX10_join 19 = .ok (.sipush (-1003), 3) := by decide +kernel
theorem dX10_join_22 : decode cX10_join 22 = .ok (.ireturn, 1) := by decide +kernel
theorem dX10_join_23 : decode cX10_join 23 = .ok (.aload_n 0, 1) := by decide +kernel
theorem dX10_join_24 : decode cX10_join 24 = .ok (.iload_n 1, 1) := by decide +kernel
theorem dX10_join_25 : decode cX10_join 25 = .ok (.invokevirtual 166, 3) := by decide +kernel
theorem dX10_join_28 : decode cX10_join 28 = .ok (.aload_n 0, 1) := by decide +kernel
theorem dX10_join_29 : decode cX10_join 29 = .ok (.invokevirtual 217, 3) := by decide +kernel
theorem dX10_join_32 : decode cX10_join 32 = .ok (.ireturn, 1) := by decide +kernel
theorem dX10_tear_0 : decode cX10_tear 0 = .ok (.iload_n 1, 1) := by decide +kernel
theorem dX10_tear_1 : decode cX10_tear 1 = .ok (.invokestatic 220, 3) := by decide +kernel
theorem dX10_tear_4 : decode cX10_tear 4 = .ok (.ifCond .ne 7, 3) := by decide +kernel
theorem dX10_tear_7 : decode cX10_tear 7 = .ok (.sipush (-1001), 3) := by decide +kernel
theorem dX10_tear_10 : decode cX10_tear 10 = .ok (.ireturn, 1) := by decide +kernel
theorem dX10_tear_11 : decode cX10_tear 11 = .ok (.aload_n 0, 1) := by decide +kernel
theorem dX10_tear_12 : decode cX10_tear 12 = .ok (.getfield 22, 3) := by decide +kernel
theorem dX10_tear_15 : decode cX10_tear 15 = .ok (.iload_n 1, 1) := by decide +kernel
theorem dX10_tear_16 : decode cX10_tear 16 = .ok (.iaload, 1) := by decide +kernel
theorem dX10_tear_17 : decode cX10_tear 17 = .ok (.iconst 1, 1) := by decide +kernel
theorem dX10_tear_18 : decode cX10_tear 18 = .ok (.if_icmp .eq 7, 3) := by decide +kernel
theorem dX10_tear_21 : decode cX10_tear 21 = .ok (.sipush (-1003), 3) := by decide +kernel
theorem dX10_tear_24 : decode cX10_tear 24 = .ok (.ireturn, 1) := by decide +kernel
theorem dX10_tear_25 : decode cX10_tear 25 = .ok (.aload_n 0, 1) := by decide +kernel
theorem dX10_tear_26 : decode cX10_tear 26 = .ok (.getfield 28, 3) := by decide +kernel
theorem dX10_tear_29 : decode cX10_tear 29 = .ok (.iload_n 1, 1) := by decide +kernel
theorem dX10_tear_30 : decode cX10_tear 30 = .ok (.iaload, 1) := by decide +kernel
theorem dX10_tear_31 : decode cX10_tear 31 = .ok (.aload_n 0, 1) := by decide +kernel
theorem dX10_tear_32 : decode cX10_tear 32 = .ok (.getfield 37, 3) := by decide +kernel
theorem dX10_tear_35 : decode cX10_tear 35 = .ok (.iload_n 1, 1) := by decide +kernel
theorem dX10_tear_36 : decode cX10_tear 36 = .ok (.iaload, 1) := by decide +kernel
theorem dX10_tear_37 : decode cX10_tear 37 = .ok (.iadd, 1) := by decide +kernel
theorem dX10_tear_38 : decode cX10_tear 38 = .ok (.istore_n 2, 1) := by decide +kernel
theorem dX10_tear_39 : decode cX10_tear 39 = .ok (.aload_n 0, 1) := by decide +kernel
theorem dX10_tear_40 : decode cX10_tear 40 = .ok (.iload_n 1, 1) := by decide +kernel
theorem dX10_tear_41 : decode cX10_tear 41 = .ok (.invokevirtual 223, 3) := by decide +kernel
theorem dX10_tear_44 : decode cX10_tear 44 = .ok (.iload_n 2, 1) := by decide +kernel
theorem dX10_tear_45 : decode cX10_tear 45 = .ok (.ireturn, 1) := by decide +kernel
theorem dX10_delay_0 : decode cX10_delay 0 = .ok (.iload_n 1, 1) := by decide +kernel
theorem dX10_delay_1 : decode cX10_delay 1 = .ok (.invokestatic 194, 3) := by decide +kernel
theorem dX10_delay_4 : decode cX10_delay 4 = .ok (.ifCond .ne 7, 3) := by decide +kernel
theorem dX10_delay_7 : decode cX10_delay 7 = .ok (.sipush (-1001), 3) := by decide +kernel
theorem dX10_delay_10 : decode cX10_delay 10 = .ok (.ireturn, 1) := by decide +kernel
theorem dX10_delay_11 : decode cX10_delay 11 = .ok (.iload_n 2, 1) := by decide +kernel
theorem dX10_delay_12 : decode cX10_delay 12 = .ok (.i2l, 1) := by decide +kernel
theorem dX10_delay_13 : decode cX10_delay 13 = .ok (.lconst 1, 1) := by decide +kernel
theorem dX10_delay_14 : decode cX10_delay 14 = .ok (.ldc2_w 226, 3) := by decide +kernel
theorem dX10_delay_17 : decode cX10_delay 17 = .ok (.invokestatic 95, 3) := by decide +kernel
theorem dX10_delay_20 : decode cX10_delay 20 = .ok (.ifCond .ne 7, 3) := by decide +kernel
theorem dX10_delay_23 : decode cX10_delay 23 = .ok (.sipush (-1002), 3) := by decide +kernel
theorem dX10_delay_26 : decode cX10_delay 26 = .ok (.ireturn, 1) := by decide +kernel
theorem dX10_delay_27 : decode cX10_delay 27 = .ok (.aload_n 0, 1) := by decide +kernel
theorem dX10_delay_28 : decode cX10_delay 28 = .ok (.getfield 65, 3) := by decide +kernel
theorem dX10_delay_31 : decode cX10_delay 31 = .ok (.iload_n 1, 1) := by decide +kernel
theorem dX10_delay_32 : decode cX10_delay 32 = .ok (.iaload, 1) := by decide +kernel
theorem dX10_delay_33 : decode cX10_delay 33 = .ok (.istore_n 3, 1) := by decide +kernel
theorem dX10_delay_34 : decode cX10_delay 34 = .ok (.aload_n 0, 1) := by decide +kernel
theorem dX10_delay_35 : decode cX10_delay 35 = .ok (.getfield 65, 3) := by decide +kernel
theorem dX10_delay_38 : decode cX10_delay 38 = .ok (.iload_n 1, 1) := by decide +kernel
theorem dX10_delay_39 : decode cX10_delay 39 = .ok (.iload_n 2, 1) := by decide +kernel
theorem dX10_delay_40 : decode cX10_delay 40 = .ok (.iastore, 1) := by decide +kernel
theorem dX10_delay_41 : decode cX10_delay 41 = .ok (.iload_n 3, 1) := by decide +kernel
theorem dX10_delay_42 : decode cX10_delay 42 = .ok (.ireturn, 1) := by decide +kernel
theorem dX10_aim_0 : decode cX10_aim 0 = .ok (.iload_n 1, 1) := by decide +kernel
theorem dX10_aim_1 : decode cX10_aim 1 = .ok (.invokestatic 220, 3) := by decide +kernel
theorem dX10_aim_4 : decode cX10_aim 4 = .ok (.ifCond .eq 15, 3) := by decide +kernel
theorem dX10_aim_7 : decode cX10_aim 7 = .ok (.iload_n 2, 1) := by decide +kernel
theorem dX10_aim_8 : decode cX10_aim 8 = .ok (.i2l, 1) := by decide +kernel
theorem dX10_aim_9 : decode cX10_aim 9 = .ok (.lconst 0, 1) := by decide +kernel
theorem dX10_aim_10 : decode cX10_aim 10 = .ok (.ldc2_w 101, 3) := by decide +kernel
theorem dX10_aim_13 : decode cX10_aim 13 = .ok (.invokestatic 95, 3) := by decide +kernel
theorem dX10_aim_16 : decode cX10_aim 16 = .ok (.ifCond .ne 7, 3) := by decide +kernel
theorem dX10_aim_19 : decode cX10_aim 19 = .ok (.sipush (-1001), 3) := by decide +kernel
theorem dX10_aim_22 : decode cX10_aim 22 = .ok (.ireturn, 1) := by decide +kernel
theorem dX10_aim_23 : decode cX10_aim 23 = .ok (.iload_n 3, 1) := by decide +kernel
theorem dX10_aim_24 : decode cX10_aim 24 = .ok (.i2l, 1) := by decide +kernel
theorem dX10_aim_25 : decode cX10_aim 25 = .ok (.lconst 0, 1) := by decide +kernel
theorem dX10_aim_26 : decode cX10_aim 26 = .ok (.ldc2_w 99, 3) := by decide +kernel
theorem dX10_aim_29 : decode cX10_aim 29 = .ok (.invokestatic 95, 3) := by decide +kernel
theorem dX10_aim_32 : decode cX10_aim 32 = .ok (.ifCond .ne 7, 3) := by decide +kernel
theorem dX10_aim_35 : decode cX10_aim 35 = .ok (.sipush (-1002), 3) := by decide +kernel
theorem dX10_aim_38 : decode cX10_aim 38 = .ok (.ireturn, 1) := by decide +kernel
theorem dX10_aim_39 : decode cX10_aim 39 = .ok (.aload_n 0, 1) := by decide +kernel
theorem dX10_aim_40 : decode cX10_aim 40 = .ok (.getfield 59, 3) := by decide +kernel
theorem dX10_aim_43 : decode cX10_aim 43 = .ok (.iload_n 1, 1) := by decide +kernel
theorem dX10_aim_44 : decode cX10_aim 44 = .ok (.iaload, 1) := by decide +kernel
theorem dX10_aim_45 : decode cX10_aim 45 = .ok (.iload_n 2, 1) := by decide +kernel
theorem dX10_aim_46 : decode cX10_aim 46 = .ok (.if_icmp .ne 13, 3) := by decide +kernel
theorem dX10_aim_49 : decode cX10_aim 49 = .ok (.aload_n 0, 1) := by decide +kernel
theorem dX10_aim_50 : decode cX10_aim 50 = .ok (.getfield 62, 3) := by decide +kernel
theorem dX10_aim_53 : decode cX10_aim 53 = .ok (.iload_n 1, 1) := by decide +kernel
theorem dX10_aim_54 : decode cX10_aim 54 = .ok (.iaload, 1) := by decide +kernel
theorem dX10_aim_55 : decode cX10_aim 55 = .ok (.iload_n 3, 1) := by decide +kernel
theorem dX10_aim_56 : decode cX10_aim 56 = .ok (.if_icmp .eq 7, 3) := by decide +kernel
theorem dX10_aim_59 : decode cX10_aim 59 = .ok (.iconst 1, 1) := by decide +kernel
theorem dX10_aim_60 : decode cX10_aim 60 = .ok (.goto 4, 3) := by decide +kernel
theorem dX10_aim_63 : decode cX10_aim 63 = .ok (.iconst 0, 1) := by decide +kernel
theorem dX10_aim_64 : decode cX10_aim 64 = .ok (.istore 4, 2) := by decide +kernel
theorem dX10_aim_66 : decode cX10_aim 66 = .ok (.aload_n 0, 1) := by decide +kernel
theorem dX10_aim_67 : decode cX10_aim 67 = .ok (.getfield 59, 3) := by decide +kernel
theorem dX10_aim_70 : decode cX10_aim 70 = .ok (.iload_n 1, 1) := by decide +kernel
theorem dX10_aim_71 : decode cX10_aim 71 = .ok (.iload_n 2, 1) := by decide +kernel
theorem dX10_aim_72 : decode cX10_aim 72 = .ok (.iastore, 1) := by decide +kernel
theorem dX10_aim_73 : decode cX10_aim 73 = .ok (.aload_n 0, 1) := by decide +kernel
theorem dX10_aim_74 : decode cX10_aim 74 = .ok (.getfield 62, 3) := by decide +kernel
theorem dX10_aim_77 : decode cX10_aim 77 = .ok (.iload_n 1, 1) := by decide +kernel
theorem dX10_aim_78 : decode cX10_aim 78 = .ok (.iload_n 3, 1) := by decide +kernel
theorem dX10_aim_79 : decode cX10_aim 79 = .ok (.iastore, 1) := by decide +kernel
theorem dX10_aim_80 : decode cX10_aim 80 = .ok (.iload 4, 2) := by decide +kernel
theorem dX10_aim_82 : decode cX10_aim 82 = .ok (.ireturn, 1) := by decide +kernel
theorem dX10_sends_0 : decode cX10_sends 0 = .ok (.aload_n 0, 1) := by decide +kernel
theorem dX10_sends_1 : decode cX10_sends 1 = .ok (.getfield 113, 3) := by decide +kernel
theorem dX10_sends_4 : decode cX10_sends 4 = .ok (.bipush 24, 2) := by decide +kernel
theorem dX10_sends_6 : decode cX10_sends 6 = .ok (.if_icmp .ne 14, 3) := by decide +kernel
theorem dX10_sends_9 : decode cX10_sends 9 = .ok (.aload_n 0, 1) := by decide +kernel
theorem dX10_sends_10 : decode cX10_sends 10 = .ok (.dup, 1) := by decide +kernel
theorem dX10_sends_11 : decode cX10_sends 11 = .ok (.getfield 123, 3) := by decide +kernel
theorem dX10_sends_14 : decode cX10_sends 14 = .ok (.iconst 1, 1) := by decide +kernel
theorem dX10_sends_15 : decode cX10_sends 15 = .ok (.iadd, 1) := by decide +kernel
theorem dX10_sends_16 : decode cX10_sends 16 = .ok (.putfield 123, 3) := by decide +kernel
theorem dX10_sends_19 : decode cX10_sends 19 = .ok (.return_, 1) := by decide +kernel
theorem dX10_sends_20 : decode cX10_sends 20 = .ok (.bipush 11, 2) := by decide +kernel
theorem dX10_sends_22 : decode cX10_sends 22 = .ok (.aload_n 0, 1) := by decide +kernel
theorem dX10_sends_23 : decode cX10_sends 23 = .ok (.getfield 113, 3) := by decide +kernel
theorem dX10_sends_26 : decode cX10_sends 26 = .ok (.imul, 1) := by decide +kernel
theorem dX10_sends_27 : decode cX10_sends 27 = .ok (.istore 6, 2) := by decide +kernel
theorem dX10_sends_29 : decode cX10_sends 29 = .ok (.iconst 0, 1) := by decide +kernel
theorem dX10_sends_30 : decode cX10_sends 30 = .ok (.istore 7, 2) := by decide +kernel
theorem dX10_sends_32 : decode cX10_sends 32 = .ok (.iload 7, 2) := by decide +kernel
theorem dX10_sends_34 : decode cX10_sends 34 = .ok (.bipush 6, 2) := by decide +kernel
theorem dX10_sends_36 : decode cX10_sends 36 = .ok (.if_icmp .ge 40, 3) := by decide +kernel
theorem dX10_sends_39 : decode cX10_sends 39 = .ok (.aload_n 0, 1) := by decide +kernel
theorem dX10_sends_40 : decode cX10_sends 40 = .ok (.getfield 68, 3) := by decide +kernel
theorem dX10_sends_43 : decode cX10_sends 43 = .ok (.iload 6, 2) := by decide +kernel
theorem dX10_sends_45 : decode cX10_sends 45 = .ok (.iconst 2, 1) := by decide +kernel
theorem dX10_sends_46 : decode cX10_sends 46 = .ok (.iadd, 1) := by decide +kernel
theorem dX10_sends_47 : decode cX10_sends 47 = .ok (.iload 7, 2) := by decide +kernel
theorem dX10_sends_49 : decode cX10_sends 49 = .ok (.iadd, 1) := by decide +kernel
theorem dX10_sends_50 : decode cX10_sends 50 = .ok (.iload 5, 2) := by decide +kernel
theorem dX10_sends_52 : decode cX10_sends 52 = .ok (.ifCond .lt 16, 3) := by decide +kernel
theorem dX10_sends_55 : decode cX10_sends 55 = .ok (.aload_n 0, 1) := by decide +kernel
theorem dX10_sends_56 : decode cX10_sends 56 = .ok (.getfield 31, 3) := by decide +kernel
theorem dX10_sends_59 : decode cX10_sends 59 = .ok (.iload 5, 2) := by decide +kernel
theorem dX10_sends_61 : decode cX10_sends 61 = .ok (.iload 7, 2) := by decide +kernel
theorem dX10_sends_63 : decode cX10_sends 63 = .ok (.iadd, 1) := by decide +kernel
theorem dX10_sends_64 : decode cX10_sends 64 = .ok (.iaload, 1) := by decide +kernel
theorem dX10_sends_65 : decode cX10_sends 65 = .ok (.goto 4, 3) := by decide +kernel
theorem dX10_sends_68 : decode cX10_sends 68 = .ok (.iconst 0, 1) := by decide +kernel
theorem dX10_sends_69 : decode cX10_sends 69 = .ok (.iastore, 1) := by decide +kernel
theorem dX10_sends_70 : decode cX10_sends 70 = .ok (.iinc 7 1, 3) := by decide +kernel
theorem dX10_sends_73 : decode cX10_sends 73 = .ok (.goto (-41), 3) := by decide +kernel
theorem dX10_sends_76 : decode cX10_sends 76 = .ok (.aload_n 0, 1) := by decide +kernel
theorem dX10_sends_77 : decode cX10_sends 77 = .ok (.getfield 68, 3) := by decide +kernel
theorem dX10_sends_80 : decode cX10_sends 80 = .ok (.iload 6, 2) := by decide +kernel
theorem dX10_sends_82 : decode cX10_sends 82 = .ok (.iconst 0, 1) := by decide +kernel
theorem dX10_sends_83 : decode cX10_sends 83 = .ok (.iadd, 1) := by decide +kernel
theorem dX10_sends_84 : decode cX10_sends 84 = .ok (.iload_n 1, 1) := by decide +kernel
theorem dX10_sends_85 : decode cX10_sends 85 = .ok (.iconst 1, 1) := by decide +kernel
theorem dX10_sends_86 : decode cX10_sends 86 = .ok (.ixor, 1) := by decide +kernel
theorem dX10_sends_87 : decode cX10_sends 87 = .ok (.iastore, 1) := by decide +kernel
theorem dX10_sends_88 : decode cX10_sends 88 = .ok (.aload_n 0, 1) := by decide +kernel
theorem dX10_sends_89 : decode cX10_sends 89 = .ok (.getfield 68, 3) := by decide +kernel
theorem dX10_sends_92 : decode cX10_sends 92 = .ok (.iload 6, 2) := by decide +kernel
theorem dX10_sends_94 : decode cX10_sends 94 = .ok (.iconst 1, 1) := by decide +kernel
theorem dX10_sends_95 : decode cX10_sends 95 = .ok (.iadd, 1) := by decide +kernel
theorem dX10_sends_96 : decode cX10_sends 96 = .ok (.iload_n 2, 1) := by decide +kernel
theorem dX10_sends_97 : decode cX10_sends 97 = .ok (.iastore, 1) := by decide +kernel
theorem dX10_sends_98 : decode cX10_sends 98 = .ok (.aload_n 0, 1) := by decide +kernel
theorem dX10_sends_99 : decode cX10_sends 99 = .ok (.getfield 68, 3) := by decide +kernel
theorem dX10_sends_102 : decode cX10_sends 102 = .ok (.iload 6, 2) := by decide +kernel
theorem dX10_sends_104 : decode cX10_sends 104 = .ok (.iconst 2, 1) := by decide +kernel
theorem dX10_sends_105 : decode cX10_sends 105 = .ok (.iadd, 1) := by decide +kernel
theorem dX10_sends_106 : decode cX10_sends 106 = .ok (.iload_n 3, 1) := by decide +kernel
theorem dX10_sends_107 : decode cX10_sends 107 = .ok (.iastore, 1) := by decide +kernel
theorem dX10_sends_108 : decode cX10_sends 108 = .ok (.aload_n 0, 1) := by decide +kernel
theorem dX10_sends_109 : decode cX10_sends 109 = .ok (.getfield 68, 3) := by decide +kernel
theorem dX10_sends_112 : decode cX10_sends 112 = .ok (.iload 6, 2) := by decide +kernel
theorem dX10_sends_114 : decode cX10_sends 114 = .ok (.bipush 8, 2) := by decide +kernel
theorem dX10_sends_116 : decode cX10_sends 116 = .ok (.iadd, 1) := by decide +kernel
theorem dX10_sends_117 : decode cX10_sends 117 = .ok (.iload 4, 2) := by decide +kernel
theorem dX10_sends_119 : decode cX10_sends 119 = .ok (.iastore, 1) := by decide +kernel
theorem dX10_sends_120 : decode cX10_sends 120 = .ok (.aload_n 0, 1) := by decide +kernel
theorem dX10_sends_121 : decode cX10_sends 121 = .ok (.getfield 68, 3) := by decide +kernel
theorem dX10_sends_124 : decode cX10_sends 124 = .ok (.iload 6, 2) := by decide +kernel
theorem dX10_sends_126 : decode cX10_sends 126 = .ok (.bipush 9, 2) := by decide +kernel
theorem dX10_sends_128 : decode cX10_sends 128 = .ok (.iadd, 1) := by decide +kernel
theorem dX10_sends_129 : decode cX10_sends 129 = .ok (.aload_n 0, 1) := by decide +kernel
theorem dX10_sends_130 : decode cX10_sends 130 = .ok (.getfield 109, 3) := by decide +kernel
theorem dX10_sends_133 : decode cX10_sends 133 = .ok (.aload_n 0, 1) := by decide +kernel
theorem dX10_sends_134 : decode cX10_sends 134 = .ok (.getfield 65, 3) := by decide +kernel
theorem dX10_sends_137 : decode cX10_sends 137 = .ok (.iload_n 1, 1) := by decide +kernel
theorem dX10_sends_138 : decode cX10_sends 138 = .ok (.iconst 2, 1) := by decide +kernel
theorem dX10_sends_139 : decode cX10_sends 139 = .ok (.idiv, 1) := by decide +kernel
theorem dX10_sends_140 : decode cX10_sends 140 = .ok (.iaload, 1) := by decide +kernel
theorem dX10_sends_141 : decode cX10_sends 141 = .ok (.iadd, 1) := by decide +kernel
theorem dX10_sends_142 : decode cX10_sends 142 = .ok (.iastore, 1) := by decide +kernel
theorem dX10_sends_143 : decode cX10_sends 143 = .ok (.aload_n 0, 1) := by decide +kernel
theorem dX10_sends_144 : decode cX10_sends 144 = .ok (.getfield 68, 3) := by decide +kernel
theorem dX10_sends_147 : decode cX10_sends 147 = .ok (.iload 6, 2) := by decide +kernel
theorem dX10_sends_149 : decode cX10_sends 149 = .ok (.bipush 10, 2) := by decide +kernel
theorem dX10_sends_151 : decode cX10_sends 151 = .ok (.iadd, 1) := by decide +kernel
theorem dX10_sends_152 : decode cX10_sends 152 = .ok (.aload_n 0, 1) := by decide +kernel
theorem dX10_sends_153 : decode cX10_sends 153 = .ok (.getfield 228, 3) := by decide +kernel
theorem dX10_sends_156 : decode cX10_sends 156 = .ok (.iastore, 1) := by decide +kernel
theorem dX10_sends_157 : decode cX10_sends 157 = .ok (.aload_n 0, 1) := by decide +kernel
theorem dX10_sends_158 : decode cX10_sends 158 = .ok (.dup, 1) := by decide +kernel
theorem dX10_sends_159 : decode cX10_sends 159 = .ok (.getfield 228, 3) := by decide +kernel
theorem dX10_sends_162 : decode cX10_sends 162 = .ok (.iconst 1, 1) := by decide +kernel
theorem dX10_sends_163 : decode cX10_sends 163 = .ok (.iadd, 1) := by decide +kernel
theorem dX10_sends_164 : decode cX10_sends 164 = .ok (.putfield 228, 3) := by decide +kernel
theorem dX10_sends_167 : decode cX10_sends 167 = .ok (.aload_n 0, 1) := by decide +kernel
theorem dX10_sends_168 : decode cX10_sends 168 = .ok (.dup, 1) := by decide +kernel
theorem dX10_sends_169 : decode cX10_sends 169 = .ok (.getfield 113, 3) := by decide +kernel
theorem dX10_sends_172 : decode cX10_sends 172 = .ok (.iconst 1, 1) := by decide +kernel
theorem dX10_sends_173 : decode cX10_sends 173 = .ok (.iadd, 1) := by decide +kernel
theorem dX10_sends_174 : decode cX10_sends 174 = .ok (.putfield 113, 3) := by decide +kernel
theorem dX10_sends_177 : decode cX10_sends 177 = .ok (.return_, 1) := by decide +kernel
theorem dX10_firstPacket_0 : decode cX10_firstPacket 0 = .ok (.iconst 0, 1) := by decide +kernel
theorem dX10_firstPacket_1 : decode cX10_firstPacket 1 = .ok (.istore_n 1, 1) := by decide +kernel
theorem dX10_firstPacket_2 : decode cX10_firstPacket 2 = .ok (.iconst 1, 1) := by decide +kernel
theorem dX10_firstPacket_3 : decode cX10_firstPacket 3 = .ok (.istore_n 2, 1) := by decide +kernel
theorem dX10_firstPacket_4 : decode cX10_firstPacket 4 = .ok (.iload_n 2, 1) := by decide +kernel
theorem dX10_firstPacket_5 : decode cX10_firstPacket 5 = .ok (.aload_n 0, 1) := by decide +kernel
theorem dX10_firstPacket_6 : decode cX10_firstPacket 6 = .ok (.getfield 113, 3) := by decide +kernel
theorem dX10_firstPacket_9 : decode cX10_firstPacket 9 = .ok (.if_icmp .ge 76, 3) := by decide +kernel
theorem dX10_firstPacket_12 : decode cX10_firstPacket 12 = .ok (.aload_n 0, 1) := by decide +kernel
theorem dX10_firstPacket_13 : decode cX10_firstPacket 13 = .ok (.getfield 68, 3) := by decide +kernel
theorem dX10_firstPacket_16 : decode cX10_firstPacket 16 = .ok (.bipush 11, 2) := by decide +kernel
theorem dX10_firstPacket_18 : decode cX10_firstPacket 18 = .ok (.iload_n 2, 1) := by decide +kernel
theorem dX10_firstPacket_19 : decode cX10_firstPacket 19 = .ok (.imul, 1) := by decide +kernel
theorem dX10_firstPacket_20 : decode cX10_firstPacket 20 = .ok (.bipush 9, 2) := by decide +kernel
theorem dX10_firstPacket_22 : decode cX10_firstPacket 22 = .ok (.iadd, 1) := by decide +kernel
theorem dX10_firstPacket_23 : decode cX10_firstPacket 23 = .ok (.iaload, 1) := by decide +kernel
theorem dX10_firstPacket_24 : decode cX10_firstPacket 24 = .ok (.aload_n 0, 1) := by decide +kernel
theorem dX10_firstPacket_25 : decode cX10_firstPacket 25 = .ok (.getfield 68, 3) := by decide +kernel
theorem dX10_firstPacket_28 : decode cX10_firstPacket 28 = .ok (.bipush 11, 2) := by decide +kernel
theorem dX10_firstPacket_30 : decode cX10_firstPacket 30 = .ok (.iload_n 1, 1) := by decide +kernel
theorem dX10_firstPacket_31 : decode cX10_firstPacket 31 = .ok (.imul, 1) := by decide +kernel
theorem dX10_firstPacket_32 : decode cX10_firstPacket 32 = .ok (.bipush 9, 2) := by decide +kernel
theorem dX10_firstPacket_34 : decode cX10_firstPacket 34 = .ok (.iadd, 1) := by decide +kernel
theorem dX10_firstPacket_35 : decode cX10_firstPacket 35 = .ok (.iaload, 1) := by decide +kernel
theorem dX10_firstPacket_36 : decode cX10_firstPacket 36 = .ok (.isub, 1) := by decide +kernel
theorem dX10_firstPacket_37 : decode cX10_firstPacket 37 = .ok (.istore_n 3, 1) := by decide +kernel
theorem dX10_firstPacket_38 : decode cX10_firstPacket 38 = .ok (.iload_n 3, 1) := by decide +kernel
theorem dX10_firstPacket_39 : decode cX10_firstPacket 39 = .ok (.ifCond .lt 34, 3) := by decide +kernel
theorem dX10_firstPacket_42 : decode cX10_firstPacket 42 = .ok (.iload_n 3, 1) := by decide +kernel
theorem dX10_firstPacket_43 : decode cX10_firstPacket 43 = .ok (.ifCond .ne 34, 3) := by decide +kernel
theorem dX10_firstPacket_46 : decode cX10_firstPacket 46 = .ok (.aload_n 0, 1) := by decide +kernel
theorem dX10_firstPacket_47 : decode cX10_firstPacket 47 = .ok (.getfield 68, 3) := by decide +kernel
theorem dX10_firstPacket_50 : decode cX10_firstPacket 50 = .ok (.bipush 11, 2) := by decide +kernel
theorem dX10_firstPacket_52 : decode cX10_firstPacket 52 = .ok (.iload_n 2, 1) := by decide +kernel
theorem dX10_firstPacket_53 : decode cX10_firstPacket 53 = .ok (.imul, 1) := by decide +kernel
theorem dX10_firstPacket_54 : decode cX10_firstPacket 54 = .ok (.bipush 10, 2) := by decide +kernel
theorem dX10_firstPacket_56 : decode cX10_firstPacket 56 = .ok (.iadd, 1) := by decide +kernel
theorem dX10_firstPacket_57 : decode cX10_firstPacket 57 = .ok (.iaload, 1) := by decide +kernel
theorem dX10_firstPacket_58 : decode cX10_firstPacket 58 = .ok (.aload_n 0, 1) := by decide +kernel
theorem dX10_firstPacket_59 : decode cX10_firstPacket 59 = .ok (.getfield 68, 3) := by decide +kernel
theorem dX10_firstPacket_62 : decode cX10_firstPacket 62 = .ok (.bipush 11, 2) := by decide +kernel
theorem dX10_firstPacket_64 : decode cX10_firstPacket 64 = .ok (.iload_n 1, 1) := by decide +kernel
theorem dX10_firstPacket_65 : decode cX10_firstPacket 65 = .ok (.imul, 1) := by decide +kernel
theorem dX10_firstPacket_66 : decode cX10_firstPacket 66 = .ok (.bipush 10, 2) := by decide +kernel
theorem dX10_firstPacket_68 : decode cX10_firstPacket 68 = .ok (.iadd, 1) := by decide +kernel
theorem dX10_firstPacket_69 : decode cX10_firstPacket 69 = .ok (.iaload, 1) := by decide +kernel
theorem dX10_firstPacket_70 : decode cX10_firstPacket 70 = .ok (.if_icmp .ge 7, 3) := by decide +kernel
theorem dX10_firstPacket_73 : decode cX10_firstPacket 73 = .ok (.iload_n 2, 1) := by decide +kernel
theorem dX10_firstPacket_74 : decode cX10_firstPacket 74 = .ok (.goto 4, 3) := by decide +kernel
theorem dX10_firstPacket_77 : decode cX10_firstPacket 77 = .ok (.iload_n 1, 1) := by decide +kernel
theorem dX10_firstPacket_78 : decode cX10_firstPacket 78 = .ok (.istore_n 1, 1) := by decide +kernel
theorem dX10_firstPacket_79 : decode cX10_firstPacket 79 = .ok (.iinc 2 1, 3) := by decide +kernel
theorem dX10_firstPacket_82 : decode cX10_firstPacket 82 = .ok (.goto (-78), 3) := by decide +kernel
theorem dX10_firstPacket_85 : decode cX10_firstPacket 85 = .ok (.iload_n 1, 1) := by decide +kernel
theorem dX10_firstPacket_86 : decode cX10_firstPacket 86 = .ok (.ireturn, 1) := by decide +kernel
theorem dX10_step_0 : decode cX10_step 0 = .ok (.iload_n 1, 1) := by decide +kernel
theorem dX10_step_1 : decode cX10_step 1 = .ok (.i2l, 1) := by decide +kernel
theorem dX10_step_2 : decode cX10_step 2 = .ok (.lconst 0, 1) := by decide +kernel
theorem dX10_step_3 : decode cX10_step 3 = .ok (.ldc2_w 209, 3) := by decide +kernel
theorem dX10_step_6 : decode cX10_step 6 = .ok (.invokestatic 95, 3) := by decide +kernel
theorem dX10_step_9 : decode cX10_step 9 = .ok (.ifCond .ne 7, 3) := by decide +kernel
theorem dX10_step_12 : decode cX10_step 12 = .ok (.sipush (-1002), 3) := by decide +kernel
theorem dX10_step_15 : decode cX10_step 15 = .ok (.ireturn, 1) := by decide +kernel
theorem dX10_step_16 : decode cX10_step 16 = .ok (.aload_n 0, 1) := by decide +kernel
theorem dX10_step_17 : decode cX10_step 17 = .ok (.getfield 113, 3) := by decide +kernel
theorem dX10_step_20 : decode cX10_step 20 = .ok (.ifCond .ne 7, 3) := by decide +kernel
theorem dX10_step_23 : decode cX10_step 23 = .ok (.sipush (-1003), 3) := by decide +kernel
theorem dX10_step_26 : decode cX10_step 26 = .ok (.ireturn, 1) := by decide +kernel
theorem dX10_step_27 : decode cX10_step 27 = .ok (.aload_n 0, 1) := by decide +kernel
theorem dX10_step_28 : decode cX10_step 28 = .ok (.invokevirtual 231, 3) := by decide +kernel
theorem dX10_step_31 : decode cX10_step 31 = .ok (.istore_n 2, 1) := by decide +kernel
theorem dX10_step_32 : decode cX10_step 32 = .ok (.iconst 0, 1) := by decide +kernel
theorem dX10_step_33 : decode cX10_step 33 = .ok (.istore_n 3, 1) := by decide +kernel
theorem dX10_step_34 : decode cX10_step 34 = .ok (.iload_n 3, 1) := by decide +kernel
theorem dX10_step_35 : decode cX10_step 35 = .ok (.bipush 11, 2) := by decide +kernel
theorem dX10_step_37 : decode cX10_step 37 = .ok (.if_icmp .ge 26, 3) := by decide +kernel
theorem dX10_step_40 : decode cX10_step 40 = .ok (.aload_n 0, 1) := by decide +kernel
theorem dX10_step_41 : decode cX10_step 41 = .ok (.getfield 92, 3) := by decide +kernel
theorem dX10_step_44 : decode cX10_step 44 = .ok (.iload_n 3, 1) := by decide +kernel
theorem dX10_step_45 : decode cX10_step 45 = .ok (.aload_n 0, 1) := by decide +kernel
theorem dX10_step_46 : decode cX10_step 46 = .ok (.getfield 68, 3) := by decide +kernel
theorem dX10_step_49 : decode cX10_step 49 = .ok (.bipush 11, 2) := by decide +kernel
theorem dX10_step_51 : decode cX10_step 51 = .ok (.iload_n 2, 1) := by decide +kernel
theorem dX10_step_52 : decode cX10_step 52 = .ok (.imul, 1) := by decide +kernel
theorem dX10_step_53 : decode cX10_step 53 = .ok (.iload_n 3, 1) := by decide +kernel
theorem dX10_step_54 : decode cX10_step 54 = .ok (.iadd, 1) := by decide +kernel
theorem dX10_step_55 : decode cX10_step 55 = .ok (.iaload, 1) := by decide +kernel
theorem dX10_step_56 : decode cX10_step 56 = .ok (.iastore, 1) := by decide +kernel
theorem dX10_step_57 : decode cX10_step 57 = .ok (.iinc 3 1, 3) := by decide +kernel
theorem dX10_step_60 : decode cX10_step 60 = .ok (.goto (-26), 3) := by decide +kernel
theorem dX10_step_63 : decode cX10_step 63 = .ok (.aload_n 0, 1) := by decide +kernel
theorem dX10_step_64 : decode cX10_step 64 = .ok (.dup, 1) := by decide +kernel
theorem dX10_step_65 : decode cX10_step 65 = .ok (.getfield 113, 3) := by decide +kernel
theorem dX10_step_68 : decode cX10_step 68 = .ok (.iconst 1, 1) := by decide +kernel
theorem dX10_step_69 : decode cX10_step 69 = .ok (.isub, 1) := by decide +kernel
theorem dX10_step_70 : decode cX10_step 70 = .ok (.putfield 113, 3) := by decide +kernel
theorem dX10_step_73 : decode cX10_step 73 = .ok (.iload_n 2, 1) := by decide +kernel
theorem dX10_step_74 : decode cX10_step 74 = .ok (.istore_n 3, 1) := by decide +kernel
theorem dX10_step_75 : decode cX10_step 75 = .ok (.iload_n 3, 1) := by decide +kernel
theorem dX10_step_76 : decode cX10_step 76 = .ok (.aload_n 0, 1) := by decide +kernel
theorem dX10_step_77 : decode cX10_step 77 = .ok (.getfield 113, 3) := by decide +kernel
theorem dX10_step_80 : decode cX10_step 80 = .ok (.if_icmp .ge 17, 3) := by decide +kernel
theorem dX10_step_83 : decode cX10_step 83 = .ok (.aload_n 0, 1) := by decide +kernel
theorem dX10_step_84 : decode cX10_step 84 = .ok (.iload_n 3, 1) := by decide +kernel
theorem dX10_step_85 : decode cX10_step 85 = .ok (.iconst 1, 1) := by decide +kernel
theorem dX10_step_86 : decode cX10_step 86 = .ok (.iadd, 1) := by decide +kernel
theorem dX10_step_87 : decode cX10_step 87 = .ok (.iload_n 3, 1) := by decide +kernel
theorem dX10_step_88 : decode cX10_step 88 = .ok (.invokevirtual 214, 3) := by decide +kernel
theorem dX10_step_91 : decode cX10_step 91 = .ok (.iinc 3 1, 3) := by decide +kernel
theorem dX10_step_94 : decode cX10_step 94 = .ok (.goto (-19), 3) := by decide +kernel
theorem dX10_step_97 : decode cX10_step 97 = .ok (.iload_n 1, 1) := by decide +kernel
theorem dX10_step_98 : decode cX10_step 98 = .ok (.iconst 1, 1) := by decide +kernel
theorem dX10_step_99 : decode cX10_step 99 = .ok (.if_icmp .ne 20, 3) := by decide +kernel
theorem dX10_step_102 : decode cX10_step 102 = .ok (.aload_n 0, 1) := by decide +kernel
theorem dX10_step_103 : decode cX10_step 103 = .ok (.dup, 1) := by decide +kernel
theorem dX10_step_104 : decode cX10_step 104 = .ok (.getfield 123, 3) := by decide +kernel
theorem dX10_step_107 : decode cX10_step 107 = .ok (.iconst 1, 1) := by decide +kernel
theorem dX10_step_108 : decode cX10_step 108 = .ok (.iadd, 1) := by decide +kernel
theorem dX10_step_109 : decode cX10_step 109 = .ok (.putfield 123, 3) := by decide +kernel
theorem dX10_step_112 : decode cX10_step 112 = .ok (.aload_n 0, 1) := by decide +kernel
theorem dX10_step_113 : decode cX10_step 113 = .ok (.getfield 92, 3) := by decide +kernel
theorem dX10_step_116 : decode cX10_step 116 = .ok (.iconst 0, 1) := by decide +kernel
theorem dX10_step_117 : decode cX10_step 117 = .ok (.iaload, 1) := by decide +kernel
theorem dX10_step_118 : decode cX10_step 118 = .ok (.ireturn, 1) := by decide +kernel
theorem dX10_step_119 : decode cX10_step 119 = .ok (.aload_n 0, 1) := by decide +kernel
theorem dX10_step_120 : decode cX10_step 120 = .ok (.aload_n 0, 1) := by decide +kernel
theorem dX10_step_121 : decode cX10_step 121 = .ok (.getfield 92, 3) := by decide +kernel
theorem dX10_step_124 : decode cX10_step 124 = .ok (.bipush 9, 2) := by decide +kernel
theorem dX10_step_126 : decode cX10_step 126 = .ok (.iaload, 1) := by decide +kernel
theorem dX10_step_127 : decode cX10_step 127 = .ok (.aload_n 0, 1) := by decide +kernel
theorem dX10_step_128 : decode cX10_step 128 = .ok (.getfield 109, 3) := by decide +kernel
theorem dX10_step_131 : decode cX10_step 131 = .ok (.if_icmp .le 13, 3) := by decide +kernel
theorem dX10_step_134 : decode cX10_step 134 = .ok (.aload_n 0, 1) := by decide +kernel
theorem dX10_step_135 : decode cX10_step 135 = .ok (.getfield 92, 3) := by decide +kernel
theorem dX10_step_138 : decode cX10_step 138 = .ok (.bipush 9, 2) := by decide +kernel
theorem dX10_step_140 : decode cX10_step 140 = .ok (.iaload, 1) := by decide +kernel
theorem dX10_step_141 : decode cX10_step 141 = .ok (.goto 7, 3) := by decide +kernel
theorem dX10_step_144 : decode cX10_step 144 = .ok (.aload_n 0, 1) := by decide +kernel
theorem dX10_step_145 : decode cX10_step 145 = .ok (.getfield 109, 3) := by decide +kernel
theorem dX10_step_148 : decode cX10_step 148 = .ok (.putfield 109, 3) := by decide +kernel
theorem dX10_step_151 : decode cX10_step 151 = .ok (.iload_n 1, 1) := by decide +kernel
theorem dX10_step_152 : decode cX10_step 152 = .ok (.iconst 2, 1) := by decide +kernel
theorem dX10_step_153 : decode cX10_step 153 = .ok (.if_icmp .ne 109, 3) := by decide +kernel
theorem dX10_step_156 : decode cX10_step 156 = .ok (.iconst 0, 1) := by decide +kernel
theorem dX10_step_157 : decode cX10_step 157 = .ok (.istore_n 3, 1) := by decide +kernel
theorem dX10_step_158 : decode cX10_step 158 = .ok (.iload_n 3, 1) := by decide +kernel
theorem dX10_step_159 : decode cX10_step 159 = .ok (.bipush 11, 2) := by decide +kernel
theorem dX10_step_161 : decode cX10_step 161 = .ok (.if_icmp .ge 29, 3) := by decide +kernel
theorem dX10_step_164 : decode cX10_step 164 = .ok (.aload_n 0, 1) := by decide +kernel
