theorem lk_L_45 : lkV RL 45 mm_X10_key 5 := ⟨ok_X10_key, gw_at 1112 (by decide +kernel) rfl, gw_at 1113 (by decide +kernel) rfl, gw_at 1114 (by decide +kernel) rfl, (show _ = _ by decide +kernel)⟩
theorem lk_L_46 : lkV RL 46 mm_X9_lock 2 := ⟨ok_X9_lock, gw_at 622 (by decide +kernel) rfl, gw_at 623 (by decide +kernel) rfl, gw_at 624 (by decide +kernel) rfl, (show _ = _ by decide +kernel)⟩
theorem lk_L_49 : lkV RL 49 mm_X10_lock 2 := ⟨ok_X10_lock, gw_at 1122 (by decide +kernel) rfl, gw_at 1123 (by decide +kernel) rfl, gw_at 1124 (by decide +kernel) rfl, (show _ = _ by decide +kernel)⟩
theorem lk_L_50 : lkV RL 50 mm_X9_door 3 := ⟨ok_X9_door, gw_at 626 (by decide +kernel) rfl, gw_at 627 (by decide +kernel) rfl, gw_at 628 (by decide +kernel) rfl, (show _ = _ by decide +kernel)⟩
theorem lk_L_53 : lkV RL 53 mm_X10_door 3 := ⟨ok_X10_door, gw_at 1126 (by decide +kernel) rfl, gw_at 1127 (by decide +kernel) rfl, gw_at 1128 (by decide +kernel) rfl, (show _ = _ by decide +kernel)⟩
theorem lk_L_54 : lkV RL 54 mm_X9_join 1 := ⟨ok_X9_join, gw_at 630 (by decide +kernel) rfl, gw_at 631 (by decide +kernel) rfl, gw_at 632 (by decide +kernel) rfl, (show _ = _ by decide +kernel)⟩
theorem lk_L_57 : lkV RL 57 mm_X10_join 1 := ⟨ok_X10_join, gw_at 1131 (by decide +kernel) rfl, gw_at 1132 (by decide +kernel) rfl, gw_at 1133 (by decide +kernel) rfl, (show _ = _ by decide +kernel)⟩
theorem lk_L_58 : lkV RL 58 mm_X9_tear 1 := ⟨ok_X9_tear, gw_at 641 (by decide +kernel) rfl, gw_at 642 (by decide +kernel) rfl, gw_at 643 (by decide +kernel) rfl, (show _ = _ by decide +kernel)⟩
theorem lk_L_61 : lkV RL 61 mm_X10_tear 1 := ⟨ok_X10_tear, gw_at 1139 (by decide +kernel) rfl, gw_at 1140 (by decide +kernel) rfl, gw_at 1141 (by decide +kernel) rfl, (show _ = _ by decide +kernel)⟩
theorem lk_L_62 : lkV RL 62 mm_X9_delay 2 := ⟨ok_X9_delay, gw_at 691 (by decide +kernel) rfl, gw_at 692 (by decide +kernel) rfl, gw_at 693 (by decide +kernel) rfl, (show _ = _ by decide +kernel)⟩
theorem lk_L_65 : lkV RL 65 mm_X10_delay 2 := ⟨ok_X10_delay, gw_at 1158 (by decide +kernel) rfl, gw_at 1159 (by decide +kernel) rfl, gw_at 1160 (by decide +kernel) rfl, (show _ = _ by decide +kernel)⟩
theorem lk_L_66 : lkV RL 66 mm_X9_aim 3 := ⟨ok_X9_aim, gw_at 695 (by decide +kernel) rfl, gw_at 696 (by decide +kernel) rfl, gw_at 697 (by decide +kernel) rfl, (show _ = _ by decide +kernel)⟩
theorem lk_L_69 : lkV RL 69 mm_X10_aim 3 := ⟨ok_X10_aim, gw_at 1163 (by decide +kernel) rfl, gw_at 1164 (by decide +kernel) rfl, gw_at 1165 (by decide +kernel) rfl, (show _ = _ by decide +kernel)⟩
theorem lk_L_70 : lkV RL 70 mm_X9_send 2 := ⟨ok_X9_send, gw_at 699 (by decide +kernel) rfl, gw_at 700 (by decide +kernel) rfl, gw_at 701 (by decide +kernel) rfl, (show _ = _ by decide +kernel)⟩
theorem lk_L_73 : lkV RL 73 mm_X10_send 2 := ⟨ok_X10_send, gw_at 1227 (by decide +kernel) rfl, gw_at 1228 (by decide +kernel) rfl, gw_at 1229 (by decide +kernel) rfl, (show _ = _ by decide +kernel)⟩
theorem lk_L_74 : lkV RL 74 mm_X9_store 2 := ⟨ok_X9_store, gw_at 727 (by decide +kernel) rfl, gw_at 728 (by decide +kernel) rfl, gw_at 729 (by decide +kernel) rfl, (show _ = _ by decide +kernel)⟩
theorem lk_L_77 : lkV RL 77 mm_X10_store 2 := ⟨ok_X10_store, gw_at 1235 (by decide +kernel) rfl, gw_at 1236 (by decide +kernel) rfl, gw_at 1237 (by decide +kernel) rfl, (show _ = _ by decide +kernel)⟩
theorem lk_L_78 : lkV RL 78 mm_X9_read 2 := ⟨ok_X9_read, gw_at 731 (by decide +kernel) rfl, gw_at 732 (by decide +kernel) rfl, gw_at 733 (by decide +kernel) rfl, (show _ = _ by decide +kernel)⟩
theorem lk_L_81 : lkV RL 81 mm_X10_read 2 := ⟨ok_X10_read, gw_at 1239 (by decide +kernel) rfl, gw_at 1240 (by decide +kernel) rfl, gw_at 1241 (by decide +kernel) rfl, (show _ = _ by decide +kernel)⟩
theorem lk_L_82 : lkV RL 82 mm_X9_add 3 := ⟨ok_X9_add, gw_at 735 (by decide +kernel) rfl, gw_at 736 (by decide +kernel) rfl, gw_at 737 (by decide +kernel) rfl, (show _ = _ by decide +kernel)⟩
theorem lk_L_85 : lkV RL 85 mm_X10_add 3 := ⟨ok_X10_add, gw_at 1243 (by decide +kernel) rfl, gw_at 1244 (by decide +kernel) rfl, gw_at 1245 (by decide +kernel) rfl, (show _ = _ by decide +kernel)⟩
theorem lk_L_86 : lkV RL 86 mm_X9_swap 4 := ⟨ok_X9_swap, gw_at 739 (by decide +kernel) rfl, gw_at 740 (by decide +kernel) rfl, gw_at 741 (by decide +kernel) rfl, (show _ = _ by decide +kernel)⟩
theorem lk_L_90 : lkV RL 90 mm_X10_swap 4 := ⟨ok_X10_swap, gw_at 1247 (by decide +kernel) rfl, gw_at 1248 (by decide +kernel) rfl, gw_at 1249 (by decide +kernel) rfl, (show _ = _ by decide +kernel)⟩
theorem lk_L_91 : lkV RL 91 mm_X9_receive 2 := ⟨ok_X9_receive, gw_at 743 (by decide +kernel) rfl, gw_at 744 (by decide +kernel) rfl, gw_at 745 (by decide +kernel) rfl, (show _ = _ by decide +kernel)⟩
theorem lk_L_94 : lkV RL 94 mm_X10_receive 2 := ⟨ok_X10_receive, gw_at 1251 (by decide +kernel) rfl, gw_at 1252 (by decide +kernel) rfl, gw_at 1253 (by decide +kernel) rfl, (show _ = _ by decide +kernel)⟩
theorem lk_L_95 : lkV RL 95 mm_X9_step 1 := ⟨ok_X9_step, gw_at 751 (by decide +kernel) rfl, gw_at 752 (by decide +kernel) rfl, gw_at 753 (by decide +kernel) rfl, (show _ = _ by decide +kernel)⟩
theorem lk_L_98 : lkV RL 98 mm_X10_step 1 := ⟨ok_X10_step, gw_at 1167 (by decide +kernel) rfl, gw_at 1168 (by decide +kernel) rfl, gw_at 1169 (by decide +kernel) rfl, (show _ = _ by decide +kernel)⟩
theorem lk_L_99 : lkV RL 99 mm_X9_tick 1 := ⟨ok_X9_tick, gw_at 848 (by decide +kernel) rfl, gw_at 849 (by decide +kernel) rfl, gw_at 850 (by decide +kernel) rfl, (show _ = _ by decide +kernel)⟩
theorem lk_L_102 : lkV RL 102 mm_X10_tick 1 := ⟨ok_X10_tick, gw_at 1255 (by decide +kernel) rfl, gw_at 1256 (by decide +kernel) rfl, gw_at 1257 (by decide +kernel) rfl, (show _ = _ by decide +kernel)⟩
theorem lk_L_103 : lkV RL 103 mm_X9_take 1 := ⟨ok_X9_take, gw_at 853 (by decide +kernel) rfl, gw_at 854 (by decide +kernel) rfl, gw_at 855 (by decide +kernel) rfl, (show _ = _ by decide +kernel)⟩
theorem lk_L_106 : lkV RL 106 mm_X10_take 1 := ⟨ok_X10_take, gw_at 1259 (by decide +kernel) rfl, gw_at 1260 (by decide +kernel) rfl, gw_at 1261 (by decide +kernel) rfl, (show _ = _ by decide +kernel)⟩
theorem lk_L_107 : lkV RL 107 mm_X9_taken 1 := ⟨ok_X9_taken, gw_at 861 (by decide +kernel) rfl, gw_at 862 (by decide +kernel) rfl, gw_at 863 (by decide +kernel) rfl, (show _ = _ by decide +kernel)⟩
theorem lk_L_110 : lkV RL 110 mm_X10_taken 1 := ⟨ok_X10_taken, gw_at 1263 (by decide +kernel) rfl, gw_at 1264 (by decide +kernel) rfl, gw_at 1265 (by decide +kernel) rfl, (show _ = _ by decide +kernel)⟩
theorem lk_L_111 : lkV RL 111 mm_X9_end 2 := ⟨ok_X9_end, gw_at 865 (by decide +kernel) rfl, gw_at 866 (by decide +kernel) rfl, gw_at 867 (by decide +kernel) rfl, (show _ = _ by decide +kernel)⟩
theorem lk_L_114 : lkV RL 114 mm_X10_end 2 := ⟨ok_X10_end, gw_at 1268 (by decide +kernel) rfl, gw_at 1269 (by decide +kernel) rfl, gw_at 1270 (by decide +kernel) rfl, (show _ = _ by decide +kernel)⟩
theorem lk_L_115 : lkV RL 115 mm_X9_open 3 := ⟨ok_X9_open, gw_at 869 (by decide +kernel) rfl, gw_at 870 (by decide +kernel) rfl, gw_at 871 (by decide +kernel) rfl, (show _ = _ by decide +kernel)⟩
theorem lk_L_118 : lkV RL 118 mm_X10_open 3 := ⟨ok_X10_open, gw_at 1272 (by decide +kernel) rfl, gw_at 1273 (by decide +kernel) rfl, gw_at 1274 (by decide +kernel) rfl, (show _ = _ by decide +kernel)⟩
theorem lk_L_119 : lkV RL 119 mm_X9_packet 1 := ⟨ok_X9_packet, gw_at 873 (by decide +kernel) rfl, gw_at 874 (by decide +kernel) rfl, gw_at 875 (by decide +kernel) rfl, (show _ = _ by decide +kernel)⟩
theorem lk_L_122 : lkV RL 122 mm_X10_packet 1 := ⟨ok_X10_packet, gw_at 1277 (by decide +kernel) rfl, gw_at 1278 (by decide +kernel) rfl, gw_at 1279 (by decide +kernel) rfl, (show _ = _ by decide +kernel)⟩
theorem lk_L_123 : lkV RL 123 mm_X9_count 1 := ⟨ok_X9_count, gw_at 878 (by decide +kernel) rfl, gw_at 879 (by decide +kernel) rfl, gw_at 880 (by decide +kernel) rfl, (show _ = _ by decide +kernel)⟩
theorem lk_L_126 : lkV RL 126 mm_X10_count 1 := ⟨ok_X10_count, gw_at 1281 (by decide +kernel) rfl, gw_at 1282 (by decide +kernel) rfl, gw_at 1283 (by decide +kernel) rfl, (show _ = _ by decide +kernel)⟩
theorem lo_X0_3 : Cond.methodLink RX0 3 Lib.objectInit ∈ gw ∧ Cond.instanceMethod Lib.objectInit ∈ gw ∧ Cond.code Lib.objectInit ⟨#[0xb1]⟩ 1 none ∈ gw := ⟨gw_at 278 (by decide +kernel) rfl, gw_at 80 (by decide +kernel) rfl, gw_at 81 (by decide +kernel) rfl⟩
theorem lk_X10_265 : lkV RX10 265 mm_X10_reasonOf 3 := ⟨ok_X10_reasonOf, gw_at 1187 (by decide +kernel) rfl, gw_at 1189 (by decide +kernel) rfl, gw_at 46 (by decide +kernel) rfl, (show _ = _ by decide +kernel)⟩
theorem lk_X10_248 : lkV RX10 248 mm_X10_sends 5 := ⟨ok_X10_sends, gw_at 1179 (by decide +kernel) rfl, gw_at 1181 (by decide +kernel) rfl, gw_at 44 (by decide +kernel) rfl, (show _ = _ by decide +kernel)⟩
theorem lk_X10_223 : lkV RX10 223 mm_X10_breaks 1 := ⟨ok_X10_breaks, gw_at 1146 (by decide +kernel) rfl, gw_at 1148 (by decide +kernel) rfl, gw_at 39 (by decide +kernel) rfl, (show _ = _ by decide +kernel)⟩
theorem lk_X10_269 : lkV RX10 269 mm_X10_changesMore 3 := ⟨ok_X10_changesMore, gw_at 1191 (by decide +kernel) rfl, gw_at 1193 (by decide +kernel) rfl, gw_at 47 (by decide +kernel) rfl, (show _ = _ by decide +kernel)⟩
theorem lk_X10_262 : lkV RX10 262 mm_X10_passes 3 := ⟨ok_X10_passes, gw_at 1195 (by decide +kernel) rfl, gw_at 1197 (by decide +kernel) rfl, gw_at 48 (by decide +kernel) rfl, (show _ = _ by decide +kernel)⟩
theorem lk_X10_220 : lkS RX10 220 mm_X10_isEnd 1 := ⟨ok_X10_isEnd, gw_at 1143 (by decide +kernel) rfl, gw_at 1144 (by decide +kernel) rfl, (show _ = _ by decide +kernel)⟩
theorem lk_X10_197 : lkS RX10 197 mm_X10_isCell 1 := ⟨ok_X10_isCell, gw_at 1100 (by decide +kernel) rfl, gw_at 1101 (by decide +kernel) rfl, (show _ = _ by decide +kernel)⟩
theorem lk_X10_200 : lkS RX10 200 mm_X10_isNumber 1 := ⟨ok_X10_isNumber, gw_at 1108 (by decide +kernel) rfl, gw_at 1109 (by decide +kernel) rfl, (show _ = _ by decide +kernel)⟩
theorem lk_X10_282 : lkV RX10 282 mm_X10_post 5 := ⟨ok_X10_post, gw_at 1231 (by decide +kernel) rfl, gw_at 1233 (by decide +kernel) rfl, gw_at 56 (by decide +kernel) rfl, (show _ = _ by decide +kernel)⟩
theorem lk_X10_245 : lkV RX10 245 mm_X10_tellsOldest 3 := ⟨ok_X10_tellsOldest, gw_at 1150 (by decide +kernel) rfl, gw_at 1152 (by decide +kernel) rfl, gw_at 40 (by decide +kernel) rfl, (show _ = _ by decide +kernel)⟩
theorem lk_X10_251 : lkV RX10 251 mm_X10_sendsWork 2 := ⟨ok_X10_sendsWork, gw_at 1223 (by decide +kernel) rfl, gw_at 1225 (by decide +kernel) rfl, gw_at 55 (by decide +kernel) rfl, (show _ = _ by decide +kernel)⟩
theorem lk_X10_95 : lkS RX10 95 mm_X10_in 3 := ⟨ok_X10_in, gw_at 1016 (by decide +kernel) rfl, gw_at 1017 (by decide +kernel) rfl, (show _ = _ by decide +kernel)⟩
theorem lk_X10_105 : lkV RX10 105 mm_X10_endAnew 2 := ⟨ok_X10_endAnew, gw_at 1069 (by decide +kernel) rfl, gw_at 1071 (by decide +kernel) rfl, gw_at 32 (by decide +kernel) rfl, (show _ = _ by decide +kernel)⟩
theorem lk_X10_272 : lkV RX10 272 mm_X10_oldest 1 := ⟨ok_X10_oldest, gw_at 1211 (by decide +kernel) rfl, gw_at 1213 (by decide +kernel) rfl, gw_at 52 (by decide +kernel) rfl, (show _ = _ by decide +kernel)⟩
theorem lk_X10_275 : lkV RX10 275 mm_X10_isOpen 2 := ⟨ok_X10_isOpen, gw_at 1215 (by decide +kernel) rfl, gw_at 1217 (by decide +kernel) rfl, gw_at 53 (by decide +kernel) rfl, (show _ = _ by decide +kernel)⟩
theorem lk_X10_279 : lkV RX10 279 mm_X10_again 1 := ⟨ok_X10_again, gw_at 1219 (by decide +kernel) rfl, gw_at 1221 (by decide +kernel) rfl, gw_at 54 (by decide +kernel) rfl, (show _ = _ by decide +kernel)⟩
theorem lk_X10_241 : lkV RX10 241 mm_X10_tells 5 := ⟨ok_X10_tells, gw_at 1154 (by decide +kernel) rfl, gw_at 1156 (by decide +kernel) rfl, gw_at 41 (by decide +kernel) rfl, (show _ = _ by decide +kernel)⟩
theorem lk_X10_194 : lkS RX10 194 mm_X10_isHost 1 := ⟨ok_X10_isHost, gw_at 1097 (by decide +kernel) rfl, gw_at 1098 (by decide +kernel) rfl, (show _ = _ by decide +kernel)⟩
theorem lk_X10_217 : lkV RX10 217 mm_X10_readyEnds 0 := ⟨ok_X10_readyEnds, gw_at 1135 (by decide +kernel) rfl, gw_at 1137 (by decide +kernel) rfl, gw_at 38 (by decide +kernel) rfl, (show _ = _ by decide +kernel)⟩
theorem lk_X10_290 : lkV RX10 290 mm_X10_allCells 0 := ⟨ok_X10_allCells, gw_at 1285 (by decide +kernel) rfl, gw_at 1287 (by decide +kernel) rfl, gw_at 57 (by decide +kernel) rfl, (show _ = _ by decide +kernel)⟩
theorem lk_X10_159 : lkV RX10 159 mm_X10_allAnew 0 := ⟨ok_X10_allAnew, gw_at 1065 (by decide +kernel) rfl, gw_at 1067 (by decide +kernel) rfl, gw_at 31 (by decide +kernel) rfl, (show _ = _ by decide +kernel)⟩
theorem lk_X10_162 : lkV RX10 162 mm_X10_keys 4 := ⟨ok_X10_keys, gw_at 1073 (by decide +kernel) rfl, gw_at 1075 (by decide +kernel) rfl, gw_at 33 (by decide +kernel) rfl, (show _ = _ by decide +kernel)⟩
theorem lk_X10_166 : lkV RX10 166 mm_X10_joins 1 := ⟨ok_X10_joins, gw_at 1077 (by decide +kernel) rfl, gw_at 1079 (by decide +kernel) rfl, gw_at 34 (by decide +kernel) rfl, (show _ = _ by decide +kernel)⟩
theorem lk_X10_190 : lkV RX10 190 mm_X10_readsAll 1 := ⟨ok_X10_readsAll, gw_at 1027 (by decide +kernel) rfl, gw_at 1029 (by decide +kernel) rfl, gw_at 24 (by decide +kernel) rfl, (show _ = _ by decide +kernel)⟩
theorem lo_X10_1 : Cond.methodLink RX10 1 Lib.objectInit ∈ gw ∧ Cond.instanceMethod Lib.objectInit ∈ gw ∧ Cond.code Lib.objectInit ⟨#[0xb1]⟩ 1 none ∈ gw := ⟨gw_at 891 (by decide +kernel) rfl, gw_at 80 (by decide +kernel) rfl, gw_at 81 (by decide +kernel) rfl⟩
theorem lk_X10_211 : lkV RX10 211 mm_X10_isReady 1 := ⟨ok_X10_isReady, gw_at 1081 (by decide +kernel) rfl, gw_at 1083 (by decide +kernel) rfl, gw_at 35 (by decide +kernel) rfl, (show _ = _ by decide +kernel)⟩
theorem lk_X10_214 : lkV RX10 214 mm_X10_copyPacket 2 := ⟨ok_X10_copyPacket, gw_at 1085 (by decide +kernel) rfl, gw_at 1087 (by decide +kernel) rfl, gw_at 36 (by decide +kernel) rfl, (show _ = _ by decide +kernel)⟩
theorem lk_X10_205 : lkV RX10 205 mm_X10_keysOf 1 := ⟨ok_X10_keysOf, gw_at 1118 (by decide +kernel) rfl, gw_at 1120 (by decide +kernel) rfl, gw_at 37 (by decide +kernel) rfl, (show _ = _ by decide +kernel)⟩
theorem lk_X10_145 : lkS RX10 145 mm_X10_isSmall 1 := ⟨ok_X10_isSmall, gw_at 1035 (by decide +kernel) rfl, gw_at 1036 (by decide +kernel) rfl, (show _ = _ by decide +kernel)⟩
theorem lk_X10_149 : lkS RX10 149 mm_X10_isDigit 1 := ⟨ok_X10_isDigit, gw_at 1040 (by decide +kernel) rfl, gw_at 1041 (by decide +kernel) rfl, (show _ = _ by decide +kernel)⟩
theorem lk_X10_231 : lkV RX10 231 mm_X10_firstPacket 0 := ⟨ok_X10_firstPacket, gw_at 1171 (by decide +kernel) rfl, gw_at 1173 (by decide +kernel) rfl, gw_at 42 (by decide +kernel) rfl, (show _ = _ by decide +kernel)⟩
theorem lk_X10_152 : lkV RX10 152 mm_X10_next 0 := ⟨ok_X10_next, gw_at 1031 (by decide +kernel) rfl, gw_at 1033 (by decide +kernel) rfl, gw_at 25 (by decide +kernel) rfl, (show _ = _ by decide +kernel)⟩
theorem lk_X10_186 : lkV RX10 186 mm_X10_readsClause 0 := ⟨ok_X10_readsClause, gw_at 1045 (by decide +kernel) rfl, gw_at 1047 (by decide +kernel) rfl, gw_at 26 (by decide +kernel) rfl, (show _ = _ by decide +kernel)⟩
theorem lk_X10_170 : lkV RX10 170 mm_X10_wordHere 0 := ⟨ok_X10_wordHere, gw_at 1049 (by decide +kernel) rfl, gw_at 1051 (by decide +kernel) rfl, gw_at 27 (by decide +kernel) rfl, (show _ = _ by decide +kernel)⟩
theorem lk_X10_174 : lkV RX10 174 mm_X10_readsRest 1 := ⟨ok_X10_readsRest, gw_at 1053 (by decide +kernel) rfl, gw_at 1055 (by decide +kernel) rfl, gw_at 28 (by decide +kernel) rfl, (show _ = _ by decide +kernel)⟩
theorem lk_X10_180 : lkV RX10 180 mm_X10_does 1 := ⟨ok_X10_does, gw_at 1061 (by decide +kernel) rfl, gw_at 1063 (by decide +kernel) rfl, gw_at 30 (by decide +kernel) rfl, (show _ = _ by decide +kernel)⟩
theorem lk_X10_155 : lkV RX10 155 mm_X10_reads 3 := ⟨ok_X10_reads, gw_at 1057 (by decide +kernel) rfl, gw_at 1059 (by decide +kernel) rfl, gw_at 29 (by decide +kernel) rfl, (show _ = _ by decide +kernel)⟩
theorem lk_X10_254 : lkV RX10 254 mm_X10_accesses 3 := ⟨ok_X10_accesses, gw_at 1183 (by decide +kernel) rfl, gw_at 1185 (by decide +kernel) rfl, gw_at 45 (by decide +kernel) rfl, (show _ = _ by decide +kernel)⟩
theorem lk_X10_257 : lkV RX10 257 mm_X10_receives 2 := ⟨ok_X10_receives, gw_at 1199 (by decide +kernel) rfl, gw_at 1201 (by decide +kernel) rfl, gw_at 49 (by decide +kernel) rfl, (show _ = _ by decide +kernel)⟩
theorem lk_X10_259 : lkV RX10 259 mm_X10_tellsAgain 2 := ⟨ok_X10_tellsAgain, gw_at 1203 (by decide +kernel) rfl, gw_at 1205 (by decide +kernel) rfl, gw_at 50 (by decide +kernel) rfl, (show _ = _ by decide +kernel)⟩
theorem lk_X10_234 : lkV RX10 234 mm_X10_requested 3 := ⟨ok_X10_requested, gw_at 1175 (by decide +kernel) rfl, gw_at 1177 (by decide +kernel) rfl, gw_at 43 (by decide +kernel) rfl, (show _ = _ by decide +kernel)⟩
theorem lk_X10_238 : lkV RX10 238 mm_X10_answered 3 := ⟨ok_X10_answered, gw_at 1207 (by decide +kernel) rfl, gw_at 1209 (by decide +kernel) rfl, gw_at 51 (by decide +kernel) rfl, (show _ = _ by decide +kernel)⟩
theorem lk_X1_116 : lkSN RX1 116 mm_X9_otherEnd 1 := ⟨ok_X9_otherEnd, ⟨"RemoteCells", nest_at rfl 718 (by decide +kernel)⟩, gw_at 575 (by decide +kernel) rfl, (show _ = _ by decide +kernel)⟩
theorem lk_X1_120 : lkV RX1 120 mm_X7_placeFor 1 := ⟨ok_X7_placeFor, gw_at 719 (by decide +kernel) rfl, gw_at 720 (by decide +kernel) rfl, gw_at 721 (by decide +kernel) rfl, (show _ = _ by decide +kernel)⟩
theorem lk_X1_131 : lkV RX1 131 mm_X5_beAnswer 3 := ⟨ok_X5_beAnswer, gw_at 813 (by decide +kernel) rfl, gw_at 814 (by decide +kernel) rfl, gw_at 815 (by decide +kernel) rfl, (show _ = _ by decide +kernel)⟩
theorem lk_X1_236 : lkV RX1 236 mm_X1_finishOldest 2 := ⟨ok_X1_finishOldest, gw_at 652 (by decide +kernel) rfl, gw_at 654 (by decide +kernel) rfl, gw_at 9 (by decide +kernel) rfl, (show _ = _ by decide +kernel)⟩
theorem lk_X1_184 : lkV RX1 184 mm_X1_breakUp 0 := ⟨ok_X1_breakUp, gw_at 796 (by decide +kernel) rfl, gw_at 649 (by decide +kernel) rfl, gw_at 650 (by decide +kernel) rfl, (show _ = _ by decide +kernel)⟩
theorem lk_X1_174 : lkI RX1 174 mm_X4_init 5 := ⟨ok_X4_init, gw_at 658 (by decide +kernel) rfl, gw_at 659 (by decide +kernel) rfl, rfl, rfl, (show _ = _ by decide +kernel)⟩
theorem lk_X1_177 : lkV RX1 177 mm_X2_pushNotice 1 := ⟨ok_X2_pushNotice, gw_at 687 (by decide +kernel) rfl, gw_at 688 (by decide +kernel) rfl, gw_at 689 (by decide +kernel) rfl, (show _ = _ by decide +kernel)⟩
theorem lk_X1_83 : lkSN RX1 83 mm_X9_isFetch 1 := ⟨ok_X9_isFetch, ⟨"RemoteCells", nest_at rfl 707 (by decide +kernel)⟩, gw_at 708 (by decide +kernel) rfl, (show _ = _ by decide +kernel)⟩
theorem lk_X1_152 : lkV RX1 152 mm_X1_answer 3 := ⟨ok_X1_answer, gw_at 809 (by decide +kernel) rfl, gw_at 811 (by decide +kernel) rfl, gw_at 18 (by decide +kernel) rfl, (show _ = _ by decide +kernel)⟩
theorem lo_X1_3 : Cond.methodLink RX1 3 Lib.objectInit ∈ gw ∧ Cond.instanceMethod Lib.objectInit ∈ gw ∧ Cond.code Lib.objectInit ⟨#[0xb1]⟩ 1 none ∈ gw := ⟨gw_at 270 (by decide +kernel) rfl, gw_at 80 (by decide +kernel) rfl, gw_at 81 (by decide +kernel) rfl⟩
theorem lk_X1_23 : lkIN RX1 23 mm_X0_init 0 := ⟨ok_X0_init, ⟨"RemoteCells", nest_at rfl 275 (by decide +kernel)⟩, gw_at 276 (by decide +kernel) rfl, rfl, rfl, (show _ = _ by decide +kernel)⟩
theorem lk_X1_71 : lkIN RX1 71 mm_X8_init 0 := ⟨ok_X8_init, ⟨"RemoteCells", nest_at rfl 292 (by decide +kernel)⟩, gw_at 293 (by decide +kernel) rfl, rfl, rfl, (show _ = _ by decide +kernel)⟩
theorem lk_X1_138 : lkV RX1 138 mm_X1_meetAnswer 1 := ⟨ok_X1_meetAnswer, gw_at 780 (by decide +kernel) rfl, gw_at 782 (by decide +kernel) rfl, gw_at 12 (by decide +kernel) rfl, (show _ = _ by decide +kernel)⟩
theorem lk_X1_143 : lkV RX1 143 mm_X1_complain 0 := ⟨ok_X1_complain, gw_at 805 (by decide +kernel) rfl, gw_at 807 (by decide +kernel) rfl, gw_at 17 (by decide +kernel) rfl, (show _ = _ by decide +kernel)⟩
theorem lk_X1_146 : lkV RX1 146 mm_X1_meetOldRequest 1 := ⟨ok_X1_meetOldRequest, gw_at 817 (by decide +kernel) rfl, gw_at 819 (by decide +kernel) rfl, gw_at 19 (by decide +kernel) rfl, (show _ = _ by decide +kernel)⟩
theorem lk_X1_149 : lkV RX1 149 mm_X1_meetExpected 1 := ⟨ok_X1_meetExpected, gw_at 840 (by decide +kernel) rfl, gw_at 842 (by decide +kernel) rfl, gw_at 22 (by decide +kernel) rfl, (show _ = _ by decide +kernel)⟩
theorem lk_X1_217 : lkV RX1 217 mm_X1_isAwaited 1 := ⟨ok_X1_isAwaited, gw_at 784 (by decide +kernel) rfl, gw_at 786 (by decide +kernel) rfl, gw_at 13 (by decide +kernel) rfl, (show _ = _ by decide +kernel)⟩
theorem lk_X1_221 : lkV RX1 221 mm_X1_finishBelow 1 := ⟨ok_X1_finishBelow, gw_at 788 (by decide +kernel) rfl, gw_at 790 (by decide +kernel) rfl, gw_at 14 (by decide +kernel) rfl, (show _ = _ by decide +kernel)⟩
theorem lk_X1_224 : lkV RX1 224 mm_X1_tryAgain 0 := ⟨ok_X1_tryAgain, gw_at 792 (by decide +kernel) rfl, gw_at 793 (by decide +kernel) rfl, gw_at 794 (by decide +kernel) rfl, (show _ = _ by decide +kernel)⟩
theorem lk_X1_230 : lkV RX1 230 mm_X1_bringHome 1 := ⟨ok_X1_bringHome, gw_at 797 (by decide +kernel) rfl, gw_at 799 (by decide +kernel) rfl, gw_at 15 (by decide +kernel) rfl, (show _ = _ by decide +kernel)⟩
theorem lk_X1_233 : lkV RX1 233 mm_X1_bearBusy 0 := ⟨ok_X1_bearBusy, gw_at 801 (by decide +kernel) rfl, gw_at 803 (by decide +kernel) rfl, gw_at 16 (by decide +kernel) rfl, (show _ = _ by decide +kernel)⟩
theorem lk_X1_163 : lkV RX1 163 mm_X1_takeIn 1 := ⟨ok_X1_takeIn, gw_at 844 (by decide +kernel) rfl, gw_at 846 (by decide +kernel) rfl, gw_at 23 (by decide +kernel) rfl, (show _ = _ by decide +kernel)⟩
theorem lk_X1_156 : lkV RX1 156 mm_X1_reach 1 := ⟨ok_X1_reach, gw_at 821 (by decide +kernel) rfl, gw_at 823 (by decide +kernel) rfl, gw_at 20 (by decide +kernel) rfl, (show _ = _ by decide +kernel)⟩
theorem lk_X1_160 : lkV RX1 160 mm_X0_toldOf 1 := ⟨ok_X0_toldOf, gw_at 836 (by decide +kernel) rfl, gw_at 837 (by decide +kernel) rfl, gw_at 838 (by decide +kernel) rfl, (show _ = _ by decide +kernel)⟩
theorem lk_X1_87 : lkV RX1 87 mm_X1_openFetches 0 := ⟨ok_X1_openFetches, gw_at 710 (by decide +kernel) rfl, gw_at 712 (by decide +kernel) rfl, gw_at 10 (by decide +kernel) rfl, (show _ = _ by decide +kernel)⟩
theorem lk_X1_112 : lkV RX1 112 mm_X1_request 1 := ⟨ok_X1_request, gw_at 714 (by decide +kernel) rfl, gw_at 716 (by decide +kernel) rfl, gw_at 11 (by decide +kernel) rfl, (show _ = _ by decide +kernel)⟩
theorem lk_X1_181 : lkV RX1 181 mm_X1_reasonAgainst 1 := ⟨ok_X1_reasonAgainst, gw_at 825 (by decide +kernel) rfl, gw_at 827 (by decide +kernel) rfl, gw_at 21 (by decide +kernel) rfl, (show _ = _ by decide +kernel)⟩
theorem lk_X1_199 : lkV RX1 199 mm_X0_remember 2 := ⟨ok_X0_remember, gw_at 832 (by decide +kernel) rfl, gw_at 833 (by decide +kernel) rfl, gw_at 834 (by decide +kernel) rfl, (show _ = _ by decide +kernel)⟩
theorem lk_X1_214 : lkS RX1 214 mm_X1_rightFor 1 := ⟨ok_X1_rightFor, gw_at 829 (by decide +kernel) rfl, gw_at 830 (by decide +kernel) rfl, (show _ = _ by decide +kernel)⟩
theorem lk_X1_126 : lkV RX1 126 mm_X5_beRequest 1 := ⟨ok_X5_beRequest, gw_at 723 (by decide +kernel) rfl, gw_at 724 (by decide +kernel) rfl, gw_at 725 (by decide +kernel) rfl, (show _ = _ by decide +kernel)⟩
theorem lk_X1_72 : lkV RX1 72 mm_X1_restart 1 := ⟨ok_X1_restart, gw_at 550 (by decide +kernel) rfl, gw_at 551 (by decide +kernel) rfl, gw_at 552 (by decide +kernel) rfl, (show _ = _ by decide +kernel)⟩
theorem lk_X1_76 : lkV RX1 76 mm_X1_setAim 2 := ⟨ok_X1_setAim, gw_at 554 (by decide +kernel) rfl, gw_at 555 (by decide +kernel) rfl, gw_at 556 (by decide +kernel) rfl, (show _ = _ by decide +kernel)⟩
theorem lo_X2_3 : Cond.methodLink RX2 3 Lib.objectInit ∈ gw ∧ Cond.instanceMethod Lib.objectInit ∈ gw ∧ Cond.code Lib.objectInit ⟨#[0xb1]⟩ 1 none ∈ gw := ⟨gw_at 207 (by decide +kernel) rfl, gw_at 80 (by decide +kernel) rfl, gw_at 81 (by decide +kernel) rfl⟩
theorem lk_X2_35 : lkIN RX2 35 mm_X3_init 0 := ⟨ok_X3_init, ⟨"RemoteCells", nest_at rfl 211 (by decide +kernel)⟩, gw_at 212 (by decide +kernel) rfl, rfl, rfl, (show _ = _ by decide +kernel)⟩
theorem lo_X3_1 : Cond.methodLink RX3 1 Lib.objectInit ∈ gw ∧ Cond.instanceMethod Lib.objectInit ∈ gw ∧ Cond.code Lib.objectInit ⟨#[0xb1]⟩ 1 none ∈ gw := ⟨gw_at 214 (by decide +kernel) rfl, gw_at 80 (by decide +kernel) rfl, gw_at 81 (by decide +kernel) rfl⟩
theorem lo_X4_1 : Cond.methodLink RX4 1 Lib.objectInit ∈ gw ∧ Cond.instanceMethod Lib.objectInit ∈ gw ∧ Cond.code Lib.objectInit ⟨#[0xb1]⟩ 1 none ∈ gw := ⟨gw_at 661 (by decide +kernel) rfl, gw_at 80 (by decide +kernel) rfl, gw_at 81 (by decide +kernel) rfl⟩
theorem lo_X5_3 : Cond.methodLink RX5 3 Lib.objectInit ∈ gw ∧ Cond.instanceMethod Lib.objectInit ∈ gw ∧ Cond.code Lib.objectInit ⟨#[0xb1]⟩ 1 none ∈ gw := ⟨gw_at 98 (by decide +kernel) rfl, gw_at 80 (by decide +kernel) rfl, gw_at 81 (by decide +kernel) rfl⟩
theorem lk_X6_35 : lkV RX6 35 mm_X6_rewind 0 := ⟨ok_X6_rewind, gw_at 439 (by decide +kernel) rfl, gw_at 440 (by decide +kernel) rfl, gw_at 441 (by decide +kernel) rfl, (show _ = _ by decide +kernel)⟩
theorem lk_X6_38 : lkV RX6 38 mm_X6_readClause 0 := ⟨ok_X6_readClause, gw_at 443 (by decide +kernel) rfl, gw_at 444 (by decide +kernel) rfl, gw_at 445 (by decide +kernel) rfl, (show _ = _ by decide +kernel)⟩
theorem lk_X6_42 : lkV RX6 42 mm_X6_nextToken 0 := ⟨ok_X6_nextToken, gw_at 447 (by decide +kernel) rfl, gw_at 448 (by decide +kernel) rfl, gw_at 449 (by decide +kernel) rfl, (show _ = _ by decide +kernel)⟩
theorem lo_X6_3 : Cond.methodLink RX6 3 Lib.objectInit ∈ gw ∧ Cond.instanceMethod Lib.objectInit ∈ gw ∧ Cond.code Lib.objectInit ⟨#[0xb1]⟩ 1 none ∈ gw := ⟨gw_at 175 (by decide +kernel) rfl, gw_at 80 (by decide +kernel) rfl, gw_at 81 (by decide +kernel) rfl⟩
theorem lk_X6_53 : lkS RX6 53 mm_X6_isSmall 1 := ⟨ok_X6_isSmall, gw_at 451 (by decide +kernel) rfl, gw_at 452 (by decide +kernel) rfl, (show _ = _ by decide +kernel)⟩
theorem lk_X6_57 : lkS RX6 57 mm_X6_isDigit 1 := ⟨ok_X6_isDigit, gw_at 454 (by decide +kernel) rfl, gw_at 455 (by decide +kernel) rfl, (show _ = _ by decide +kernel)⟩
theorem lk_X6_80 : lkV RX6 80 mm_J0_length_8abf5 0 := ⟨ok_J0_length_8abf5, gw_at 469 (by decide +kernel) rfl, gw_at 470 (by decide +kernel) rfl, gw_at 471 (by decide +kernel) rfl, (show _ = _ by decide +kernel)⟩
theorem lk_X6_84 : lkV RX6 84 mm_J0_charAt_5068e 1 := ⟨ok_J0_charAt_5068e, gw_at 479 (by decide +kernel) rfl, gw_at 480 (by decide +kernel) rfl, gw_at 481 (by decide +kernel) rfl, (show _ = _ by decide +kernel)⟩
theorem lk_X6_60 : lkS RX6 60 mm_X6_isAlike 2 := ⟨ok_X6_isAlike, gw_at 457 (by decide +kernel) rfl, gw_at 458 (by decide +kernel) rfl, (show _ = _ by decide +kernel)⟩
theorem lk_X6_45 : lkV RX6 45 mm_X6_wordOfToken 0 := ⟨ok_X6_wordOfToken, gw_at 460 (by decide +kernel) rfl, gw_at 462 (by decide +kernel) rfl, gw_at 0 (by decide +kernel) rfl, (show _ = _ by decide +kernel)⟩
theorem lk_X6_49 : lkV RX6 49 mm_X6_readNumber 3 := ⟨ok_X6_readNumber, gw_at 522 (by decide +kernel) rfl, gw_at 524 (by decide +kernel) rfl, gw_at 2 (by decide +kernel) rfl, (show _ = _ by decide +kernel)⟩
theorem lk_X6_88 : lkSN RX6 88 mm_X9_isOutside 3 := ⟨ok_X9_isOutside, ⟨"RemoteCells", nest_at rfl 526 (by decide +kernel)⟩, gw_at 421 (by decide +kernel) rfl, (show _ = _ by decide +kernel)⟩
theorem lk_X6_66 : lkV RX6 66 mm_X6_isToken 1 := ⟨ok_X6_isToken, gw_at 465 (by decide +kernel) rfl, gw_at 467 (by decide +kernel) rfl, gw_at 1 (by decide +kernel) rfl, (show _ = _ by decide +kernel)⟩
theorem lk_X7_39 : lkSN RX7 39 mm_X9_lineOf 1 := ⟨ok_X9_lineOf, ⟨"RemoteCells", nest_at rfl 586 (by decide +kernel)⟩, gw_at 587 (by decide +kernel) rfl, (show _ = _ by decide +kernel)⟩
theorem lk_X7_58 : lkV RX7 58 mm_X7_removeAt 1 := ⟨ok_X7_removeAt, gw_at 589 (by decide +kernel) rfl, gw_at 591 (by decide +kernel) rfl, gw_at 7 (by decide +kernel) rfl, (show _ = _ by decide +kernel)⟩
theorem lo_X7_3 : Cond.methodLink RX7 3 Lib.objectInit ∈ gw ∧ Cond.instanceMethod Lib.objectInit ∈ gw ∧ Cond.code Lib.objectInit ⟨#[0xb1]⟩ 1 none ∈ gw := ⟨gw_at 91 (by decide +kernel) rfl, gw_at 80 (by decide +kernel) rfl, gw_at 81 (by decide +kernel) rfl⟩
theorem lk_X7_17 : lkIN RX7 17 mm_X5_init 0 := ⟨ok_X5_init, ⟨"RemoteCells", nest_at rfl 95 (by decide +kernel)⟩, gw_at 96 (by decide +kernel) rfl, rfl, rfl, (show _ = _ by decide +kernel)⟩
theorem lk_X7_54 : lkV RX7 54 mm_X7_firstPlace 0 := ⟨ok_X7_firstPlace, gw_at 759 (by decide +kernel) rfl, gw_at 760 (by decide +kernel) rfl, gw_at 761 (by decide +kernel) rfl, (show _ = _ by decide +kernel)⟩
theorem lk_X7_50 : lkV RX7 50 mm_X5_beCopyOf 1 := ⟨ok_X5_beCopyOf, gw_at 763 (by decide +kernel) rfl, gw_at 764 (by decide +kernel) rfl, gw_at 765 (by decide +kernel) rfl, (show _ = _ by decide +kernel)⟩
theorem lk_X7_46 : lkV RX7 46 mm_X7_placeFor 1 := ⟨ok_X7_placeFor, gw_at 775 (by decide +kernel) rfl, gw_at 720 (by decide +kernel) rfl, gw_at 721 (by decide +kernel) rfl, (show _ = _ by decide +kernel)⟩
theorem lo_X8_1 : Cond.methodLink RX8 1 Lib.objectInit ∈ gw ∧ Cond.instanceMethod Lib.objectInit ∈ gw ∧ Cond.code Lib.objectInit ⟨#[0xb1]⟩ 1 none ∈ gw := ⟨gw_at 295 (by decide +kernel) rfl, gw_at 80 (by decide +kernel) rfl, gw_at 81 (by decide +kernel) rfl⟩
theorem lk_X9_170 : lkS RX9 170 mm_X9_isNoEnd 1 := ⟨ok_X9_isNoEnd, gw_at 645 (by decide +kernel) rfl, gw_at 646 (by decide +kernel) rfl, (show _ = _ by decide +kernel)⟩
theorem lk_X9_119 : lkS RX9 119 mm_X9_isNoCell 1 := ⟨ok_X9_isNoCell, gw_at 601 (by decide +kernel) rfl, gw_at 602 (by decide +kernel) rfl, (show _ = _ by decide +kernel)⟩
theorem lk_X9_122 : lkS RX9 122 mm_X9_isNoValue 1 := ⟨ok_X9_isNoValue, gw_at 608 (by decide +kernel) rfl, gw_at 609 (by decide +kernel) rfl, (show _ = _ by decide +kernel)⟩
theorem lk_X9_188 : lkV RX9 188 mm_X1_postWork 4 := ⟨ok_X1_postWork, gw_at 703 (by decide +kernel) rfl, gw_at 704 (by decide +kernel) rfl, gw_at 705 (by decide +kernel) rfl, (show _ = _ by decide +kernel)⟩
theorem lk_X9_125 : lkS RX9 125 mm_X9_isNoKey 1 := ⟨ok_X9_isNoKey, gw_at 615 (by decide +kernel) rfl, gw_at 616 (by decide +kernel) rfl, (show _ = _ by decide +kernel)⟩
theorem lk_X9_47 : lkS RX9 47 mm_X9_isOutside 3 := ⟨ok_X9_isOutside, gw_at 420 (by decide +kernel) rfl, gw_at 421 (by decide +kernel) rfl, (show _ = _ by decide +kernel)⟩
theorem lk_X9_99 : lkV RX9 99 mm_X1_setAim 2 := ⟨ok_X1_setAim, gw_at 566 (by decide +kernel) rfl, gw_at 555 (by decide +kernel) rfl, gw_at 556 (by decide +kernel) rfl, (show _ = _ by decide +kernel)⟩
theorem lk_X9_116 : lkS RX9 116 mm_X9_isNoHost 1 := ⟨ok_X9_isNoHost, gw_at 598 (by decide +kernel) rfl, gw_at 599 (by decide +kernel) rfl, (show _ = _ by decide +kernel)⟩
theorem lk_X9_151 : lkV RX9 151 mm_X9_readyEnds 0 := ⟨ok_X9_readyEnds, gw_at 637 (by decide +kernel) rfl, gw_at 639 (by decide +kernel) rfl, gw_at 8 (by decide +kernel) rfl, (show _ = _ by decide +kernel)⟩
theorem lk_X9_306 : lkV RX9 306 mm_X2_cellSum 0 := ⟨ok_X2_cellSum, gw_at 882 (by decide +kernel) rfl, gw_at 883 (by decide +kernel) rfl, gw_at 884 (by decide +kernel) rfl, (show _ = _ by decide +kernel)⟩
theorem lk_X9_148 : lkS RX9 148 mm_X9_isNoLine 1 := ⟨ok_X9_isNoLine, gw_at 634 (by decide +kernel) rfl, gw_at 635 (by decide +kernel) rfl, (show _ = _ by decide +kernel)⟩
theorem lk_X9_86 : lkV RX9 86 mm_X9_resetAll 0 := ⟨ok_X9_resetAll, gw_at 538 (by decide +kernel) rfl, gw_at 540 (by decide +kernel) rfl, gw_at 4 (by decide +kernel) rfl, (show _ = _ by decide +kernel)⟩
theorem lk_X9_89 : lkV RX9 89 mm_X2_setKey 4 := ⟨ok_X2_setKey, gw_at 562 (by decide +kernel) rfl, gw_at 563 (by decide +kernel) rfl, gw_at 564 (by decide +kernel) rfl, (show _ = _ by decide +kernel)⟩
theorem lk_X9_103 : lkV RX9 103 mm_X9_hasReadyEnd 1 := ⟨ok_X9_hasReadyEnd, gw_at 567 (by decide +kernel) rfl, gw_at 569 (by decide +kernel) rfl, gw_at 5 (by decide +kernel) rfl, (show _ = _ by decide +kernel)⟩
theorem lk_X9_107 : lkV RX9 107 mm_X9_joinLine 1 := ⟨ok_X9_joinLine, gw_at 577 (by decide +kernel) rfl, gw_at 579 (by decide +kernel) rfl, gw_at 6 (by decide +kernel) rfl, (show _ = _ by decide +kernel)⟩
theorem lk_X9_58 : lkV RX9 58 mm_X6_findFault 0 := ⟨ok_X6_findFault, gw_at 435 (by decide +kernel) rfl, gw_at 436 (by decide +kernel) rfl, gw_at 437 (by decide +kernel) rfl, (show _ = _ by decide +kernel)⟩
theorem lk_X9_154 : lkS RX9 154 mm_X9_firstEndOf 1 := ⟨ok_X9_firstEndOf, gw_at 571 (by decide +kernel) rfl, gw_at 572 (by decide +kernel) rfl, (show _ = _ by decide +kernel)⟩
theorem lk_X9_161 : lkS RX9 161 mm_X9_otherEnd 1 := ⟨ok_X9_otherEnd, gw_at 574 (by decide +kernel) rfl, gw_at 575 (by decide +kernel) rfl, (show _ = _ by decide +kernel)⟩
theorem lo_X9_1 : Cond.methodLink RX9 1 Lib.objectInit ∈ gw ∧ Cond.instanceMethod Lib.objectInit ∈ gw ∧ Cond.code Lib.objectInit ⟨#[0xb1]⟩ 1 none ∈ gw := ⟨gw_at 79 (by decide +kernel) rfl, gw_at 80 (by decide +kernel) rfl, gw_at 81 (by decide +kernel) rfl⟩
theorem lk_X9_23 : lkI RX9 23 mm_X7_init 0 := ⟨ok_X7_init, gw_at 88 (by decide +kernel) rfl, gw_at 89 (by decide +kernel) rfl, rfl, rfl, (show _ = _ by decide +kernel)⟩
theorem lk_X9_30 : lkIN RX9 30 mm_X6_init 0 := ⟨ok_X6_init, ⟨"RemoteCells", nest_at rfl 172 (by decide +kernel)⟩, gw_at 173 (by decide +kernel) rfl, rfl, rfl, (show _ = _ by decide +kernel)⟩
theorem lk_X9_43 : lkI RX9 43 mm_X2_init 0 := ⟨ok_X2_init, gw_at 204 (by decide +kernel) rfl, gw_at 205 (by decide +kernel) rfl, rfl, rfl, (show _ = _ by decide +kernel)⟩
theorem lk_X9_44 : lkI RX9 44 mm_X1_init 3 := ⟨ok_X1_init, gw_at 267 (by decide +kernel) rfl, gw_at 268 (by decide +kernel) rfl, rfl, rfl, (show _ = _ by decide +kernel)⟩
theorem lk_X9_164 : lkV RX9 164 mm_X1_restart 1 := ⟨ok_X1_restart, gw_at 581 (by decide +kernel) rfl, gw_at 551 (by decide +kernel) rfl, gw_at 552 (by decide +kernel) rfl, (show _ = _ by decide +kernel)⟩
theorem lk_X9_167 : lkV RX9 167 mm_X7_clearLine 1 := ⟨ok_X7_clearLine, gw_at 582 (by decide +kernel) rfl, gw_at 583 (by decide +kernel) rfl, gw_at 584 (by decide +kernel) rfl, (show _ = _ by decide +kernel)⟩
theorem lk_X9_128 : lkV RX9 128 mm_X2_keyCount 0 := ⟨ok_X2_keyCount, gw_at 618 (by decide +kernel) rfl, gw_at 619 (by decide +kernel) rfl, gw_at 620 (by decide +kernel) rfl, (show _ = _ by decide +kernel)⟩
theorem lk_X9_285 : lkV RX9 285 mm_X7_firstPlace 0 := ⟨ok_X7_firstPlace, gw_at 877 (by decide +kernel) rfl, gw_at 760 (by decide +kernel) rfl, gw_at 761 (by decide +kernel) rfl, (show _ = _ by decide +kernel)⟩
theorem lk_X9_192 : lkV RX9 192 mm_X1_postReceive 1 := ⟨ok_X1_postReceive, gw_at 747 (by decide +kernel) rfl, gw_at 748 (by decide +kernel) rfl, gw_at 749 (by decide +kernel) rfl, (show _ = _ by decide +kernel)⟩
theorem lk_X9_111 : lkV RX9 111 mm_X2_reset 0 := ⟨ok_X2_reset, gw_at 542 (by decide +kernel) rfl, gw_at 543 (by decide +kernel) rfl, gw_at 544 (by decide +kernel) rfl, (show _ = _ by decide +kernel)⟩
theorem lk_X9_114 : lkV RX9 114 mm_X1_reset 0 := ⟨ok_X1_reset, gw_at 546 (by decide +kernel) rfl, gw_at 547 (by decide +kernel) rfl, gw_at 548 (by decide +kernel) rfl, (show _ = _ by decide +kernel)⟩
theorem lk_X9_115 : lkV RX9 115 mm_X7_reset 0 := ⟨ok_X7_reset, gw_at 558 (by decide +kernel) rfl, gw_at 559 (by decide +kernel) rfl, gw_at 560 (by decide +kernel) rfl, (show _ = _ by decide +kernel)⟩
theorem lk_X9_195 : lkV RX9 195 mm_X7_pullFirst 0 := ⟨ok_X7_pullFirst, gw_at 755 (by decide +kernel) rfl, gw_at 756 (by decide +kernel) rfl, gw_at 757 (by decide +kernel) rfl, (show _ = _ by decide +kernel)⟩
theorem lk_X9_210 : lkV RX9 210 mm_X7_passTimeTo 1 := ⟨ok_X7_passTimeTo, gw_at 767 (by decide +kernel) rfl, gw_at 768 (by decide +kernel) rfl, gw_at 769 (by decide +kernel) rfl, (show _ = _ by decide +kernel)⟩
theorem lk_X9_213 : lkV RX9 213 mm_X7_repeat 1 := ⟨ok_X7_repeat, gw_at 771 (by decide +kernel) rfl, gw_at 772 (by decide +kernel) rfl, gw_at 773 (by decide +kernel) rfl, (show _ = _ by decide +kernel)⟩
theorem lk_X9_217 : lkV RX9 217 mm_X1_meet 1 := ⟨ok_X1_meet, gw_at 776 (by decide +kernel) rfl, gw_at 777 (by decide +kernel) rfl, gw_at 778 (by decide +kernel) rfl, (show _ = _ by decide +kernel)⟩
theorem lk_X9_226 : lkV RX9 226 mm_X2_pullNotice 0 := ⟨ok_X2_pullNotice, gw_at 857 (by decide +kernel) rfl, gw_at 858 (by decide +kernel) rfl, gw_at 859 (by decide +kernel) rfl, (show _ = _ by decide +kernel)⟩
theorem lk_X9_179 : lkV RX9 179 mm_X1_breakUp 0 := ⟨ok_X1_breakUp, gw_at 648 (by decide +kernel) rfl, gw_at 649 (by decide +kernel) rfl, gw_at 650 (by decide +kernel) rfl, (show _ = _ by decide +kernel)⟩
theorem lk_X9_65 : lkV RX9 65 mm_X6_rewind 0 := ⟨ok_X6_rewind, gw_at 532 (by decide +kernel) rfl, gw_at 440 (by decide +kernel) rfl, gw_at 441 (by decide +kernel) rfl, (show _ = _ by decide +kernel)⟩
theorem lk_X9_68 : lkV RX9 68 mm_X6_readClause 0 := ⟨ok_X6_readClause, gw_at 533 (by decide +kernel) rfl, gw_at 444 (by decide +kernel) rfl, gw_at 445 (by decide +kernel) rfl, (show _ = _ by decide +kernel)⟩
theorem lk_X9_79 : lkV RX9 79 mm_X9_doClause 2 := ⟨ok_X9_doClause, gw_at 534 (by decide +kernel) rfl, gw_at 536 (by decide +kernel) rfl, gw_at 3 (by decide +kernel) rfl, (show _ = _ by decide +kernel)⟩
theorem lk_X9_83 : lkV RX9 83 mm_X6_nextToken 0 := ⟨ok_X6_nextToken, gw_at 593 (by decide +kernel) rfl, gw_at 448 (by decide +kernel) rfl, gw_at 449 (by decide +kernel) rfl, (show _ = _ by decide +kernel)⟩
theorem lk_X9_220 : lkV RX9 220 mm_X1_tryAgain 0 := ⟨ok_X1_tryAgain, gw_at 852 (by decide +kernel) rfl, gw_at 793 (by decide +kernel) rfl, gw_at 794 (by decide +kernel) rfl, (show _ = _ by decide +kernel)⟩
theorem lk_X9_54 : lkV RX9 54 mm_X6_append 1 := ⟨ok_X6_append, gw_at 423 (by decide +kernel) rfl, gw_at 424 (by decide +kernel) rfl, gw_at 425 (by decide +kernel) rfl, (show _ = _ by decide +kernel)⟩
theorem nl_L_7 : ∃ q, vwCl[9]? = some q ∧ Cond.classLink RL 7 q.1 ∈ gw := ⟨_, rfl, gw_at 74 (by decide +kernel) rfl⟩
theorem nl_L_10 : ∃ q, vwCl[10]? = some q ∧ Cond.classLink RL 10 q.1 ∈ gw := ⟨_, rfl, gw_at 886 (by decide +kernel) rfl⟩
theorem nl_X1_172 : ∃ q, vwCl[4]? = some q ∧ Cond.classLink RX1 172 q.1 ∈ gw := ⟨_, rfl, gw_at 656 (by decide +kernel) rfl⟩
theorem al_X1_9 : ∀ q, vwCl[8]? = some q → Cond.classLink RX1 9 q.1 ∈ gw ∧ q.1 ∈ aoL := fun q hq => by cases hq; exact ⟨gw_at 271 (by decide +kernel) rfl, by decide⟩
theorem nl_X1_21 : ∃ q, vwCl[0]? = some q ∧ Cond.classLink RX1 21 q.1 ∈ gw := ⟨_, rfl, gw_at 273 (by decide +kernel) rfl⟩
theorem al_X2_15 : ∀ q, vwCl[3]? = some q → Cond.classLink RX2 15 q.1 ∈ gw ∧ q.1 ∈ aoL := fun q hq => by cases hq; exact ⟨gw_at 208 (by decide +kernel) rfl, by decide⟩
theorem al_X7_9 : ∀ q, vwCl[5]? = some q → Cond.classLink RX7 9 q.1 ∈ gw ∧ q.1 ∈ aoL := fun q hq => by cases hq; exact ⟨gw_at 92 (by decide +kernel) rfl, by decide⟩
theorem al_X9_9 : ∀ q, vwCl[2]? = some q → Cond.classLink RX9 9 q.1 ∈ gw ∧ q.1 ∈ aoL := fun q hq => by cases hq; exact ⟨gw_at 82 (by decide +kernel) rfl, by decide⟩
theorem al_X9_15 : ∀ q, vwCl[1]? = some q → Cond.classLink RX9 15 q.1 ∈ gw ∧ q.1 ∈ aoL := fun q hq => by cases hq; exact ⟨gw_at 84 (by decide +kernel) rfl, by decide⟩
theorem nl_X9_21 : ∃ q, vwCl[7]? = some q ∧ Cond.classLink RX9 21 q.1 ∈ gw := ⟨_, rfl, gw_at 86 (by decide +kernel) rfl⟩
theorem nl_X9_28 : ∃ q, vwCl[6]? = some q ∧ Cond.classLink RX9 28 q.1 ∈ gw := ⟨_, rfl, gw_at 170 (by decide +kernel) rfl⟩
theorem cl_X10_101 : Cond.constantLong RX10 101 (Int64.ofInt 3) ∈ gw := gw_at 1116 (by decide +kernel) rfl
theorem cl_X10_99 : Cond.constantLong RX10 99 (Int64.ofInt 11) ∈ gw := gw_at 1103 (by decide +kernel) rfl
theorem cl_X10_226 : Cond.constantLong RX10 226 (Int64.ofInt 9) ∈ gw := gw_at 1162 (by decide +kernel) rfl
theorem cl_X10_209 : Cond.constantLong RX10 209 (Int64.ofInt 2) ∈ gw := gw_at 1130 (by decide +kernel) rfl
theorem cl_X10_135 : Cond.constantLong RX10 135 (Int64.ofInt 48) ∈ gw := gw_at 1043 (by decide +kernel) rfl
theorem cl_X10_137 : Cond.constantLong RX10 137 (Int64.ofInt 57) ∈ gw := gw_at 1044 (by decide +kernel) rfl
theorem cl_X10_103 : Cond.constantLong RX10 103 (Int64.ofInt 9999) ∈ gw := gw_at 1111 (by decide +kernel) rfl
theorem cl_X10_131 : Cond.constantLong RX10 131 (Int64.ofInt 97) ∈ gw := gw_at 1038 (by decide +kernel) rfl
theorem cl_X10_133 : Cond.constantLong RX10 133 (Int64.ofInt 122) ∈ gw := gw_at 1039 (by decide +kernel) rfl
theorem cl_X10_203 : Cond.constantLong RX10 203 (Int64.ofInt 7) ∈ gw := gw_at 1117 (by decide +kernel) rfl
theorem cl_X10_288 : Cond.constantLong RX10 288 (Int64.ofInt 4) ∈ gw := gw_at 1276 (by decide +kernel) rfl
theorem cl_X10_286 : Cond.constantLong RX10 286 (Int64.ofInt 5) ∈ gw := gw_at 1267 (by decide +kernel) rfl
theorem cl_X10_126 : Cond.constantLong RX10 126 (Int64.ofInt 255) ∈ gw := gw_at 1015 (by decide +kernel) rfl
theorem na_int : na .int 20 0 := ⟨by decide, by decide, gw_at 169 (by decide +kernel) rfl, fun _ => rfl, by decide, by decide, fun _ _ h => h⟩
theorem na_boolean : na .boolean 21 1 := ⟨by decide, by decide, gw_at 1010 (by decide +kernel) rfl, fun _ => rfl, by decide, by decide, fun _ _ h => h⟩
theorem na_char : na .char 22 2 := ⟨by decide, by decide, gw_at 202 (by decide +kernel) rfl, fun _ => rfl, by decide, by decide, fun _ _ h => h⟩
theorem aq_1 : aq 3 1 := ⟨_, rfl, fun _ => rfl⟩
theorem aq_2 : aq 4 2 := ⟨_, rfl, fun _ => rfl⟩
theorem aq_3 : aq 5 3 := ⟨_, rfl, fun _ => rfl⟩
theorem aq_5 : aq 6 5 := ⟨_, rfl, fun _ => rfl⟩
theorem aq_8 : aq 7 8 := ⟨_, rfl, fun _ => rfl⟩
