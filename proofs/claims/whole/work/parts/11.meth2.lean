theorem fl_X0_9 : fl RX0 9 0 0 := ⟨_, rfl, by decide, gw_at 279 (by decide +kernel) rfl⟩
theorem fl_X0_15 : fl RX0 15 0 1 := ⟨_, rfl, by decide, gw_at 280 (by decide +kernel) rfl⟩
theorem fl_X0_18 : fl RX0 18 0 2 := ⟨_, rfl, by decide, gw_at 281 (by decide +kernel) rfl⟩
theorem fl_X10_92 : fl RX10 92 10 38 := ⟨_, rfl, by decide, gw_at 930 (by decide +kernel) rfl⟩
theorem fl_X10_13 : fl RX10 13 10 1 := ⟨_, rfl, by decide, gw_at 893 (by decide +kernel) rfl⟩
theorem fl_X10_7 : fl RX10 7 10 0 := ⟨_, rfl, by decide, gw_at 892 (by decide +kernel) rfl⟩
theorem fl_X10_34 : fl RX10 34 10 8 := ⟨_, rfl, by decide, gw_at 900 (by decide +kernel) rfl⟩
theorem fl_X10_43 : fl RX10 43 10 11 := ⟨_, rfl, by decide, gw_at 903 (by decide +kernel) rfl⟩
theorem fl_X10_28 : fl RX10 28 10 6 := ⟨_, rfl, by decide, gw_at 898 (by decide +kernel) rfl⟩
theorem fl_X10_59 : fl RX10 59 10 16 := ⟨_, rfl, by decide, gw_at 908 (by decide +kernel) rfl⟩
theorem fl_X10_62 : fl RX10 62 10 17 := ⟨_, rfl, by decide, gw_at 909 (by decide +kernel) rfl⟩
theorem fl_X10_16 : fl RX10 16 10 2 := ⟨_, rfl, by decide, gw_at 894 (by decide +kernel) rfl⟩
theorem fl_X10_65 : fl RX10 65 10 18 := ⟨_, rfl, by decide, gw_at 910 (by decide +kernel) rfl⟩
theorem fl_X10_74 : fl RX10 74 10 24 := ⟨_, rfl, by decide, gw_at 916 (by decide +kernel) rfl⟩
theorem fl_X10_77 : fl RX10 77 10 25 := ⟨_, rfl, by decide, gw_at 917 (by decide +kernel) rfl⟩
theorem fl_X10_109 : fl RX10 109 10 19 := ⟨_, rfl, by decide, gw_at 911 (by decide +kernel) rfl⟩
theorem fl_X10_113 : fl RX10 113 10 21 := ⟨_, rfl, by decide, gw_at 913 (by decide +kernel) rfl⟩
theorem fl_X10_116 : fl RX10 116 10 27 := ⟨_, rfl, by decide, gw_at 919 (by decide +kernel) rfl⟩
theorem fl_X10_120 : fl RX10 120 10 28 := ⟨_, rfl, by decide, gw_at 920 (by decide +kernel) rfl⟩
theorem fl_X10_123 : fl RX10 123 10 29 := ⟨_, rfl, by decide, gw_at 921 (by decide +kernel) rfl⟩
theorem fl_X10_31 : fl RX10 31 10 7 := ⟨_, rfl, by decide, gw_at 899 (by decide +kernel) rfl⟩
theorem fl_X10_46 : fl RX10 46 10 12 := ⟨_, rfl, by decide, gw_at 904 (by decide +kernel) rfl⟩
theorem fl_X10_22 : fl RX10 22 10 4 := ⟨_, rfl, by decide, gw_at 896 (by decide +kernel) rfl⟩
theorem fl_X10_37 : fl RX10 37 10 9 := ⟨_, rfl, by decide, gw_at 901 (by decide +kernel) rfl⟩
theorem fl_X10_40 : fl RX10 40 10 10 := ⟨_, rfl, by decide, gw_at 902 (by decide +kernel) rfl⟩
theorem fl_X10_53 : fl RX10 53 10 14 := ⟨_, rfl, by decide, gw_at 906 (by decide +kernel) rfl⟩
theorem fl_X10_56 : fl RX10 56 10 15 := ⟨_, rfl, by decide, gw_at 907 (by decide +kernel) rfl⟩
theorem fl_X10_68 : fl RX10 68 10 20 := ⟨_, rfl, by decide, gw_at 912 (by decide +kernel) rfl⟩
theorem fl_X10_128 : fl RX10 128 10 31 := ⟨_, rfl, by decide, gw_at 923 (by decide +kernel) rfl⟩
theorem fl_X10_86 : fl RX10 86 10 36 := ⟨_, rfl, by decide, gw_at 928 (by decide +kernel) rfl⟩
theorem fl_X10_19 : fl RX10 19 10 3 := ⟨_, rfl, by decide, gw_at 895 (by decide +kernel) rfl⟩
theorem fl_X10_25 : fl RX10 25 10 5 := ⟨_, rfl, by decide, gw_at 897 (by decide +kernel) rfl⟩
theorem fl_X10_49 : fl RX10 49 10 13 := ⟨_, rfl, by decide, gw_at 905 (by decide +kernel) rfl⟩
theorem fl_X10_142 : fl RX10 142 10 32 := ⟨_, rfl, by decide, gw_at 924 (by decide +kernel) rfl⟩
theorem fl_X10_71 : fl RX10 71 10 23 := ⟨_, rfl, by decide, gw_at 915 (by decide +kernel) rfl⟩
theorem fl_X10_80 : fl RX10 80 10 26 := ⟨_, rfl, by decide, gw_at 918 (by decide +kernel) rfl⟩
theorem fl_X10_83 : fl RX10 83 10 30 := ⟨_, rfl, by decide, gw_at 922 (by decide +kernel) rfl⟩
theorem fl_X10_89 : fl RX10 89 10 37 := ⟨_, rfl, by decide, gw_at 929 (by decide +kernel) rfl⟩
theorem fl_X10_139 : fl RX10 139 10 33 := ⟨_, rfl, by decide, gw_at 925 (by decide +kernel) rfl⟩
theorem fl_X10_177 : fl RX10 177 10 35 := ⟨_, rfl, by decide, gw_at 927 (by decide +kernel) rfl⟩
theorem fl_X10_183 : fl RX10 183 10 34 := ⟨_, rfl, by decide, gw_at 926 (by decide +kernel) rfl⟩
theorem fl_X10_228 : fl RX10 228 10 22 := ⟨_, rfl, by decide, gw_at 914 (by decide +kernel) rfl⟩
theorem fl_X1_67 : fl RX1 67 1 2 := ⟨_, rfl, by decide, gw_at 338 (by decide +kernel) rfl⟩
theorem fl_X1_60 : fl RX1 60 1 0 := ⟨_, rfl, by decide, gw_at 336 (by decide +kernel) rfl⟩
theorem fl_X1_47 : fl RX1 47 1 12 := ⟨_, rfl, by decide, gw_at 356 (by decide +kernel) rfl⟩
theorem fl_X1_28 : fl RX1 28 1 6 := ⟨_, rfl, by decide, gw_at 344 (by decide +kernel) rfl⟩
theorem fl_X1_35 : fl RX1 35 1 8 := ⟨_, rfl, by decide, gw_at 348 (by decide +kernel) rfl⟩
theorem fl_X1_41 : fl RX1 41 1 10 := ⟨_, rfl, by decide, gw_at 352 (by decide +kernel) rfl⟩
theorem fl_X1_63 : fl RX1 63 1 1 := ⟨_, rfl, by decide, gw_at 337 (by decide +kernel) rfl⟩
theorem fl_X1_17 : fl RX1 17 1 4 := ⟨_, rfl, by decide, gw_at 341 (by decide +kernel) rfl⟩
theorem fl_X1_11 : fl RX1 11 1 3 := ⟨_, rfl, by decide, gw_at 339 (by decide +kernel) rfl⟩
theorem fl_X1_94 : fl RX1 94 8 1 := ⟨_, rfl, by decide, gw_at 302 (by decide +kernel) rfl⟩
theorem fl_X1_166 : fl RX1 166 2 0 := ⟨_, rfl, by decide, gw_at 242 (by decide +kernel) rfl⟩
theorem fl_X1_109 : fl RX1 109 8 6 := ⟨_, rfl, by decide, gw_at 320 (by decide +kernel) rfl⟩
theorem fl_X1_50 : fl RX1 50 1 13 := ⟨_, rfl, by decide, gw_at 358 (by decide +kernel) rfl⟩
theorem fl_X1_38 : fl RX1 38 1 9 := ⟨_, rfl, by decide, gw_at 350 (by decide +kernel) rfl⟩
theorem fl_X1_91 : fl RX1 91 8 0 := ⟨_, rfl, by decide, gw_at 298 (by decide +kernel) rfl⟩
theorem fl_X1_44 : fl RX1 44 1 11 := ⟨_, rfl, by decide, gw_at 354 (by decide +kernel) rfl⟩
theorem fl_X1_24 : fl RX1 24 1 5 := ⟨_, rfl, by decide, gw_at 342 (by decide +kernel) rfl⟩
theorem fl_X1_32 : fl RX1 32 1 7 := ⟨_, rfl, by decide, gw_at 346 (by decide +kernel) rfl⟩
theorem fl_X1_54 : fl RX1 54 1 14 := ⟨_, rfl, by decide, gw_at 360 (by decide +kernel) rfl⟩
theorem fl_X1_57 : fl RX1 57 1 15 := ⟨_, rfl, by decide, gw_at 362 (by decide +kernel) rfl⟩
theorem fl_X1_135 : fl RX1 135 5 2 := ⟨_, rfl, by decide, gw_at 106 (by decide +kernel) rfl⟩
theorem fl_X1_142 : fl RX1 142 5 3 := ⟨_, rfl, by decide, gw_at 109 (by decide +kernel) rfl⟩
theorem fl_X1_227 : fl RX1 227 5 4 := ⟨_, rfl, by decide, gw_at 112 (by decide +kernel) rfl⟩
theorem fl_X1_155 : fl RX1 155 5 5 := ⟨_, rfl, by decide, gw_at 115 (by decide +kernel) rfl⟩
theorem fl_X1_97 : fl RX1 97 8 2 := ⟨_, rfl, by decide, gw_at 306 (by decide +kernel) rfl⟩
theorem fl_X1_100 : fl RX1 100 8 3 := ⟨_, rfl, by decide, gw_at 310 (by decide +kernel) rfl⟩
theorem fl_X1_103 : fl RX1 103 8 4 := ⟨_, rfl, by decide, gw_at 314 (by decide +kernel) rfl⟩
theorem fl_X1_106 : fl RX1 106 8 5 := ⟨_, rfl, by decide, gw_at 318 (by decide +kernel) rfl⟩
theorem fl_X1_187 : fl RX1 187 2 1 := ⟨_, rfl, by decide, gw_at 245 (by decide +kernel) rfl⟩
theorem fl_X1_191 : fl RX1 191 5 6 := ⟨_, rfl, by decide, gw_at 117 (by decide +kernel) rfl⟩
theorem fl_X1_192 : fl RX1 192 3 1 := ⟨_, rfl, by decide, gw_at 222 (by decide +kernel) rfl⟩
theorem fl_X1_197 : fl RX1 197 5 7 := ⟨_, rfl, by decide, gw_at 119 (by decide +kernel) rfl⟩
theorem fl_X1_171 : fl RX1 171 5 8 := ⟨_, rfl, by decide, gw_at 121 (by decide +kernel) rfl⟩
theorem fl_X1_198 : fl RX1 198 5 9 := ⟨_, rfl, by decide, gw_at 123 (by decide +kernel) rfl⟩
theorem fl_X1_202 : fl RX1 202 2 5 := ⟨_, rfl, by decide, gw_at 251 (by decide +kernel) rfl⟩
theorem fl_X1_205 : fl RX1 205 3 0 := ⟨_, rfl, by decide, gw_at 218 (by decide +kernel) rfl⟩
theorem fl_X1_208 : fl RX1 208 3 2 := ⟨_, rfl, by decide, gw_at 226 (by decide +kernel) rfl⟩
theorem fl_X1_211 : fl RX1 211 3 3 := ⟨_, rfl, by decide, gw_at 230 (by decide +kernel) rfl⟩
theorem fl_X1_80 : fl RX1 80 0 2 := ⟨_, rfl, by decide, gw_at 282 (by decide +kernel) rfl⟩
theorem fl_X2_9 : fl RX2 9 2 0 := ⟨_, rfl, by decide, gw_at 240 (by decide +kernel) rfl⟩
theorem fl_X2_17 : fl RX2 17 2 1 := ⟨_, rfl, by decide, gw_at 243 (by decide +kernel) rfl⟩
theorem fl_X2_21 : fl RX2 21 2 2 := ⟨_, rfl, by decide, gw_at 246 (by decide +kernel) rfl⟩
theorem fl_X2_25 : fl RX2 25 2 3 := ⟨_, rfl, by decide, gw_at 247 (by decide +kernel) rfl⟩
theorem fl_X2_28 : fl RX2 28 2 4 := ⟨_, rfl, by decide, gw_at 248 (by decide +kernel) rfl⟩
theorem fl_X2_32 : fl RX2 32 2 5 := ⟨_, rfl, by decide, gw_at 250 (by decide +kernel) rfl⟩
theorem fl_X2_36 : fl RX2 36 3 0 := ⟨_, rfl, by decide, gw_at 216 (by decide +kernel) rfl⟩
theorem fl_X2_49 : fl RX2 49 4 5 := ⟨_, rfl, by decide, gw_at 673 (by decide +kernel) rfl⟩
theorem fl_X2_40 : fl RX2 40 3 1 := ⟨_, rfl, by decide, gw_at 220 (by decide +kernel) rfl⟩
theorem fl_X2_43 : fl RX2 43 3 2 := ⟨_, rfl, by decide, gw_at 224 (by decide +kernel) rfl⟩
theorem fl_X2_46 : fl RX2 46 3 3 := ⟨_, rfl, by decide, gw_at 228 (by decide +kernel) rfl⟩
theorem fl_X3_7 : fl RX3 7 3 0 := ⟨_, rfl, by decide, gw_at 215 (by decide +kernel) rfl⟩
theorem fl_X3_13 : fl RX3 13 3 1 := ⟨_, rfl, by decide, gw_at 219 (by decide +kernel) rfl⟩
theorem fl_X3_17 : fl RX3 17 3 2 := ⟨_, rfl, by decide, gw_at 223 (by decide +kernel) rfl⟩
theorem fl_X3_20 : fl RX3 20 3 3 := ⟨_, rfl, by decide, gw_at 227 (by decide +kernel) rfl⟩
theorem fl_X4_7 : fl RX4 7 4 5 := ⟨_, rfl, by decide, gw_at 672 (by decide +kernel) rfl⟩
theorem fl_X4_13 : fl RX4 13 4 0 := ⟨_, rfl, by decide, gw_at 662 (by decide +kernel) rfl⟩
theorem fl_X4_17 : fl RX4 17 4 1 := ⟨_, rfl, by decide, gw_at 664 (by decide +kernel) rfl⟩
theorem fl_X4_20 : fl RX4 20 4 2 := ⟨_, rfl, by decide, gw_at 666 (by decide +kernel) rfl⟩
theorem fl_X4_23 : fl RX4 23 4 3 := ⟨_, rfl, by decide, gw_at 668 (by decide +kernel) rfl⟩
theorem fl_X4_26 : fl RX4 26 4 4 := ⟨_, rfl, by decide, gw_at 670 (by decide +kernel) rfl⟩
theorem fl_X5_18 : fl RX5 18 5 2 := ⟨_, rfl, by decide, gw_at 105 (by decide +kernel) rfl⟩
theorem fl_X5_21 : fl RX5 21 5 3 := ⟨_, rfl, by decide, gw_at 108 (by decide +kernel) rfl⟩
theorem fl_X5_24 : fl RX5 24 5 4 := ⟨_, rfl, by decide, gw_at 111 (by decide +kernel) rfl⟩
theorem fl_X5_9 : fl RX5 9 5 0 := ⟨_, rfl, by decide, gw_at 99 (by decide +kernel) rfl⟩
theorem fl_X5_15 : fl RX5 15 5 1 := ⟨_, rfl, by decide, gw_at 102 (by decide +kernel) rfl⟩
theorem fl_X5_27 : fl RX5 27 5 5 := ⟨_, rfl, by decide, gw_at 114 (by decide +kernel) rfl⟩
theorem fl_X5_30 : fl RX5 30 5 6 := ⟨_, rfl, by decide, gw_at 116 (by decide +kernel) rfl⟩
theorem fl_X5_33 : fl RX5 33 5 7 := ⟨_, rfl, by decide, gw_at 118 (by decide +kernel) rfl⟩
theorem fl_X5_36 : fl RX5 36 5 8 := ⟨_, rfl, by decide, gw_at 120 (by decide +kernel) rfl⟩
theorem fl_X5_39 : fl RX5 39 5 9 := ⟨_, rfl, by decide, gw_at 122 (by decide +kernel) rfl⟩
theorem fl_X5_42 : fl RX5 42 8 0 := ⟨_, rfl, by decide, gw_at 297 (by decide +kernel) rfl⟩
theorem fl_X5_45 : fl RX5 45 8 1 := ⟨_, rfl, by decide, gw_at 301 (by decide +kernel) rfl⟩
theorem fl_X5_46 : fl RX5 46 8 2 := ⟨_, rfl, by decide, gw_at 305 (by decide +kernel) rfl⟩
theorem fl_X5_47 : fl RX5 47 8 3 := ⟨_, rfl, by decide, gw_at 309 (by decide +kernel) rfl⟩
theorem fl_X5_48 : fl RX5 48 8 4 := ⟨_, rfl, by decide, gw_at 313 (by decide +kernel) rfl⟩
theorem fl_X5_49 : fl RX5 49 8 5 := ⟨_, rfl, by decide, gw_at 317 (by decide +kernel) rfl⟩
theorem fl_X6_19 : fl RX6 19 6 2 := ⟨_, rfl, by decide, gw_at 179 (by decide +kernel) rfl⟩
theorem fl_X6_9 : fl RX6 9 6 0 := ⟨_, rfl, by decide, gw_at 176 (by decide +kernel) rfl⟩
theorem fl_X6_23 : fl RX6 23 6 3 := ⟨_, rfl, by decide, gw_at 181 (by decide +kernel) rfl⟩
theorem fl_X6_32 : fl RX6 32 6 6 := ⟨_, rfl, by decide, gw_at 185 (by decide +kernel) rfl⟩
theorem fl_X6_15 : fl RX6 15 6 1 := ⟨_, rfl, by decide, gw_at 177 (by decide +kernel) rfl⟩
theorem fl_X6_26 : fl RX6 26 6 4 := ⟨_, rfl, by decide, gw_at 182 (by decide +kernel) rfl⟩
theorem fl_X6_29 : fl RX6 29 6 5 := ⟨_, rfl, by decide, gw_at 183 (by decide +kernel) rfl⟩
theorem fl_X7_26 : fl RX7 26 7 3 := ⟨_, rfl, by decide, gw_at 150 (by decide +kernel) rfl⟩
theorem fl_X7_11 : fl RX7 11 7 0 := ⟨_, rfl, by decide, gw_at 145 (by decide +kernel) rfl⟩
theorem fl_X7_36 : fl RX7 36 5 0 := ⟨_, rfl, by decide, gw_at 100 (by decide +kernel) rfl⟩
theorem fl_X7_43 : fl RX7 43 5 1 := ⟨_, rfl, by decide, gw_at 103 (by decide +kernel) rfl⟩
theorem fl_X7_18 : fl RX7 18 7 1 := ⟨_, rfl, by decide, gw_at 147 (by decide +kernel) rfl⟩
theorem fl_X7_22 : fl RX7 22 7 2 := ⟨_, rfl, by decide, gw_at 148 (by decide +kernel) rfl⟩
theorem fl_X7_30 : fl RX7 30 7 4 := ⟨_, rfl, by decide, gw_at 152 (by decide +kernel) rfl⟩
theorem fl_X7_33 : fl RX7 33 7 5 := ⟨_, rfl, by decide, gw_at 154 (by decide +kernel) rfl⟩
theorem fl_X8_7 : fl RX8 7 8 0 := ⟨_, rfl, by decide, gw_at 296 (by decide +kernel) rfl⟩
theorem fl_X8_13 : fl RX8 13 8 1 := ⟨_, rfl, by decide, gw_at 300 (by decide +kernel) rfl⟩
theorem fl_X8_16 : fl RX8 16 8 2 := ⟨_, rfl, by decide, gw_at 304 (by decide +kernel) rfl⟩
theorem fl_X8_19 : fl RX8 19 8 3 := ⟨_, rfl, by decide, gw_at 308 (by decide +kernel) rfl⟩
theorem fl_X8_22 : fl RX8 22 8 4 := ⟨_, rfl, by decide, gw_at 312 (by decide +kernel) rfl⟩
theorem fl_X8_25 : fl RX8 25 8 5 := ⟨_, rfl, by decide, gw_at 316 (by decide +kernel) rfl⟩
theorem fl_X8_28 : fl RX8 28 8 6 := ⟨_, rfl, by decide, gw_at 319 (by decide +kernel) rfl⟩
theorem fl_X9_17 : fl RX9 17 9 1 := ⟨_, rfl, by decide, gw_at 398 (by decide +kernel) rfl⟩
theorem fl_X9_182 : fl RX9 182 1 14 := ⟨_, rfl, by decide, gw_at 361 (by decide +kernel) rfl⟩
theorem fl_X9_185 : fl RX9 185 1 15 := ⟨_, rfl, by decide, gw_at 363 (by decide +kernel) rfl⟩
theorem fl_X9_11 : fl RX9 11 9 0 := ⟨_, rfl, by decide, gw_at 397 (by decide +kernel) rfl⟩
theorem fl_X9_93 : fl RX9 93 2 0 := ⟨_, rfl, by decide, gw_at 241 (by decide +kernel) rfl⟩
theorem fl_X9_24 : fl RX9 24 9 2 := ⟨_, rfl, by decide, gw_at 399 (by decide +kernel) rfl⟩
theorem fl_X9_297 : fl RX9 297 7 3 := ⟨_, rfl, by decide, gw_at 151 (by decide +kernel) rfl⟩
theorem fl_X9_300 : fl RX9 300 7 5 := ⟨_, rfl, by decide, gw_at 155 (by decide +kernel) rfl⟩
theorem fl_X9_303 : fl RX9 303 2 4 := ⟨_, rfl, by decide, gw_at 249 (by decide +kernel) rfl⟩
theorem fl_X9_309 : fl RX9 309 2 5 := ⟨_, rfl, by decide, gw_at 252 (by decide +kernel) rfl⟩
theorem fl_X9_31 : fl RX9 31 9 3 := ⟨_, rfl, by decide, gw_at 400 (by decide +kernel) rfl⟩
theorem fl_X9_51 : fl RX9 51 6 2 := ⟨_, rfl, by decide, gw_at 180 (by decide +kernel) rfl⟩
theorem fl_X9_199 : fl RX9 199 7 4 := ⟨_, rfl, by decide, gw_at 153 (by decide +kernel) rfl⟩
theorem fl_X9_96 : fl RX9 96 7 2 := ⟨_, rfl, by decide, gw_at 149 (by decide +kernel) rfl⟩
theorem fl_X9_131 : fl RX9 131 2 1 := ⟨_, rfl, by decide, gw_at 244 (by decide +kernel) rfl⟩
theorem fl_X9_135 : fl RX9 135 3 0 := ⟨_, rfl, by decide, gw_at 217 (by decide +kernel) rfl⟩
theorem fl_X9_141 : fl RX9 141 3 1 := ⟨_, rfl, by decide, gw_at 221 (by decide +kernel) rfl⟩
theorem fl_X9_144 : fl RX9 144 3 2 := ⟨_, rfl, by decide, gw_at 225 (by decide +kernel) rfl⟩
theorem fl_X9_145 : fl RX9 145 3 3 := ⟨_, rfl, by decide, gw_at 229 (by decide +kernel) rfl⟩
theorem fl_X9_158 : fl RX9 158 1 6 := ⟨_, rfl, by decide, gw_at 345 (by decide +kernel) rfl⟩
theorem fl_X9_247 : fl RX9 247 1 7 := ⟨_, rfl, by decide, gw_at 347 (by decide +kernel) rfl⟩
theorem fl_X9_173 : fl RX9 173 1 8 := ⟨_, rfl, by decide, gw_at 349 (by decide +kernel) rfl⟩
theorem fl_X9_250 : fl RX9 250 1 9 := ⟨_, rfl, by decide, gw_at 351 (by decide +kernel) rfl⟩
theorem fl_X9_176 : fl RX9 176 1 10 := ⟨_, rfl, by decide, gw_at 353 (by decide +kernel) rfl⟩
theorem fl_X9_223 : fl RX9 223 1 11 := ⟨_, rfl, by decide, gw_at 355 (by decide +kernel) rfl⟩
theorem fl_X9_253 : fl RX9 253 1 12 := ⟨_, rfl, by decide, gw_at 357 (by decide +kernel) rfl⟩
theorem fl_X9_256 : fl RX9 256 1 13 := ⟨_, rfl, by decide, gw_at 359 (by decide +kernel) rfl⟩
theorem fl_X9_259 : fl RX9 259 1 5 := ⟨_, rfl, by decide, gw_at 343 (by decide +kernel) rfl⟩
theorem fl_X9_263 : fl RX9 263 0 2 := ⟨_, rfl, by decide, gw_at 283 (by decide +kernel) rfl⟩
theorem fl_X9_35 : fl RX9 35 9 4 := ⟨_, rfl, by decide, gw_at 401 (by decide +kernel) rfl⟩
theorem fl_X9_39 : fl RX9 39 9 5 := ⟨_, rfl, by decide, gw_at 402 (by decide +kernel) rfl⟩
theorem fl_X9_268 : fl RX9 268 1 3 := ⟨_, rfl, by decide, gw_at 340 (by decide +kernel) rfl⟩
theorem fl_X9_272 : fl RX9 272 8 0 := ⟨_, rfl, by decide, gw_at 299 (by decide +kernel) rfl⟩
theorem fl_X9_275 : fl RX9 275 8 1 := ⟨_, rfl, by decide, gw_at 303 (by decide +kernel) rfl⟩
theorem fl_X9_276 : fl RX9 276 8 2 := ⟨_, rfl, by decide, gw_at 307 (by decide +kernel) rfl⟩
theorem fl_X9_279 : fl RX9 279 8 3 := ⟨_, rfl, by decide, gw_at 311 (by decide +kernel) rfl⟩
theorem fl_X9_282 : fl RX9 282 8 4 := ⟨_, rfl, by decide, gw_at 315 (by decide +kernel) rfl⟩
theorem fl_X9_288 : fl RX9 288 7 0 := ⟨_, rfl, by decide, gw_at 146 (by decide +kernel) rfl⟩
theorem fl_X9_202 : fl RX9 202 5 0 := ⟨_, rfl, by decide, gw_at 101 (by decide +kernel) rfl⟩
theorem fl_X9_292 : fl RX9 292 5 2 := ⟨_, rfl, by decide, gw_at 107 (by decide +kernel) rfl⟩
theorem fl_X9_295 : fl RX9 295 5 3 := ⟨_, rfl, by decide, gw_at 110 (by decide +kernel) rfl⟩
theorem fl_X9_207 : fl RX9 207 5 1 := ⟨_, rfl, by decide, gw_at 104 (by decide +kernel) rfl⟩
theorem fl_X9_296 : fl RX9 296 5 4 := ⟨_, rfl, by decide, gw_at 113 (by decide +kernel) rfl⟩
theorem fl_X9_230 : fl RX9 230 4 3 := ⟨_, rfl, by decide, gw_at 669 (by decide +kernel) rfl⟩
theorem fl_X9_235 : fl RX9 235 4 0 := ⟨_, rfl, by decide, gw_at 663 (by decide +kernel) rfl⟩
theorem fl_X9_238 : fl RX9 238 4 1 := ⟨_, rfl, by decide, gw_at 665 (by decide +kernel) rfl⟩
theorem fl_X9_241 : fl RX9 241 4 2 := ⟨_, rfl, by decide, gw_at 667 (by decide +kernel) rfl⟩
theorem fl_X9_244 : fl RX9 244 4 4 := ⟨_, rfl, by decide, gw_at 671 (by decide +kernel) rfl⟩
theorem fl_X9_62 : fl RX9 62 6 6 := ⟨_, rfl, by decide, gw_at 186 (by decide +kernel) rfl⟩
theorem fl_X9_72 : fl RX9 72 6 5 := ⟨_, rfl, by decide, gw_at 184 (by decide +kernel) rfl⟩
theorem fl_X9_75 : fl RX9 75 6 1 := ⟨_, rfl, by decide, gw_at 178 (by decide +kernel) rfl⟩
theorem lk_J0_492 : lkV RJ0 492 mm_J0_isLatin1_aae02 0 := ⟨ok_J0_isLatin1_aae02, gw_at 483 (by decide +kernel) rfl, gw_at 484 (by decide +kernel) rfl, gw_at 485 (by decide +kernel) rfl, (show _ = _ by decide +kernel)⟩
theorem lk_J0_495 : lkS RJ0 495 mm_J1_charAt_3b067 2 := ⟨ok_J1_charAt_3b067, gw_at 487 (by decide +kernel) rfl, gw_at 488 (by decide +kernel) rfl, (show _ = _ by decide +kernel)⟩
theorem lk_J0_498 : lkS RJ0 498 mm_J2_charAt_3b067 2 := ⟨ok_J2_charAt_3b067, gw_at 498 (by decide +kernel) rfl, gw_at 499 (by decide +kernel) rfl, (show _ = _ by decide +kernel)⟩
theorem lk_J0_1059 : lkS RJ0 1059 mm_J3_checkIndex_8e157 3 := ⟨ok_J3_checkIndex_8e157, gw_at 495 (by decide +kernel) rfl, gw_at 496 (by decide +kernel) rfl, (show _ = _ by decide +kernel)⟩
theorem lk_J0_335 : lkV RJ0 335 mm_J0_coder_7d493 0 := ⟨ok_J0_coder_7d493, gw_at 473 (by decide +kernel) rfl, gw_at 474 (by decide +kernel) rfl, gw_at 475 (by decide +kernel) rfl, (show _ = _ by decide +kernel)⟩
theorem lk_J1_9 : lkS RJ1 9 mm_J0_checkIndex_df160 2 := ⟨ok_J0_checkIndex_df160, gw_at 490 (by decide +kernel) rfl, gw_at 491 (by decide +kernel) rfl, (show _ = _ by decide +kernel)⟩
theorem lk_J2_67 : lkS RJ2 67 mm_J2_checkIndex_2214a 2 := ⟨ok_J2_checkIndex_2214a, gw_at 501 (by decide +kernel) rfl, gw_at 502 (by decide +kernel) rfl, (show _ = _ by decide +kernel)⟩
theorem lk_J2_71 : lkS RJ2 71 mm_J2_getChar_3b067 2 := ⟨ok_J2_getChar_3b067, gw_at 508 (by decide +kernel) rfl, gw_at 509 (by decide +kernel) rfl, (show _ = _ by decide +kernel)⟩
theorem lk_J2_48 : lkS RJ2 48 mm_J2_length_9d52b 1 := ⟨ok_J2_length_9d52b, gw_at 504 (by decide +kernel) rfl, gw_at 505 (by decide +kernel) rfl, (show _ = _ by decide +kernel)⟩
theorem lk_J2_414 : lkS RJ2 414 mm_J0_checkIndex_df160 2 := ⟨ok_J0_checkIndex_df160, gw_at 507 (by decide +kernel) rfl, gw_at 491 (by decide +kernel) rfl, (show _ = _ by decide +kernel)⟩
theorem lk_L_9 : lkI RL 9 mm_X9_init 0 := ⟨ok_X9_init, gw_at 76 (by decide +kernel) rfl, gw_at 77 (by decide +kernel) rfl, rfl, rfl, (show _ = _ by decide +kernel)⟩
theorem lk_L_12 : lkI RL 12 mm_X10_init 0 := ⟨ok_X10_init, gw_at 888 (by decide +kernel) rfl, gw_at 889 (by decide +kernel) rfl, rfl, rfl, (show _ = _ by decide +kernel)⟩
theorem lk_L_13 : lkV RL 13 mm_X9_write 1 := ⟨ok_X9_write, gw_at 416 (by decide +kernel) rfl, gw_at 417 (by decide +kernel) rfl, gw_at 418 (by decide +kernel) rfl, (show _ = _ by decide +kernel)⟩
theorem lk_L_17 : lkV RL 17 mm_X10_write 1 := ⟨ok_X10_write, gw_at 1011 (by decide +kernel) rfl, gw_at 1012 (by decide +kernel) rfl, gw_at 1013 (by decide +kernel) rfl, (show _ = _ by decide +kernel)⟩
theorem lk_L_18 : lkV RL 18 mm_X9_erase 0 := ⟨ok_X9_erase, gw_at 427 (by decide +kernel) rfl, gw_at 428 (by decide +kernel) rfl, gw_at 429 (by decide +kernel) rfl, (show _ = _ by decide +kernel)⟩
theorem lk_L_22 : lkV RL 22 mm_X10_erase 0 := ⟨ok_X10_erase, gw_at 1019 (by decide +kernel) rfl, gw_at 1020 (by decide +kernel) rfl, gw_at 1021 (by decide +kernel) rfl, (show _ = _ by decide +kernel)⟩
theorem lk_L_23 : lkV RL 23 mm_X9_fault 0 := ⟨ok_X9_fault, gw_at 431 (by decide +kernel) rfl, gw_at 432 (by decide +kernel) rfl, gw_at 433 (by decide +kernel) rfl, (show _ = _ by decide +kernel)⟩
theorem lk_L_26 : lkV RL 26 mm_X10_fault 0 := ⟨ok_X10_fault, gw_at 1023 (by decide +kernel) rfl, gw_at 1024 (by decide +kernel) rfl, gw_at 1025 (by decide +kernel) rfl, (show _ = _ by decide +kernel)⟩
theorem lk_L_27 : lkV RL 27 mm_X9_tell 0 := ⟨ok_X9_tell, gw_at 528 (by decide +kernel) rfl, gw_at 529 (by decide +kernel) rfl, gw_at 530 (by decide +kernel) rfl, (show _ = _ by decide +kernel)⟩
theorem lk_L_30 : lkV RL 30 mm_X10_tell 0 := ⟨ok_X10_tell, gw_at 1089 (by decide +kernel) rfl, gw_at 1090 (by decide +kernel) rfl, gw_at 1091 (by decide +kernel) rfl, (show _ = _ by decide +kernel)⟩
theorem lk_L_31 : lkV RL 31 mm_X9_cell 2 := ⟨ok_X9_cell, gw_at 594 (by decide +kernel) rfl, gw_at 595 (by decide +kernel) rfl, gw_at 596 (by decide +kernel) rfl, (show _ = _ by decide +kernel)⟩
theorem lk_L_35 : lkV RL 35 mm_X10_cell 2 := ⟨ok_X10_cell, gw_at 1093 (by decide +kernel) rfl, gw_at 1094 (by decide +kernel) rfl, gw_at 1095 (by decide +kernel) rfl, (show _ = _ by decide +kernel)⟩
theorem lk_L_36 : lkV RL 36 mm_X9_put 3 := ⟨ok_X9_put, gw_at 604 (by decide +kernel) rfl, gw_at 605 (by decide +kernel) rfl, gw_at 606 (by decide +kernel) rfl, (show _ = _ by decide +kernel)⟩
theorem lk_L_40 : lkV RL 40 mm_X10_put 3 := ⟨ok_X10_put, gw_at 1104 (by decide +kernel) rfl, gw_at 1105 (by decide +kernel) rfl, gw_at 1106 (by decide +kernel) rfl, (show _ = _ by decide +kernel)⟩
theorem lk_L_41 : lkV RL 41 mm_X9_key 5 := ⟨ok_X9_key, gw_at 611 (by decide +kernel) rfl, gw_at 612 (by decide +kernel) rfl, gw_at 613 (by decide +kernel) rfl, (show _ = _ by decide +kernel)⟩
