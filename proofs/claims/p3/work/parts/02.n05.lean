theorem dX6_init_0 : decode cX6_init 0 = .ok (.aload_n 0, 1) := by decide +kernel
theorem dX6_init_1 : decode cX6_init 1 = .ok (.invokespecial 1, 3) := by decide +kernel
theorem dX6_init_4 : decode cX6_init 4 = .ok (.aload_n 0, 1) := by decide +kernel
theorem dX6_init_5 : decode cX6_init 5 = .ok (.bipush 6, 2) := by decide +kernel
theorem dX6_init_7 : decode cX6_init 7 = .ok (.newarray .int, 2) := by decide +kernel
theorem dX6_init_9 : decode cX6_init 9 = .ok (.putfield 7, 3) := by decide +kernel
theorem dX6_init_12 : decode cX6_init 12 = .ok (.aload_n 0, 1) := by decide +kernel
theorem dX6_init_13 : decode cX6_init 13 = .ok (.bipush 6, 2) := by decide +kernel
theorem dX6_init_15 : decode cX6_init 15 = .ok (.newarray .int, 2) := by decide +kernel
theorem dX6_init_17 : decode cX6_init 17 = .ok (.putfield 13, 3) := by decide +kernel
theorem dX6_init_20 : decode cX6_init 20 = .ok (.aload_n 0, 1) := by decide +kernel
theorem dX6_init_21 : decode cX6_init 21 = .ok (.bipush 6, 2) := by decide +kernel
theorem dX6_init_23 : decode cX6_init 23 = .ok (.newarray .int, 2) := by decide +kernel
theorem dX6_init_25 : decode cX6_init 25 = .ok (.putfield 16, 3) := by decide +kernel
theorem dX6_init_28 : decode cX6_init 28 = .ok (.aload_n 0, 1) := by decide +kernel
theorem dX6_init_29 : decode cX6_init 29 = .ok (.bipush 12, 2) := by decide +kernel
theorem dX6_init_31 : decode cX6_init 31 = .ok (.newarray .int, 2) := by decide +kernel
theorem dX6_init_33 : decode cX6_init 33 = .ok (.putfield 19, 3) := by decide +kernel
theorem dX6_init_36 : decode cX6_init 36 = .ok (.aload_n 0, 1) := by decide +kernel
theorem dX6_init_37 : decode cX6_init 37 = .ok (.bipush 12, 2) := by decide +kernel
theorem dX6_init_39 : decode cX6_init 39 = .ok (.newarray .int, 2) := by decide +kernel
theorem dX6_init_41 : decode cX6_init 41 = .ok (.putfield 22, 3) := by decide +kernel
theorem dX6_init_44 : decode cX6_init 44 = .ok (.aload_n 0, 1) := by decide +kernel
theorem dX6_init_45 : decode cX6_init 45 = .ok (.bipush 12, 2) := by decide +kernel
theorem dX6_init_47 : decode cX6_init 47 = .ok (.newarray .int, 2) := by decide +kernel
theorem dX6_init_49 : decode cX6_init 49 = .ok (.putfield 25, 3) := by decide +kernel
theorem dX6_init_52 : decode cX6_init 52 = .ok (.aload_n 0, 1) := by decide +kernel
theorem dX6_init_53 : decode cX6_init 53 = .ok (.bipush 12, 2) := by decide +kernel
theorem dX6_init_55 : decode cX6_init 55 = .ok (.newarray .int, 2) := by decide +kernel
theorem dX6_init_57 : decode cX6_init 57 = .ok (.putfield 28, 3) := by decide +kernel
theorem dX6_init_60 : decode cX6_init 60 = .ok (.aload_n 0, 1) := by decide +kernel
theorem dX6_init_61 : decode cX6_init 61 = .ok (.bipush 12, 2) := by decide +kernel
theorem dX6_init_63 : decode cX6_init 63 = .ok (.newarray .int, 2) := by decide +kernel
theorem dX6_init_65 : decode cX6_init 65 = .ok (.putfield 31, 3) := by decide +kernel
theorem dX6_init_68 : decode cX6_init 68 = .ok (.aload_n 0, 1) := by decide +kernel
theorem dX6_init_69 : decode cX6_init 69 = .ok (.bipush 12, 2) := by decide +kernel
theorem dX6_init_71 : decode cX6_init 71 = .ok (.newarray .int, 2) := by decide +kernel
theorem dX6_init_73 : decode cX6_init 73 = .ok (.putfield 34, 3) := by decide +kernel
theorem dX6_init_76 : decode cX6_init 76 = .ok (.aload_n 0, 1) := by decide +kernel
theorem dX6_init_77 : decode cX6_init 77 = .ok (.bipush 12, 2) := by decide +kernel
theorem dX6_init_79 : decode cX6_init 79 = .ok (.newarray .int, 2) := by decide +kernel
theorem dX6_init_81 : decode cX6_init 81 = .ok (.putfield 37, 3) := by decide +kernel
theorem dX6_init_84 : decode cX6_init 84 = .ok (.aload_n 0, 1) := by decide +kernel
theorem dX6_init_85 : decode cX6_init 85 = .ok (.bipush 12, 2) := by decide +kernel
theorem dX6_init_87 : decode cX6_init 87 = .ok (.newarray .boolean, 2) := by decide +kernel
theorem dX6_init_89 : decode cX6_init 89 = .ok (.putfield 40, 3) := by decide +kernel
theorem dX6_init_92 : decode cX6_init 92 = .ok (.aload_n 0, 1) := by decide +kernel
theorem dX6_init_93 : decode cX6_init 93 = .ok (.sipush 130, 3) := by decide +kernel
theorem dX6_init_96 : decode cX6_init 96 = .ok (.newarray .int, 2) := by decide +kernel
theorem dX6_init_98 : decode cX6_init 98 = .ok (.putfield 44, 3) := by decide +kernel
theorem dX6_init_101 : decode cX6_init 101 = .ok (.aload_n 0, 1) := by decide +kernel
theorem dX6_init_102 : decode cX6_init 102 = .ok (.sipush 130, 3) := by decide +kernel
theorem dX6_init_105 : decode cX6_init 105 = .ok (.newarray .int, 2) := by decide +kernel
theorem dX6_init_107 : decode cX6_init 107 = .ok (.putfield 47, 3) := by decide +kernel
theorem dX6_init_110 : decode cX6_init 110 = .ok (.aload_n 0, 1) := by decide +kernel
theorem dX6_init_111 : decode cX6_init 111 = .ok (.bipush 13, 2) := by decide +kernel
theorem dX6_init_113 : decode cX6_init 113 = .ok (.newarray .int, 2) := by decide +kernel
theorem dX6_init_115 : decode cX6_init 115 = .ok (.putfield 50, 3) := by decide +kernel
theorem dX6_init_118 : decode cX6_init 118 = .ok (.aload_n 0, 1) := by decide +kernel
theorem dX6_init_119 : decode cX6_init 119 = .ok (.bipush 120, 2) := by decide +kernel
theorem dX6_init_121 : decode cX6_init 121 = .ok (.newarray .int, 2) := by decide +kernel
theorem dX6_init_123 : decode cX6_init 123 = .ok (.putfield 53, 3) := by decide +kernel
theorem dX6_init_126 : decode cX6_init 126 = .ok (.aload_n 0, 1) := by decide +kernel
theorem dX6_init_127 : decode cX6_init 127 = .ok (.bipush 120, 2) := by decide +kernel
theorem dX6_init_129 : decode cX6_init 129 = .ok (.newarray .int, 2) := by decide +kernel
theorem dX6_init_131 : decode cX6_init 131 = .ok (.putfield 56, 3) := by decide +kernel
theorem dX6_init_134 : decode cX6_init 134 = .ok (.aload_n 0, 1) := by decide +kernel
theorem dX6_init_135 : decode cX6_init 135 = .ok (.bipush 6, 2) := by decide +kernel
theorem dX6_init_137 : decode cX6_init 137 = .ok (.newarray .int, 2) := by decide +kernel
theorem dX6_init_139 : decode cX6_init 139 = .ok (.putfield 59, 3) := by decide +kernel
theorem dX6_init_142 : decode cX6_init 142 = .ok (.aload_n 0, 1) := by decide +kernel
theorem dX6_init_143 : decode cX6_init 143 = .ok (.bipush 20, 2) := by decide +kernel
theorem dX6_init_145 : decode cX6_init 145 = .ok (.newarray .int, 2) := by decide +kernel
theorem dX6_init_147 : decode cX6_init 147 = .ok (.putfield 62, 3) := by decide +kernel
theorem dX6_init_150 : decode cX6_init 150 = .ok (.aload_n 0, 1) := by decide +kernel
theorem dX6_init_151 : decode cX6_init 151 = .ok (.bipush 20, 2) := by decide +kernel
theorem dX6_init_153 : decode cX6_init 153 = .ok (.newarray .int, 2) := by decide +kernel
theorem dX6_init_155 : decode cX6_init 155 = .ok (.putfield 65, 3) := by decide +kernel
theorem dX6_init_158 : decode cX6_init 158 = .ok (.aload_n 0, 1) := by decide +kernel
theorem dX6_init_159 : decode cX6_init 159 = .ok (.bipush 6, 2) := by decide +kernel
theorem dX6_init_161 : decode cX6_init 161 = .ok (.newarray .int, 2) := by decide +kernel
theorem dX6_init_163 : decode cX6_init 163 = .ok (.putfield 68, 3) := by decide +kernel
theorem dX6_init_166 : decode cX6_init 166 = .ok (.aload_n 0, 1) := by decide +kernel
theorem dX6_init_167 : decode cX6_init 167 = .ok (.bipush 6, 2) := by decide +kernel
theorem dX6_init_169 : decode cX6_init 169 = .ok (.newarray .int, 2) := by decide +kernel
theorem dX6_init_171 : decode cX6_init 171 = .ok (.putfield 71, 3) := by decide +kernel
theorem dX6_init_174 : decode cX6_init 174 = .ok (.aload_n 0, 1) := by decide +kernel
theorem dX6_init_175 : decode cX6_init 175 = .ok (.bipush 7, 2) := by decide +kernel
theorem dX6_init_177 : decode cX6_init 177 = .ok (.newarray .int, 2) := by decide +kernel
theorem dX6_init_179 : decode cX6_init 179 = .ok (.putfield 74, 3) := by decide +kernel
theorem dX6_init_182 : decode cX6_init 182 = .ok (.aload_n 0, 1) := by decide +kernel
theorem dX6_init_183 : decode cX6_init 183 = .ok (.bipush 6, 2) := by decide +kernel
theorem dX6_init_185 : decode cX6_init 185 = .ok (.newarray .int, 2) := by decide +kernel
theorem dX6_init_187 : decode cX6_init 187 = .ok (.putfield 77, 3) := by decide +kernel
theorem dX6_init_190 : decode cX6_init 190 = .ok (.aload_n 0, 1) := by decide +kernel
theorem dX6_init_191 : decode cX6_init 191 = .ok (.bipush 6, 2) := by decide +kernel
theorem dX6_init_193 : decode cX6_init 193 = .ok (.newarray .int, 2) := by decide +kernel
theorem dX6_init_195 : decode cX6_init 195 = .ok (.putfield 80, 3) := by decide +kernel
theorem dX6_init_198 : decode cX6_init 198 = .ok (.aload_n 0, 1) := by decide +kernel
theorem dX6_init_199 : decode cX6_init 199 = .ok (.sipush 4096, 3) := by decide +kernel
theorem dX6_init_202 : decode cX6_init 202 = .ok (.newarray .int, 2) := by decide +kernel
theorem dX6_init_204 : decode cX6_init 204 = .ok (.putfield 83, 3) := by decide +kernel
theorem dX6_init_207 : decode cX6_init 207 = .ok (.aload_n 0, 1) := by decide +kernel
theorem dX6_init_208 : decode cX6_init 208 = .ok (.sipush 4096, 3) := by decide +kernel
theorem dX6_init_211 : decode cX6_init 211 = .ok (.newarray .int, 2) := by decide +kernel
theorem dX6_init_213 : decode cX6_init 213 = .ok (.putfield 86, 3) := by decide +kernel
theorem dX6_init_216 : decode cX6_init 216 = .ok (.aload_n 0, 1) := by decide +kernel
theorem dX6_init_217 : decode cX6_init 217 = .ok (.bipush 12, 2) := by decide +kernel
theorem dX6_init_219 : decode cX6_init 219 = .ok (.newarray .int, 2) := by decide +kernel
theorem dX6_init_221 : decode cX6_init 221 = .ok (.putfield 89, 3) := by decide +kernel
theorem dX6_init_224 : decode cX6_init 224 = .ok (.aload_n 0, 1) := by decide +kernel
theorem dX6_init_225 : decode cX6_init 225 = .ok (.bipush 6, 2) := by decide +kernel
theorem dX6_init_227 : decode cX6_init 227 = .ok (.newarray .int, 2) := by decide +kernel
theorem dX6_init_229 : decode cX6_init 229 = .ok (.putfield 92, 3) := by decide +kernel
theorem dX6_init_232 : decode cX6_init 232 = .ok (.aload_n 0, 1) := by decide +kernel
theorem dX6_init_233 : decode cX6_init 233 = .ok (.bipush 6, 2) := by decide +kernel
theorem dX6_init_235 : decode cX6_init 235 = .ok (.newarray .int, 2) := by decide +kernel
theorem dX6_init_237 : decode cX6_init 237 = .ok (.putfield 95, 3) := by decide +kernel
theorem dX6_init_240 : decode cX6_init 240 = .ok (.return_, 1) := by decide +kernel
theorem dX6_isLeap_0 : decode cX6_isLeap 0 = .ok (.iload_n 0, 1) := by decide +kernel
theorem dX6_isLeap_1 : decode cX6_isLeap 1 = .ok (.iconst 1, 1) := by decide +kernel
theorem dX6_isLeap_2 : decode cX6_isLeap 2 = .ok (.if_icmp .ne 17, 3) := by decide +kernel
theorem dX6_isLeap_5 : decode cX6_isLeap 5 = .ok (.iload_n 1, 1) := by decide +kernel
theorem dX6_isLeap_6 : decode cX6_isLeap 6 = .ok (.iconst 4, 1) := by decide +kernel
theorem dX6_isLeap_7 : decode cX6_isLeap 7 = .ok (.irem, 1) := by decide +kernel
theorem dX6_isLeap_8 : decode cX6_isLeap 8 = .ok (.ifCond .ne 7, 3) := by decide +kernel
theorem dX6_isLeap_11 : decode cX6_isLeap 11 = .ok (.iconst 1, 1) := by decide +kernel
theorem dX6_isLeap_12 : decode cX6_isLeap 12 = .ok (.goto 33, 3) := by decide +kernel
theorem dX6_isLeap_15 : decode cX6_isLeap 15 = .ok (.iconst 0, 1) := by decide +kernel
theorem dX6_isLeap_16 : decode cX6_isLeap 16 = .ok (.goto 29, 3) := by decide +kernel
theorem dX6_isLeap_19 : decode cX6_isLeap 19 = .ok (.iload_n 1, 1) := by decide +kernel
theorem dX6_isLeap_20 : decode cX6_isLeap 20 = .ok (.iconst 4, 1) := by decide +kernel
theorem dX6_isLeap_21 : decode cX6_isLeap 21 = .ok (.irem, 1) := by decide +kernel
theorem dX6_isLeap_22 : decode cX6_isLeap 22 = .ok (.ifCond .ne 22, 3) := by decide +kernel
theorem dX6_isLeap_25 : decode cX6_isLeap 25 = .ok (.iload_n 1, 1) := by decide +kernel
theorem dX6_isLeap_26 : decode cX6_isLeap 26 = .ok (.bipush 100, 2) := by decide +kernel
theorem dX6_isLeap_28 : decode cX6_isLeap 28 = .ok (.irem, 1) := by decide +kernel
theorem dX6_isLeap_29 : decode cX6_isLeap 29 = .ok (.ifCond .ne 11, 3) := by decide +kernel
theorem dX6_isLeap_32 : decode cX6_isLeap 32 = .ok (.iload_n 1, 1) := by decide +kernel
theorem dX6_isLeap_33 : decode cX6_isLeap 33 = .ok (.sipush 400, 3) := by decide +kernel
theorem dX6_isLeap_36 : decode cX6_isLeap 36 = .ok (.irem, 1) := by decide +kernel
theorem dX6_isLeap_37 : decode cX6_isLeap 37 = .ok (.ifCond .ne 7, 3) := by decide +kernel
theorem dX6_isLeap_40 : decode cX6_isLeap 40 = .ok (.iconst 1, 1) := by decide +kernel
theorem dX6_isLeap_41 : decode cX6_isLeap 41 = .ok (.goto 4, 3) := by decide +kernel
theorem dX6_isLeap_44 : decode cX6_isLeap 44 = .ok (.iconst 0, 1) := by decide +kernel
theorem dX6_isLeap_45 : decode cX6_isLeap 45 = .ok (.ireturn, 1) := by decide +kernel
set_option maxRecDepth 20000 in
theorem ggX6_lengthOf_X6_isLeap : GoodIn wsX6_lengthOf wsX6_isLeap := goodIn_r _ [4] (by decide +kernel) (by decide +kernel)
set_option maxRecDepth 20000 in
theorem gX6_lengthOf_X6_isLeap : GoodIn wsX6_lengthOf (va_wsS RX6 102 yX6_isLeap wsX6_isLeap) := goodIn_app (goodIn_of _ (by decide +kernel)) ggX6_lengthOf_X6_isLeap
theorem dX6_lengthOf_0 : decode cX6_lengthOf 0 = .ok (.iload_n 0, 1) := by decide +kernel
theorem dX6_lengthOf_1 : decode cX6_lengthOf 1 = .ok (.iconst 2, 1) := by decide +kernel
theorem dX6_lengthOf_2 : decode cX6_lengthOf 2 = .ok (.if_icmp .ne 16, 3) := by decide +kernel
theorem dX6_lengthOf_5 : decode cX6_lengthOf 5 = .ok (.iload_n 2, 1) := by decide +kernel
theorem dX6_lengthOf_6 : decode cX6_lengthOf 6 = .ok (.bipush 13, 2) := by decide +kernel
theorem dX6_lengthOf_8 : decode cX6_lengthOf 8 = .ok (.if_icmp .ne 7, 3) := by decide +kernel
theorem dX6_lengthOf_11 : decode cX6_lengthOf 11 = .ok (.iconst 5, 1) := by decide +kernel
theorem dX6_lengthOf_12 : decode cX6_lengthOf 12 = .ok (.goto 5, 3) := by decide +kernel
theorem dX6_lengthOf_15 : decode cX6_lengthOf 15 = .ok (.bipush 30, 2) := by decide +kernel
theorem dX6_lengthOf_17 : decode cX6_lengthOf 17 = .ok (.ireturn, 1) := by decide +kernel
theorem dX6_lengthOf_18 : decode cX6_lengthOf 18 = .ok (.iload_n 2, 1) := by decide +kernel
theorem dX6_lengthOf_19 : decode cX6_lengthOf 19 = .ok (.iconst 2, 1) := by decide +kernel
theorem dX6_lengthOf_20 : decode cX6_lengthOf 20 = .ok (.if_icmp .ne 19, 3) := by decide +kernel
theorem dX6_lengthOf_23 : decode cX6_lengthOf 23 = .ok (.iload_n 0, 1) := by decide +kernel
theorem dX6_lengthOf_24 : decode cX6_lengthOf 24 = .ok (.iload_n 1, 1) := by decide +kernel
theorem dX6_lengthOf_25 : decode cX6_lengthOf 25 = .ok (.invokestatic 102, 3) := by decide +kernel
theorem dX6_lengthOf_28 : decode cX6_lengthOf 28 = .ok (.ifCond .eq 8, 3) := by decide +kernel
theorem dX6_lengthOf_31 : decode cX6_lengthOf 31 = .ok (.bipush 29, 2) := by decide +kernel
theorem dX6_lengthOf_33 : decode cX6_lengthOf 33 = .ok (.goto 5, 3) := by decide +kernel
theorem dX6_lengthOf_36 : decode cX6_lengthOf 36 = .ok (.bipush 28, 2) := by decide +kernel
theorem dX6_lengthOf_38 : decode cX6_lengthOf 38 = .ok (.ireturn, 1) := by decide +kernel
theorem dX6_lengthOf_39 : decode cX6_lengthOf 39 = .ok (.iload_n 2, 1) := by decide +kernel
theorem dX6_lengthOf_40 : decode cX6_lengthOf 40 = .ok (.iconst 4, 1) := by decide +kernel
theorem dX6_lengthOf_41 : decode cX6_lengthOf 41 = .ok (.if_icmp .eq 21, 3) := by decide +kernel
theorem dX6_lengthOf_44 : decode cX6_lengthOf 44 = .ok (.iload_n 2, 1) := by decide +kernel
theorem dX6_lengthOf_45 : decode cX6_lengthOf 45 = .ok (.bipush 6, 2) := by decide +kernel
theorem dX6_lengthOf_47 : decode cX6_lengthOf 47 = .ok (.if_icmp .eq 15, 3) := by decide +kernel
theorem dX6_lengthOf_50 : decode cX6_lengthOf 50 = .ok (.iload_n 2, 1) := by decide +kernel
theorem dX6_lengthOf_51 : decode cX6_lengthOf 51 = .ok (.bipush 9, 2) := by decide +kernel
theorem dX6_lengthOf_53 : decode cX6_lengthOf 53 = .ok (.if_icmp .eq 9, 3) := by decide +kernel
theorem dX6_lengthOf_56 : decode cX6_lengthOf 56 = .ok (.iload_n 2, 1) := by decide +kernel
theorem dX6_lengthOf_57 : decode cX6_lengthOf 57 = .ok (.bipush 11, 2) := by decide +kernel
theorem dX6_lengthOf_59 : decode cX6_lengthOf 59 = .ok (.if_icmp .ne 8, 3) := by decide +kernel
theorem dX6_lengthOf_62 : decode cX6_lengthOf 62 = .ok (.bipush 30, 2) := by decide +kernel
theorem dX6_lengthOf_64 : decode cX6_lengthOf 64 = .ok (.goto 5, 3) := by decide +kernel
theorem dX6_lengthOf_67 : decode cX6_lengthOf 67 = .ok (.bipush 31, 2) := by decide +kernel
theorem dX6_lengthOf_69 : decode cX6_lengthOf 69 = .ok (.ireturn, 1) := by decide +kernel
theorem dX6_monthsOf_0 : decode cX6_monthsOf 0 = .ok (.iload_n 0, 1) := by decide +kernel
theorem dX6_monthsOf_1 : decode cX6_monthsOf 1 = .ok (.iconst 2, 1) := by decide +kernel
theorem dX6_monthsOf_2 : decode cX6_monthsOf 2 = .ok (.if_icmp .ne 8, 3) := by decide +kernel
theorem dX6_monthsOf_5 : decode cX6_monthsOf 5 = .ok (.bipush 13, 2) := by decide +kernel
theorem dX6_monthsOf_7 : decode cX6_monthsOf 7 = .ok (.goto 5, 3) := by decide +kernel
theorem dX6_monthsOf_10 : decode cX6_monthsOf 10 = .ok (.bipush 12, 2) := by decide +kernel
theorem dX6_monthsOf_12 : decode cX6_monthsOf 12 = .ok (.ireturn, 1) := by decide +kernel
theorem dX6_yearFrom_0 : decode cX6_yearFrom 0 = .ok (.iload_n 1, 1) := by decide +kernel
theorem dX6_yearFrom_1 : decode cX6_yearFrom 1 = .ok (.iconst 1, 1) := by decide +kernel
theorem dX6_yearFrom_2 : decode cX6_yearFrom 2 = .ok (.isub, 1) := by decide +kernel
theorem dX6_yearFrom_3 : decode cX6_yearFrom 3 = .ok (.istore_n 2, 1) := by decide +kernel
theorem dX6_yearFrom_4 : decode cX6_yearFrom 4 = .ok (.iload_n 0, 1) := by decide +kernel
theorem dX6_yearFrom_5 : decode cX6_yearFrom 5 = .ok (.iconst 2, 1) := by decide +kernel
theorem dX6_yearFrom_6 : decode cX6_yearFrom 6 = .ok (.if_icmp .ne 9, 3) := by decide +kernel
theorem dX6_yearFrom_9 : decode cX6_yearFrom 9 = .ok (.sipush 365, 3) := by decide +kernel
theorem dX6_yearFrom_12 : decode cX6_yearFrom 12 = .ok (.iload_n 2, 1) := by decide +kernel
theorem dX6_yearFrom_13 : decode cX6_yearFrom 13 = .ok (.imul, 1) := by decide +kernel
theorem dX6_yearFrom_14 : decode cX6_yearFrom 14 = .ok (.ireturn, 1) := by decide +kernel
theorem dX6_yearFrom_15 : decode cX6_yearFrom 15 = .ok (.iload_n 0, 1) := by decide +kernel
theorem dX6_yearFrom_16 : decode cX6_yearFrom 16 = .ok (.iconst 1, 1) := by decide +kernel
theorem dX6_yearFrom_17 : decode cX6_yearFrom 17 = .ok (.if_icmp .ne 17, 3) := by decide +kernel
theorem dX6_yearFrom_20 : decode cX6_yearFrom 20 = .ok (.sipush 365, 3) := by decide +kernel
theorem dX6_yearFrom_23 : decode cX6_yearFrom 23 = .ok (.iload_n 2, 1) := by decide +kernel
theorem dX6_yearFrom_24 : decode cX6_yearFrom 24 = .ok (.imul, 1) := by decide +kernel
theorem dX6_yearFrom_25 : decode cX6_yearFrom 25 = .ok (.iload_n 2, 1) := by decide +kernel
theorem dX6_yearFrom_26 : decode cX6_yearFrom 26 = .ok (.iconst 4, 1) := by decide +kernel
theorem dX6_yearFrom_27 : decode cX6_yearFrom 27 = .ok (.idiv, 1) := by decide +kernel
theorem dX6_yearFrom_28 : decode cX6_yearFrom 28 = .ok (.iadd, 1) := by decide +kernel
theorem dX6_yearFrom_29 : decode cX6_yearFrom 29 = .ok (.iconst 2, 1) := by decide +kernel
theorem dX6_yearFrom_30 : decode cX6_yearFrom 30 = .ok (.isub, 1) := by decide +kernel
theorem dX6_yearFrom_31 : decode cX6_yearFrom 31 = .ok (.goto 23, 3) := by decide +kernel
theorem dX6_yearFrom_34 : decode cX6_yearFrom 34 = .ok (.sipush 365, 3) := by decide +kernel
theorem dX6_yearFrom_37 : decode cX6_yearFrom 37 = .ok (.iload_n 2, 1) := by decide +kernel
theorem dX6_yearFrom_38 : decode cX6_yearFrom 38 = .ok (.imul, 1) := by decide +kernel
theorem dX6_yearFrom_39 : decode cX6_yearFrom 39 = .ok (.iload_n 2, 1) := by decide +kernel
theorem dX6_yearFrom_40 : decode cX6_yearFrom 40 = .ok (.iconst 4, 1) := by decide +kernel
theorem dX6_yearFrom_41 : decode cX6_yearFrom 41 = .ok (.idiv, 1) := by decide +kernel
theorem dX6_yearFrom_42 : decode cX6_yearFrom 42 = .ok (.iadd, 1) := by decide +kernel
theorem dX6_yearFrom_43 : decode cX6_yearFrom 43 = .ok (.iload_n 2, 1) := by decide +kernel
theorem dX6_yearFrom_44 : decode cX6_yearFrom 44 = .ok (.bipush 100, 2) := by decide +kernel
theorem dX6_yearFrom_46 : decode cX6_yearFrom 46 = .ok (.idiv, 1) := by decide +kernel
theorem dX6_yearFrom_47 : decode cX6_yearFrom 47 = .ok (.isub, 1) := by decide +kernel
theorem dX6_yearFrom_48 : decode cX6_yearFrom 48 = .ok (.iload_n 2, 1) := by decide +kernel
theorem dX6_yearFrom_49 : decode cX6_yearFrom 49 = .ok (.sipush 400, 3) := by decide +kernel
theorem dX6_yearFrom_52 : decode cX6_yearFrom 52 = .ok (.idiv, 1) := by decide +kernel
theorem dX6_yearFrom_53 : decode cX6_yearFrom 53 = .ok (.iadd, 1) := by decide +kernel
theorem dX6_yearFrom_54 : decode cX6_yearFrom 54 = .ok (.ireturn, 1) := by decide +kernel
set_option maxRecDepth 20000 in
theorem ggX6_dayOf_X6_monthsOf : GoodIn wsX6_dayOf wsX6_monthsOf := goodIn_r _ [5] (by decide +kernel) (by decide +kernel)
set_option maxRecDepth 20000 in
theorem gX6_dayOf_X6_monthsOf : GoodIn wsX6_dayOf (va_wsS RX6 106 yX6_monthsOf wsX6_monthsOf) := goodIn_app (goodIn_of _ (by decide +kernel)) ggX6_dayOf_X6_monthsOf
set_option maxRecDepth 20000 in
theorem ggX6_dayOf_X6_lengthOf : GoodIn wsX6_dayOf wsX6_lengthOf := goodIn_r _ [8, 9, 10, 4, 11] (by decide +kernel) (by decide +kernel)
set_option maxRecDepth 20000 in
theorem gX6_dayOf_X6_lengthOf : GoodIn wsX6_dayOf (va_wsS RX6 110 yX6_lengthOf wsX6_lengthOf) := goodIn_app (goodIn_of _ (by decide +kernel)) ggX6_dayOf_X6_lengthOf
set_option maxRecDepth 20000 in
theorem ggX6_dayOf_X6_yearFrom : GoodIn wsX6_dayOf wsX6_yearFrom := goodIn_r _ [14] (by decide +kernel) (by decide +kernel)
set_option maxRecDepth 20000 in
theorem gX6_dayOf_X6_yearFrom : GoodIn wsX6_dayOf (va_wsS RX6 115 yX6_yearFrom wsX6_yearFrom) := goodIn_app (goodIn_of _ (by decide +kernel)) ggX6_dayOf_X6_yearFrom
theorem dX6_dayOf_0 : decode cX6_dayOf 0 = .ok (.iload_n 0, 1) := by decide +kernel
theorem dX6_dayOf_1 : decode cX6_dayOf 1 = .ok (.ifCond .lt 48, 3) := by decide +kernel
theorem dX6_dayOf_4 : decode cX6_dayOf 4 = .ok (.iload_n 0, 1) := by decide +kernel
theorem dX6_dayOf_5 : decode cX6_dayOf 5 = .ok (.iconst 2, 1) := by decide +kernel
theorem dX6_dayOf_6 : decode cX6_dayOf 6 = .ok (.if_icmp .gt 43, 3) := by decide +kernel
theorem dX6_dayOf_9 : decode cX6_dayOf 9 = .ok (.iload_n 1, 1) := by decide +kernel
theorem dX6_dayOf_10 : decode cX6_dayOf 10 = .ok (.iconst 1, 1) := by decide +kernel
theorem dX6_dayOf_11 : decode cX6_dayOf 11 = .ok (.if_icmp .lt 38, 3) := by decide +kernel
theorem dX6_dayOf_14 : decode cX6_dayOf 14 = .ok (.iload_n 1, 1) := by decide +kernel
theorem dX6_dayOf_15 : decode cX6_dayOf 15 = .ok (.sipush 2699, 3) := by decide +kernel
theorem dX6_dayOf_18 : decode cX6_dayOf 18 = .ok (.if_icmp .gt 31, 3) := by decide +kernel
theorem dX6_dayOf_21 : decode cX6_dayOf 21 = .ok (.iload_n 2, 1) := by decide +kernel
theorem dX6_dayOf_22 : decode cX6_dayOf 22 = .ok (.iconst 1, 1) := by decide +kernel
theorem dX6_dayOf_23 : decode cX6_dayOf 23 = .ok (.if_icmp .lt 26, 3) := by decide +kernel
theorem dX6_dayOf_26 : decode cX6_dayOf 26 = .ok (.iload_n 2, 1) := by decide +kernel
theorem dX6_dayOf_27 : decode cX6_dayOf 27 = .ok (.iload_n 0, 1) := by decide +kernel
theorem dX6_dayOf_28 : decode cX6_dayOf 28 = .ok (.invokestatic 106, 3) := by decide +kernel
theorem dX6_dayOf_31 : decode cX6_dayOf 31 = .ok (.if_icmp .gt 18, 3) := by decide +kernel
theorem dX6_dayOf_34 : decode cX6_dayOf 34 = .ok (.iload_n 3, 1) := by decide +kernel
theorem dX6_dayOf_35 : decode cX6_dayOf 35 = .ok (.iconst 1, 1) := by decide +kernel
theorem dX6_dayOf_36 : decode cX6_dayOf 36 = .ok (.if_icmp .lt 13, 3) := by decide +kernel
theorem dX6_dayOf_39 : decode cX6_dayOf 39 = .ok (.iload_n 3, 1) := by decide +kernel
theorem dX6_dayOf_40 : decode cX6_dayOf 40 = .ok (.iload_n 0, 1) := by decide +kernel
theorem dX6_dayOf_41 : decode cX6_dayOf 41 = .ok (.iload_n 1, 1) := by decide +kernel
theorem dX6_dayOf_42 : decode cX6_dayOf 42 = .ok (.iload_n 2, 1) := by decide +kernel
theorem dX6_dayOf_43 : decode cX6_dayOf 43 = .ok (.invokestatic 110, 3) := by decide +kernel
theorem dX6_dayOf_46 : decode cX6_dayOf 46 = .ok (.if_icmp .le 6, 3) := by decide +kernel
theorem dX6_dayOf_49 : decode cX6_dayOf 49 = .ok (.ldc 114, 2) := by decide +kernel
theorem dX6_dayOf_51 : decode cX6_dayOf 51 = .ok (.ireturn, 1) := by decide +kernel
theorem dX6_dayOf_52 : decode cX6_dayOf 52 = .ok (.iload_n 0, 1) := by decide +kernel
theorem dX6_dayOf_53 : decode cX6_dayOf 53 = .ok (.iload_n 1, 1) := by decide +kernel
theorem dX6_dayOf_54 : decode cX6_dayOf 54 = .ok (.invokestatic 115, 3) := by decide +kernel
theorem dX6_dayOf_57 : decode cX6_dayOf 57 = .ok (.iload_n 3, 1) := by decide +kernel
theorem dX6_dayOf_58 : decode cX6_dayOf 58 = .ok (.iadd, 1) := by decide +kernel
theorem dX6_dayOf_59 : decode cX6_dayOf 59 = .ok (.iconst 1, 1) := by decide +kernel
theorem dX6_dayOf_60 : decode cX6_dayOf 60 = .ok (.isub, 1) := by decide +kernel
theorem dX6_dayOf_61 : decode cX6_dayOf 61 = .ok (.istore 4, 2) := by decide +kernel
theorem dX6_dayOf_63 : decode cX6_dayOf 63 = .ok (.iconst 1, 1) := by decide +kernel
theorem dX6_dayOf_64 : decode cX6_dayOf 64 = .ok (.istore 5, 2) := by decide +kernel
theorem dX6_dayOf_66 : decode cX6_dayOf 66 = .ok (.iload 5, 2) := by decide +kernel
theorem dX6_dayOf_68 : decode cX6_dayOf 68 = .ok (.iload_n 2, 1) := by decide +kernel
theorem dX6_dayOf_69 : decode cX6_dayOf 69 = .ok (.if_icmp .ge 21, 3) := by decide +kernel
theorem dX6_dayOf_72 : decode cX6_dayOf 72 = .ok (.iload 4, 2) := by decide +kernel
theorem dX6_dayOf_74 : decode cX6_dayOf 74 = .ok (.iload_n 0, 1) := by decide +kernel
theorem dX6_dayOf_75 : decode cX6_dayOf 75 = .ok (.iload_n 1, 1) := by decide +kernel
theorem dX6_dayOf_76 : decode cX6_dayOf 76 = .ok (.iload 5, 2) := by decide +kernel
theorem dX6_dayOf_78 : decode cX6_dayOf 78 = .ok (.invokestatic 110, 3) := by decide +kernel
theorem dX6_dayOf_81 : decode cX6_dayOf 81 = .ok (.iadd, 1) := by decide +kernel
theorem dX6_dayOf_82 : decode cX6_dayOf 82 = .ok (.istore 4, 2) := by decide +kernel
theorem dX6_dayOf_84 : decode cX6_dayOf 84 = .ok (.iinc 5 1, 3) := by decide +kernel
theorem dX6_dayOf_87 : decode cX6_dayOf 87 = .ok (.goto (-21), 3) := by decide +kernel
theorem dX6_dayOf_90 : decode cX6_dayOf 90 = .ok (.iload 4, 2) := by decide +kernel
theorem dX6_dayOf_92 : decode cX6_dayOf 92 = .ok (.ireturn, 1) := by decide +kernel
theorem dX6_isDay_0 : decode cX6_isDay 0 = .ok (.iload_n 0, 1) := by decide +kernel
theorem dX6_isDay_1 : decode cX6_isDay 1 = .ok (.ifCond .lt 13, 3) := by decide +kernel
theorem dX6_isDay_4 : decode cX6_isDay 4 = .ok (.iload_n 0, 1) := by decide +kernel
theorem dX6_isDay_5 : decode cX6_isDay 5 = .ok (.ldc 119, 2) := by decide +kernel
theorem dX6_isDay_7 : decode cX6_isDay 7 = .ok (.if_icmp .ge 7, 3) := by decide +kernel
theorem dX6_isDay_10 : decode cX6_isDay 10 = .ok (.iconst 1, 1) := by decide +kernel
theorem dX6_isDay_11 : decode cX6_isDay 11 = .ok (.goto 4, 3) := by decide +kernel
theorem dX6_isDay_14 : decode cX6_isDay 14 = .ok (.iconst 0, 1) := by decide +kernel
theorem dX6_isDay_15 : decode cX6_isDay 15 = .ok (.ireturn, 1) := by decide +kernel
set_option maxRecDepth 20000 in
theorem ggX6_day_X6_dayOf : GoodIn wsX6_day wsX6_dayOf := goodIn_r _ [5, 6, 7, 8, 4, 9, 10, 11, 12, 13, 14, 15, 16, 17, 18] (by decide +kernel) (by decide +kernel)
set_option maxRecDepth 20000 in
theorem gX6_day_X6_dayOf : GoodIn wsX6_day (va_wsS RX6 120 yX6_dayOf wsX6_dayOf) := goodIn_app (goodIn_of _ (by decide +kernel)) ggX6_day_X6_dayOf
set_option maxRecDepth 20000 in
theorem ggX6_day_X6_isDay : GoodIn wsX6_day wsX6_isDay := goodIn_r _ [21, 22] (by decide +kernel) (by decide +kernel)
set_option maxRecDepth 20000 in
theorem gX6_day_X6_isDay : GoodIn wsX6_day (va_wsS RX6 124 yX6_isDay wsX6_isDay) := goodIn_app (goodIn_of _ (by decide +kernel)) ggX6_day_X6_isDay
theorem dX6_day_0 : decode cX6_day 0 = .ok (.aload_n 0, 1) := by decide +kernel
theorem dX6_day_1 : decode cX6_day 1 = .ok (.iconst 0, 1) := by decide +kernel
theorem dX6_day_2 : decode cX6_day 2 = .ok (.putfield 98, 3) := by decide +kernel
theorem dX6_day_5 : decode cX6_day 5 = .ok (.iload_n 1, 1) := by decide +kernel
theorem dX6_day_6 : decode cX6_day 6 = .ok (.iload_n 2, 1) := by decide +kernel
theorem dX6_day_7 : decode cX6_day 7 = .ok (.iload_n 3, 1) := by decide +kernel
theorem dX6_day_8 : decode cX6_day 8 = .ok (.iload 4, 2) := by decide +kernel
theorem dX6_day_10 : decode cX6_day 10 = .ok (.invokestatic 120, 3) := by decide +kernel
theorem dX6_day_13 : decode cX6_day 13 = .ok (.istore 5, 2) := by decide +kernel
theorem dX6_day_15 : decode cX6_day 15 = .ok (.iload 5, 2) := by decide +kernel
theorem dX6_day_17 : decode cX6_day 17 = .ok (.invokestatic 124, 3) := by decide +kernel
theorem dX6_day_20 : decode cX6_day 20 = .ok (.ifCond .eq 8, 3) := by decide +kernel
theorem dX6_day_23 : decode cX6_day 23 = .ok (.iload 5, 2) := by decide +kernel
theorem dX6_day_25 : decode cX6_day 25 = .ok (.goto 4, 3) := by decide +kernel
theorem dX6_day_28 : decode cX6_day 28 = .ok (.iconst (-1), 1) := by decide +kernel
theorem dX6_day_29 : decode cX6_day 29 = .ok (.ireturn, 1) := by decide +kernel
set_option maxRecDepth 20000 in
theorem ggX6_finds_X6_isDay : GoodIn wsX6_finds wsX6_isDay := goodIn_r _ [11, 12] (by decide +kernel) (by decide +kernel)
set_option maxRecDepth 20000 in
theorem gX6_finds_X6_isDay : GoodIn wsX6_finds (va_wsS RX6 124 yX6_isDay wsX6_isDay) := goodIn_app (goodIn_of _ (by decide +kernel)) ggX6_finds_X6_isDay
set_option maxRecDepth 20000 in
theorem ggX6_finds_X6_yearFrom : GoodIn wsX6_finds wsX6_yearFrom := goodIn_r _ [15] (by decide +kernel) (by decide +kernel)
set_option maxRecDepth 20000 in
theorem gX6_finds_X6_yearFrom : GoodIn wsX6_finds (va_wsS RX6 115 yX6_yearFrom wsX6_yearFrom) := goodIn_app (goodIn_of _ (by decide +kernel)) ggX6_finds_X6_yearFrom
set_option maxRecDepth 20000 in
theorem ggX6_finds_X6_lengthOf : GoodIn wsX6_finds wsX6_lengthOf := goodIn_r _ [18, 19, 20, 10, 21] (by decide +kernel) (by decide +kernel)
set_option maxRecDepth 20000 in
theorem gX6_finds_X6_lengthOf : GoodIn wsX6_finds (va_wsS RX6 110 yX6_lengthOf wsX6_lengthOf) := goodIn_app (goodIn_of _ (by decide +kernel)) ggX6_finds_X6_lengthOf
theorem dX6_finds_0 : decode cX6_finds 0 = .ok (.iload_n 1, 1) := by decide +kernel
theorem dX6_finds_1 : decode cX6_finds 1 = .ok (.ifCond .lt 15, 3) := by decide +kernel
theorem dX6_finds_4 : decode cX6_finds 4 = .ok (.iload_n 1, 1) := by decide +kernel
theorem dX6_finds_5 : decode cX6_finds 5 = .ok (.iconst 2, 1) := by decide +kernel
theorem dX6_finds_6 : decode cX6_finds 6 = .ok (.if_icmp .gt 10, 3) := by decide +kernel
theorem dX6_finds_9 : decode cX6_finds 9 = .ok (.iload_n 2, 1) := by decide +kernel
theorem dX6_finds_10 : decode cX6_finds 10 = .ok (.invokestatic 124, 3) := by decide +kernel
theorem dX6_finds_13 : decode cX6_finds 13 = .ok (.ifCond .ne 5, 3) := by decide +kernel
theorem dX6_finds_16 : decode cX6_finds 16 = .ok (.iconst 0, 1) := by decide +kernel
theorem dX6_finds_17 : decode cX6_finds 17 = .ok (.ireturn, 1) := by decide +kernel
theorem dX6_finds_18 : decode cX6_finds 18 = .ok (.iload_n 2, 1) := by decide +kernel
theorem dX6_finds_19 : decode cX6_finds 19 = .ok (.sipush 366, 3) := by decide +kernel
theorem dX6_finds_22 : decode cX6_finds 22 = .ok (.idiv, 1) := by decide +kernel
theorem dX6_finds_23 : decode cX6_finds 23 = .ok (.istore_n 3, 1) := by decide +kernel
theorem dX6_finds_24 : decode cX6_finds 24 = .ok (.iconst 1, 1) := by decide +kernel
theorem dX6_finds_25 : decode cX6_finds 25 = .ok (.iload_n 3, 1) := by decide +kernel
theorem dX6_finds_26 : decode cX6_finds 26 = .ok (.invokestatic 128, 3) := by decide +kernel
theorem dX6_finds_29 : decode cX6_finds 29 = .ok (.istore_n 3, 1) := by decide +kernel
theorem dX6_finds_30 : decode cX6_finds 30 = .ok (.iload_n 1, 1) := by decide +kernel
theorem dX6_finds_31 : decode cX6_finds 31 = .ok (.iload_n 3, 1) := by decide +kernel
theorem dX6_finds_32 : decode cX6_finds 32 = .ok (.iconst 1, 1) := by decide +kernel
theorem dX6_finds_33 : decode cX6_finds 33 = .ok (.iadd, 1) := by decide +kernel
theorem dX6_finds_34 : decode cX6_finds 34 = .ok (.invokestatic 115, 3) := by decide +kernel
theorem dX6_finds_37 : decode cX6_finds 37 = .ok (.iload_n 2, 1) := by decide +kernel
theorem dX6_finds_38 : decode cX6_finds 38 = .ok (.if_icmp .gt 9, 3) := by decide +kernel
theorem dX6_finds_41 : decode cX6_finds 41 = .ok (.iinc 3 1, 3) := by decide +kernel
theorem dX6_finds_44 : decode cX6_finds 44 = .ok (.goto (-14), 3) := by decide +kernel
theorem dX6_finds_47 : decode cX6_finds 47 = .ok (.iload_n 3, 1) := by decide +kernel
theorem dX6_finds_48 : decode cX6_finds 48 = .ok (.sipush 2699, 3) := by decide +kernel
theorem dX6_finds_51 : decode cX6_finds 51 = .ok (.if_icmp .le 5, 3) := by decide +kernel
theorem dX6_finds_54 : decode cX6_finds 54 = .ok (.iconst 0, 1) := by decide +kernel
theorem dX6_finds_55 : decode cX6_finds 55 = .ok (.ireturn, 1) := by decide +kernel
theorem dX6_finds_56 : decode cX6_finds 56 = .ok (.iload_n 2, 1) := by decide +kernel
theorem dX6_finds_57 : decode cX6_finds 57 = .ok (.iload_n 1, 1) := by decide +kernel
theorem dX6_finds_58 : decode cX6_finds 58 = .ok (.iload_n 3, 1) := by decide +kernel
theorem dX6_finds_59 : decode cX6_finds 59 = .ok (.invokestatic 115, 3) := by decide +kernel
theorem dX6_finds_62 : decode cX6_finds 62 = .ok (.isub, 1) := by decide +kernel
theorem dX6_finds_63 : decode cX6_finds 63 = .ok (.istore 4, 2) := by decide +kernel
theorem dX6_finds_65 : decode cX6_finds 65 = .ok (.iconst 1, 1) := by decide +kernel
theorem dX6_finds_66 : decode cX6_finds 66 = .ok (.istore 5, 2) := by decide +kernel
theorem dX6_finds_68 : decode cX6_finds 68 = .ok (.iload 4, 2) := by decide +kernel
theorem dX6_finds_70 : decode cX6_finds 70 = .ok (.iload_n 1, 1) := by decide +kernel
theorem dX6_finds_71 : decode cX6_finds 71 = .ok (.iload_n 3, 1) := by decide +kernel
theorem dX6_finds_72 : decode cX6_finds 72 = .ok (.iload 5, 2) := by decide +kernel
theorem dX6_finds_74 : decode cX6_finds 74 = .ok (.invokestatic 110, 3) := by decide +kernel
theorem dX6_finds_77 : decode cX6_finds 77 = .ok (.if_icmp .lt 21, 3) := by decide +kernel
theorem dX6_finds_80 : decode cX6_finds 80 = .ok (.iload 4, 2) := by decide +kernel
theorem dX6_finds_82 : decode cX6_finds 82 = .ok (.iload_n 1, 1) := by decide +kernel
theorem dX6_finds_83 : decode cX6_finds 83 = .ok (.iload_n 3, 1) := by decide +kernel
theorem dX6_finds_84 : decode cX6_finds 84 = .ok (.iload 5, 2) := by decide +kernel
theorem dX6_finds_86 : decode cX6_finds 86 = .ok (.invokestatic 110, 3) := by decide +kernel
theorem dX6_finds_89 : decode cX6_finds 89 = .ok (.isub, 1) := by decide +kernel
theorem dX6_finds_90 : decode cX6_finds 90 = .ok (.istore 4, 2) := by decide +kernel
theorem dX6_finds_92 : decode cX6_finds 92 = .ok (.iinc 5 1, 3) := by decide +kernel
theorem dX6_finds_95 : decode cX6_finds 95 = .ok (.goto (-27), 3) := by decide +kernel
theorem dX6_finds_98 : decode cX6_finds 98 = .ok (.aload_n 0, 1) := by decide +kernel
theorem dX6_finds_99 : decode cX6_finds 99 = .ok (.iload_n 3, 1) := by decide +kernel
theorem dX6_finds_100 : decode cX6_finds 100 = .ok (.putfield 133, 3) := by decide +kernel
theorem dX6_finds_103 : decode cX6_finds 103 = .ok (.aload_n 0, 1) := by decide +kernel
theorem dX6_finds_104 : decode cX6_finds 104 = .ok (.iload 5, 2) := by decide +kernel
theorem dX6_finds_106 : decode cX6_finds 106 = .ok (.putfield 136, 3) := by decide +kernel
theorem dX6_finds_109 : decode cX6_finds 109 = .ok (.aload_n 0, 1) := by decide +kernel
theorem dX6_finds_110 : decode cX6_finds 110 = .ok (.iload 4, 2) := by decide +kernel
theorem dX6_finds_112 : decode cX6_finds 112 = .ok (.iconst 1, 1) := by decide +kernel
theorem dX6_finds_113 : decode cX6_finds 113 = .ok (.iadd, 1) := by decide +kernel
theorem dX6_finds_114 : decode cX6_finds 114 = .ok (.putfield 139, 3) := by decide +kernel
theorem dX6_finds_117 : decode cX6_finds 117 = .ok (.iconst 1, 1) := by decide +kernel
theorem dX6_finds_118 : decode cX6_finds 118 = .ok (.ireturn, 1) := by decide +kernel
set_option maxRecDepth 20000 in
theorem ggX6_date_X6_finds : GoodIn wsX6_date wsX6_finds := goodIn_r _ [9, 10, 11, 12, 13, 2, 3, 4, 14, 15, 8, 16, 17, 18, 19, 20, 21, 22, 23, 24, 25, 26, 27, 28, 29, 30, 31, 32, 33, 34, 35, 36, 37, 38, 39, 40, 41, 42, 43, 44, 45, 46, 47, 48, 49, 50, 51, 52, 53, 54, 55, 56, 57, 58, 59, 60, 61, 62, 63, 64, 65, 66, 67, 68, 69] (by decide +kernel) (by decide +kernel)
set_option maxRecDepth 20000 in
theorem gX6_date_X6_finds : GoodIn wsX6_date (wsV RX6 142 RX6 yX6_finds wsX6_finds) := goodIn_app (goodIn_of _ (by decide +kernel)) ggX6_date_X6_finds
theorem dX6_date_0 : decode cX6_date 0 = .ok (.aload_n 0, 1) := by decide +kernel
theorem dX6_date_1 : decode cX6_date 1 = .ok (.iconst 0, 1) := by decide +kernel
theorem dX6_date_2 : decode cX6_date 2 = .ok (.putfield 98, 3) := by decide +kernel
theorem dX6_date_5 : decode cX6_date 5 = .ok (.aload_n 0, 1) := by decide +kernel
theorem dX6_date_6 : decode cX6_date 6 = .ok (.iload_n 1, 1) := by decide +kernel
theorem dX6_date_7 : decode cX6_date 7 = .ok (.iload_n 2, 1) := by decide +kernel
theorem dX6_date_8 : decode cX6_date 8 = .ok (.invokevirtual 142, 3) := by decide +kernel
theorem dX6_date_11 : decode cX6_date 11 = .ok (.ifCond .ne 5, 3) := by decide +kernel
theorem dX6_date_14 : decode cX6_date 14 = .ok (.iconst (-1), 1) := by decide +kernel
theorem dX6_date_15 : decode cX6_date 15 = .ok (.ireturn, 1) := by decide +kernel
theorem dX6_date_16 : decode cX6_date 16 = .ok (.iload_n 3, 1) := by decide +kernel
theorem dX6_date_17 : decode cX6_date 17 = .ok (.ifCond .ne 10, 3) := by decide +kernel
theorem dX6_date_20 : decode cX6_date 20 = .ok (.aload_n 0, 1) := by decide +kernel
theorem dX6_date_21 : decode cX6_date 21 = .ok (.getfield 133, 3) := by decide +kernel
theorem dX6_date_24 : decode cX6_date 24 = .ok (.goto 28, 3) := by decide +kernel
theorem dX6_date_27 : decode cX6_date 27 = .ok (.iload_n 3, 1) := by decide +kernel
theorem dX6_date_28 : decode cX6_date 28 = .ok (.iconst 1, 1) := by decide +kernel
theorem dX6_date_29 : decode cX6_date 29 = .ok (.if_icmp .ne 10, 3) := by decide +kernel
theorem dX6_date_32 : decode cX6_date 32 = .ok (.aload_n 0, 1) := by decide +kernel
theorem dX6_date_33 : decode cX6_date 33 = .ok (.getfield 136, 3) := by decide +kernel
theorem dX6_date_36 : decode cX6_date 36 = .ok (.goto 16, 3) := by decide +kernel
theorem dX6_date_39 : decode cX6_date 39 = .ok (.iload_n 3, 1) := by decide +kernel
theorem dX6_date_40 : decode cX6_date 40 = .ok (.iconst 2, 1) := by decide +kernel
theorem dX6_date_41 : decode cX6_date 41 = .ok (.if_icmp .ne 10, 3) := by decide +kernel
theorem dX6_date_44 : decode cX6_date 44 = .ok (.aload_n 0, 1) := by decide +kernel
theorem dX6_date_45 : decode cX6_date 45 = .ok (.getfield 139, 3) := by decide +kernel
theorem dX6_date_48 : decode cX6_date 48 = .ok (.goto 4, 3) := by decide +kernel
theorem dX6_date_51 : decode cX6_date 51 = .ok (.iconst (-1), 1) := by decide +kernel
theorem dX6_date_52 : decode cX6_date 52 = .ok (.ireturn, 1) := by decide +kernel
set_option maxRecDepth 20000 in
theorem ggX6_behind_X6_finds : GoodIn wsX6_behind wsX6_finds := goodIn_r _ [9, 10, 11, 12, 13, 1, 2, 3, 14, 15, 8, 16, 17, 18, 19, 20, 21, 22, 23, 24, 25, 26, 33, 34, 35, 36, 37, 38, 39, 40, 41, 42, 43, 44, 45, 46, 47, 48, 49, 50, 51, 52, 53, 54, 55, 56, 57, 58, 59, 60, 61, 62, 63, 64, 65, 66, 67, 68, 69, 70, 71, 72, 73, 74, 75] (by decide +kernel) (by decide +kernel)
set_option maxRecDepth 20000 in
theorem gX6_behind_X6_finds : GoodIn wsX6_behind (wsV RX6 142 RX6 yX6_finds wsX6_finds) := goodIn_app (goodIn_of _ (by decide +kernel)) ggX6_behind_X6_finds
set_option maxRecDepth 20000 in
theorem ggX6_behind_X6_dayOf : GoodIn wsX6_behind wsX6_dayOf := goodIn_r _ [29, 4, 30, 31, 8, 32, 21, 22, 23, 24, 25, 26, 18, 19, 20] (by decide +kernel) (by decide +kernel)
set_option maxRecDepth 20000 in
theorem gX6_behind_X6_dayOf : GoodIn wsX6_behind (va_wsS RX6 120 yX6_dayOf wsX6_dayOf) := goodIn_app (goodIn_of _ (by decide +kernel)) ggX6_behind_X6_dayOf
set_option maxRecDepth 20000 in
theorem ggX6_behind_X6_isDay : GoodIn wsX6_behind wsX6_isDay := goodIn_r _ [16, 17] (by decide +kernel) (by decide +kernel)
set_option maxRecDepth 20000 in
theorem gX6_behind_X6_isDay : GoodIn wsX6_behind (va_wsS RX6 124 yX6_isDay wsX6_isDay) := goodIn_app (goodIn_of _ (by decide +kernel)) ggX6_behind_X6_isDay
theorem dX6_behind_0 : decode cX6_behind 0 = .ok (.aload_n 0, 1) := by decide +kernel
theorem dX6_behind_1 : decode cX6_behind 1 = .ok (.iload_n 1, 1) := by decide +kernel
theorem dX6_behind_2 : decode cX6_behind 2 = .ok (.iload_n 2, 1) := by decide +kernel
theorem dX6_behind_3 : decode cX6_behind 3 = .ok (.invokevirtual 142, 3) := by decide +kernel
theorem dX6_behind_6 : decode cX6_behind 6 = .ok (.ifCond .ne 5, 3) := by decide +kernel
theorem dX6_behind_9 : decode cX6_behind 9 = .ok (.iconst (-1), 1) := by decide +kernel
theorem dX6_behind_10 : decode cX6_behind 10 = .ok (.ireturn, 1) := by decide +kernel
theorem dX6_behind_11 : decode cX6_behind 11 = .ok (.aload_n 0, 1) := by decide +kernel
theorem dX6_behind_12 : decode cX6_behind 12 = .ok (.getfield 133, 3) := by decide +kernel
theorem dX6_behind_15 : decode cX6_behind 15 = .ok (.iload_n 3, 1) := by decide +kernel
theorem dX6_behind_16 : decode cX6_behind 16 = .ok (.iadd, 1) := by decide +kernel
theorem dX6_behind_17 : decode cX6_behind 17 = .ok (.istore 4, 2) := by decide +kernel
theorem dX6_behind_19 : decode cX6_behind 19 = .ok (.iload_n 1, 1) := by decide +kernel
theorem dX6_behind_20 : decode cX6_behind 20 = .ok (.iload 4, 2) := by decide +kernel
theorem dX6_behind_22 : decode cX6_behind 22 = .ok (.aload_n 0, 1) := by decide +kernel
theorem dX6_behind_23 : decode cX6_behind 23 = .ok (.getfield 136, 3) := by decide +kernel
theorem dX6_behind_26 : decode cX6_behind 26 = .ok (.aload_n 0, 1) := by decide +kernel
theorem dX6_behind_27 : decode cX6_behind 27 = .ok (.getfield 139, 3) := by decide +kernel
theorem dX6_behind_30 : decode cX6_behind 30 = .ok (.invokestatic 120, 3) := by decide +kernel
theorem dX6_behind_33 : decode cX6_behind 33 = .ok (.istore 5, 2) := by decide +kernel
theorem dX6_behind_35 : decode cX6_behind 35 = .ok (.iload 5, 2) := by decide +kernel
theorem dX6_behind_37 : decode cX6_behind 37 = .ok (.ldc 114, 2) := by decide +kernel
theorem dX6_behind_39 : decode cX6_behind 39 = .ok (.if_icmp .ne 35, 3) := by decide +kernel
theorem dX6_behind_42 : decode cX6_behind 42 = .ok (.iload_n 1, 1) := by decide +kernel
theorem dX6_behind_43 : decode cX6_behind 43 = .ok (.iconst 2, 1) := by decide +kernel
theorem dX6_behind_44 : decode cX6_behind 44 = .ok (.if_icmp .ge 30, 3) := by decide +kernel
theorem dX6_behind_47 : decode cX6_behind 47 = .ok (.aload_n 0, 1) := by decide +kernel
theorem dX6_behind_48 : decode cX6_behind 48 = .ok (.getfield 136, 3) := by decide +kernel
theorem dX6_behind_51 : decode cX6_behind 51 = .ok (.iconst 2, 1) := by decide +kernel
theorem dX6_behind_52 : decode cX6_behind 52 = .ok (.if_icmp .ne 22, 3) := by decide +kernel
theorem dX6_behind_55 : decode cX6_behind 55 = .ok (.aload_n 0, 1) := by decide +kernel
theorem dX6_behind_56 : decode cX6_behind 56 = .ok (.getfield 139, 3) := by decide +kernel
theorem dX6_behind_59 : decode cX6_behind 59 = .ok (.bipush 29, 2) := by decide +kernel
theorem dX6_behind_61 : decode cX6_behind 61 = .ok (.if_icmp .ne 13, 3) := by decide +kernel
theorem dX6_behind_64 : decode cX6_behind 64 = .ok (.iload_n 1, 1) := by decide +kernel
theorem dX6_behind_65 : decode cX6_behind 65 = .ok (.iload 4, 2) := by decide +kernel
theorem dX6_behind_67 : decode cX6_behind 67 = .ok (.iconst 3, 1) := by decide +kernel
theorem dX6_behind_68 : decode cX6_behind 68 = .ok (.iconst 1, 1) := by decide +kernel
theorem dX6_behind_69 : decode cX6_behind 69 = .ok (.invokestatic 120, 3) := by decide +kernel
theorem dX6_behind_72 : decode cX6_behind 72 = .ok (.istore 5, 2) := by decide +kernel
theorem dX6_behind_74 : decode cX6_behind 74 = .ok (.iload 5, 2) := by decide +kernel
theorem dX6_behind_76 : decode cX6_behind 76 = .ok (.invokestatic 124, 3) := by decide +kernel
theorem dX6_behind_79 : decode cX6_behind 79 = .ok (.ifCond .eq 8, 3) := by decide +kernel
theorem dX6_behind_82 : decode cX6_behind 82 = .ok (.iload 5, 2) := by decide +kernel
theorem dX6_behind_84 : decode cX6_behind 84 = .ok (.goto 4, 3) := by decide +kernel
theorem dX6_behind_87 : decode cX6_behind 87 = .ok (.iconst (-1), 1) := by decide +kernel
theorem dX6_behind_88 : decode cX6_behind 88 = .ok (.ireturn, 1) := by decide +kernel
set_option maxRecDepth 20000 in
theorem ggX6_years_X6_behind : GoodIn wsX6_years wsX6_behind := goodIn_r _ [6, 7, 8, 9, 10, 11, 12, 13, 5, 14, 15, 16, 17, 18, 19, 20, 21, 22, 23, 24, 25, 26, 27, 28, 29, 30, 31, 32, 33, 34, 35, 36, 37, 38, 39, 40, 41, 42, 43, 44, 45, 46, 47, 48, 49, 50, 51, 52, 53, 54, 55, 56, 57, 58, 59, 60, 61, 62, 63, 64, 65, 66, 67, 68, 69, 70, 71, 72, 73, 74, 75, 76, 77, 78, 79, 80] (by decide +kernel) (by decide +kernel)
set_option maxRecDepth 20000 in
theorem gX6_years_X6_behind : GoodIn wsX6_years (wsV RX6 145 RX6 yX6_behind wsX6_behind) := goodIn_app (goodIn_of _ (by decide +kernel)) ggX6_years_X6_behind
theorem dX6_years_0 : decode cX6_years 0 = .ok (.aload_n 0, 1) := by decide +kernel
theorem dX6_years_1 : decode cX6_years 1 = .ok (.iconst 0, 1) := by decide +kernel
theorem dX6_years_2 : decode cX6_years 2 = .ok (.putfield 98, 3) := by decide +kernel
theorem dX6_years_5 : decode cX6_years 5 = .ok (.iload_n 3, 1) := by decide +kernel
theorem dX6_years_6 : decode cX6_years 6 = .ok (.ifCond .lt 9, 3) := by decide +kernel
theorem dX6_years_9 : decode cX6_years 9 = .ok (.iload_n 3, 1) := by decide +kernel
theorem dX6_years_10 : decode cX6_years 10 = .ok (.bipush 100, 2) := by decide +kernel
theorem dX6_years_12 : decode cX6_years 12 = .ok (.if_icmp .le 7, 3) := by decide +kernel
theorem dX6_years_15 : decode cX6_years 15 = .ok (.iconst (-1), 1) := by decide +kernel
theorem dX6_years_16 : decode cX6_years 16 = .ok (.goto 10, 3) := by decide +kernel
theorem dX6_years_19 : decode cX6_years 19 = .ok (.aload_n 0, 1) := by decide +kernel
theorem dX6_years_20 : decode cX6_years 20 = .ok (.iload_n 1, 1) := by decide +kernel
theorem dX6_years_21 : decode cX6_years 21 = .ok (.iload_n 2, 1) := by decide +kernel
theorem dX6_years_22 : decode cX6_years 22 = .ok (.iload_n 3, 1) := by decide +kernel
theorem dX6_years_23 : decode cX6_years 23 = .ok (.invokevirtual 145, 3) := by decide +kernel
theorem dX6_years_26 : decode cX6_years 26 = .ok (.ireturn, 1) := by decide +kernel
set_option maxRecDepth 20000 in
theorem ggX6_king_X6_isDay : GoodIn wsX6_king wsX6_isDay := goodIn_r _ [9, 10] (by decide +kernel) (by decide +kernel)
set_option maxRecDepth 20000 in
theorem gX6_king_X6_isDay : GoodIn wsX6_king (va_wsS RX6 124 yX6_isDay wsX6_isDay) := goodIn_app (goodIn_of _ (by decide +kernel)) ggX6_king_X6_isDay
theorem dX6_king_0 : decode cX6_king 0 = .ok (.aload_n 0, 1) := by decide +kernel
theorem dX6_king_1 : decode cX6_king 1 = .ok (.iconst 0, 1) := by decide +kernel
theorem dX6_king_2 : decode cX6_king 2 = .ok (.putfield 98, 3) := by decide +kernel
theorem dX6_king_5 : decode cX6_king 5 = .ok (.iload_n 1, 1) := by decide +kernel
theorem dX6_king_6 : decode cX6_king 6 = .ok (.ifCond .lt 36, 3) := by decide +kernel
theorem dX6_king_9 : decode cX6_king 9 = .ok (.iload_n 1, 1) := by decide +kernel
theorem dX6_king_10 : decode cX6_king 10 = .ok (.iconst 2, 1) := by decide +kernel
theorem dX6_king_11 : decode cX6_king 11 = .ok (.if_icmp .gt 31, 3) := by decide +kernel
theorem dX6_king_14 : decode cX6_king 14 = .ok (.iload_n 2, 1) := by decide +kernel
theorem dX6_king_15 : decode cX6_king 15 = .ok (.invokestatic 124, 3) := by decide +kernel
theorem dX6_king_18 : decode cX6_king 18 = .ok (.ifCond .eq 24, 3) := by decide +kernel
theorem dX6_king_21 : decode cX6_king 21 = .ok (.iload_n 3, 1) := by decide +kernel
theorem dX6_king_22 : decode cX6_king 22 = .ok (.invokestatic 124, 3) := by decide +kernel
theorem dX6_king_25 : decode cX6_king 25 = .ok (.ifCond .eq 17, 3) := by decide +kernel
theorem dX6_king_28 : decode cX6_king 28 = .ok (.iload_n 2, 1) := by decide +kernel
theorem dX6_king_29 : decode cX6_king 29 = .ok (.iload_n 3, 1) := by decide +kernel
theorem dX6_king_30 : decode cX6_king 30 = .ok (.if_icmp .gt 12, 3) := by decide +kernel
theorem dX6_king_33 : decode cX6_king 33 = .ok (.aload_n 0, 1) := by decide +kernel
theorem dX6_king_34 : decode cX6_king 34 = .ok (.getfield 148, 3) := by decide +kernel
theorem dX6_king_37 : decode cX6_king 37 = .ok (.bipush 6, 2) := by decide +kernel
theorem dX6_king_39 : decode cX6_king 39 = .ok (.if_icmp .ne 5, 3) := by decide +kernel
theorem dX6_king_42 : decode cX6_king 42 = .ok (.iconst (-1), 1) := by decide +kernel
theorem dX6_king_43 : decode cX6_king 43 = .ok (.ireturn, 1) := by decide +kernel
theorem dX6_king_44 : decode cX6_king 44 = .ok (.aload_n 0, 1) := by decide +kernel
theorem dX6_king_45 : decode cX6_king 45 = .ok (.getfield 7, 3) := by decide +kernel
theorem dX6_king_48 : decode cX6_king 48 = .ok (.aload_n 0, 1) := by decide +kernel
theorem dX6_king_49 : decode cX6_king 49 = .ok (.getfield 148, 3) := by decide +kernel
theorem dX6_king_52 : decode cX6_king 52 = .ok (.iload_n 1, 1) := by decide +kernel
theorem dX6_king_53 : decode cX6_king 53 = .ok (.iastore, 1) := by decide +kernel
theorem dX6_king_54 : decode cX6_king 54 = .ok (.aload_n 0, 1) := by decide +kernel
theorem dX6_king_55 : decode cX6_king 55 = .ok (.getfield 13, 3) := by decide +kernel
theorem dX6_king_58 : decode cX6_king 58 = .ok (.aload_n 0, 1) := by decide +kernel
theorem dX6_king_59 : decode cX6_king 59 = .ok (.getfield 148, 3) := by decide +kernel
theorem dX6_king_62 : decode cX6_king 62 = .ok (.iload_n 2, 1) := by decide +kernel
theorem dX6_king_63 : decode cX6_king 63 = .ok (.iastore, 1) := by decide +kernel
theorem dX6_king_64 : decode cX6_king 64 = .ok (.aload_n 0, 1) := by decide +kernel
theorem dX6_king_65 : decode cX6_king 65 = .ok (.getfield 16, 3) := by decide +kernel
theorem dX6_king_68 : decode cX6_king 68 = .ok (.aload_n 0, 1) := by decide +kernel
theorem dX6_king_69 : decode cX6_king 69 = .ok (.getfield 148, 3) := by decide +kernel
theorem dX6_king_72 : decode cX6_king 72 = .ok (.iload_n 3, 1) := by decide +kernel
theorem dX6_king_73 : decode cX6_king 73 = .ok (.iastore, 1) := by decide +kernel
theorem dX6_king_74 : decode cX6_king 74 = .ok (.aload_n 0, 1) := by decide +kernel
theorem dX6_king_75 : decode cX6_king 75 = .ok (.dup, 1) := by decide +kernel
theorem dX6_king_76 : decode cX6_king 76 = .ok (.getfield 148, 3) := by decide +kernel
theorem dX6_king_79 : decode cX6_king 79 = .ok (.iconst 1, 1) := by decide +kernel
theorem dX6_king_80 : decode cX6_king 80 = .ok (.iadd, 1) := by decide +kernel
theorem dX6_king_81 : decode cX6_king 81 = .ok (.putfield 148, 3) := by decide +kernel
theorem dX6_king_84 : decode cX6_king 84 = .ok (.aload_n 0, 1) := by decide +kernel
theorem dX6_king_85 : decode cX6_king 85 = .ok (.getfield 148, 3) := by decide +kernel
theorem dX6_king_88 : decode cX6_king 88 = .ok (.iconst 1, 1) := by decide +kernel
theorem dX6_king_89 : decode cX6_king 89 = .ok (.isub, 1) := by decide +kernel
theorem dX6_king_90 : decode cX6_king 90 = .ok (.ireturn, 1) := by decide +kernel
theorem dX6_event_0 : decode cX6_event 0 = .ok (.aload_n 0, 1) := by decide +kernel
theorem dX6_event_1 : decode cX6_event 1 = .ok (.iconst 0, 1) := by decide +kernel
theorem dX6_event_2 : decode cX6_event 2 = .ok (.putfield 98, 3) := by decide +kernel
theorem dX6_event_5 : decode cX6_event 5 = .ok (.aload_n 0, 1) := by decide +kernel
theorem dX6_event_6 : decode cX6_event 6 = .ok (.getfield 151, 3) := by decide +kernel
theorem dX6_event_9 : decode cX6_event 9 = .ok (.bipush 6, 2) := by decide +kernel
theorem dX6_event_11 : decode cX6_event 11 = .ok (.if_icmp .ne 5, 3) := by decide +kernel
theorem dX6_event_14 : decode cX6_event 14 = .ok (.iconst (-1), 1) := by decide +kernel
theorem dX6_event_15 : decode cX6_event 15 = .ok (.ireturn, 1) := by decide +kernel
theorem dX6_event_16 : decode cX6_event 16 = .ok (.aload_n 0, 1) := by decide +kernel
theorem dX6_event_17 : decode cX6_event 17 = .ok (.dup, 1) := by decide +kernel
theorem dX6_event_18 : decode cX6_event 18 = .ok (.getfield 151, 3) := by decide +kernel
theorem dX6_event_21 : decode cX6_event 21 = .ok (.iconst 1, 1) := by decide +kernel
theorem dX6_event_22 : decode cX6_event 22 = .ok (.iadd, 1) := by decide +kernel
theorem dX6_event_23 : decode cX6_event 23 = .ok (.putfield 151, 3) := by decide +kernel
theorem dX6_event_26 : decode cX6_event 26 = .ok (.aload_n 0, 1) := by decide +kernel
theorem dX6_event_27 : decode cX6_event 27 = .ok (.getfield 151, 3) := by decide +kernel
theorem dX6_event_30 : decode cX6_event 30 = .ok (.iconst 1, 1) := by decide +kernel
theorem dX6_event_31 : decode cX6_event 31 = .ok (.isub, 1) := by decide +kernel
theorem dX6_event_32 : decode cX6_event 32 = .ok (.ireturn, 1) := by decide +kernel
theorem dX6_lays_0 : decode cX6_lays 0 = .ok (.iconst 0, 1) := by decide +kernel
theorem dX6_lays_1 : decode cX6_lays 1 = .ok (.iload_n 1, 1) := by decide +kernel
theorem dX6_lays_2 : decode cX6_lays 2 = .ok (.invokestatic 128, 3) := by decide +kernel
theorem dX6_lays_5 : decode cX6_lays 5 = .ok (.istore_n 3, 1) := by decide +kernel
theorem dX6_lays_6 : decode cX6_lays 6 = .ok (.ldc 154, 2) := by decide +kernel
theorem dX6_lays_8 : decode cX6_lays 8 = .ok (.iload_n 2, 1) := by decide +kernel
theorem dX6_lays_9 : decode cX6_lays 9 = .ok (.invokestatic 155, 3) := by decide +kernel
theorem dX6_lays_12 : decode cX6_lays 12 = .ok (.istore 4, 2) := by decide +kernel
theorem dX6_lays_14 : decode cX6_lays 14 = .ok (.iload_n 3, 1) := by decide +kernel
theorem dX6_lays_15 : decode cX6_lays 15 = .ok (.iload 4, 2) := by decide +kernel
theorem dX6_lays_17 : decode cX6_lays 17 = .ok (.if_icmp .le 4, 3) := by decide +kernel
theorem dX6_lays_20 : decode cX6_lays 20 = .ok (.return_, 1) := by decide +kernel
theorem dX6_lays_21 : decode cX6_lays 21 = .ok (.bipush 10, 2) := by decide +kernel
theorem dX6_lays_23 : decode cX6_lays 23 = .ok (.aload_n 0, 1) := by decide +kernel
theorem dX6_lays_24 : decode cX6_lays 24 = .ok (.getfield 158, 3) := by decide +kernel
theorem dX6_lays_27 : decode cX6_lays 27 = .ok (.imul, 1) := by decide +kernel
theorem dX6_lays_28 : decode cX6_lays 28 = .ok (.aload_n 0, 1) := by decide +kernel
theorem dX6_lays_29 : decode cX6_lays 29 = .ok (.getfield 50, 3) := by decide +kernel
theorem dX6_lays_32 : decode cX6_lays 32 = .ok (.aload_n 0, 1) := by decide +kernel
theorem dX6_lays_33 : decode cX6_lays 33 = .ok (.getfield 158, 3) := by decide +kernel
theorem dX6_lays_36 : decode cX6_lays 36 = .ok (.iaload, 1) := by decide +kernel
theorem dX6_lays_37 : decode cX6_lays 37 = .ok (.iadd, 1) := by decide +kernel
theorem dX6_lays_38 : decode cX6_lays 38 = .ok (.istore 5, 2) := by decide +kernel
theorem dX6_lays_40 : decode cX6_lays 40 = .ok (.aload_n 0, 1) := by decide +kernel
theorem dX6_lays_41 : decode cX6_lays 41 = .ok (.getfield 44, 3) := by decide +kernel
theorem dX6_lays_44 : decode cX6_lays 44 = .ok (.iload 5, 2) := by decide +kernel
theorem dX6_lays_46 : decode cX6_lays 46 = .ok (.iload_n 3, 1) := by decide +kernel
theorem dX6_lays_47 : decode cX6_lays 47 = .ok (.iastore, 1) := by decide +kernel
theorem dX6_lays_48 : decode cX6_lays 48 = .ok (.aload_n 0, 1) := by decide +kernel
theorem dX6_lays_49 : decode cX6_lays 49 = .ok (.getfield 47, 3) := by decide +kernel
theorem dX6_lays_52 : decode cX6_lays 52 = .ok (.iload 5, 2) := by decide +kernel
theorem dX6_lays_54 : decode cX6_lays 54 = .ok (.iload 4, 2) := by decide +kernel
theorem dX6_lays_56 : decode cX6_lays 56 = .ok (.iastore, 1) := by decide +kernel
theorem dX6_lays_57 : decode cX6_lays 57 = .ok (.aload_n 0, 1) := by decide +kernel
theorem dX6_lays_58 : decode cX6_lays 58 = .ok (.getfield 50, 3) := by decide +kernel
theorem dX6_lays_61 : decode cX6_lays 61 = .ok (.aload_n 0, 1) := by decide +kernel
theorem dX6_lays_62 : decode cX6_lays 62 = .ok (.getfield 158, 3) := by decide +kernel
theorem dX6_lays_65 : decode cX6_lays 65 = .ok (.dup2, 1) := by decide +kernel
theorem dX6_lays_66 : decode cX6_lays 66 = .ok (.iaload, 1) := by decide +kernel
theorem dX6_lays_67 : decode cX6_lays 67 = .ok (.iconst 1, 1) := by decide +kernel
theorem dX6_lays_68 : decode cX6_lays 68 = .ok (.iadd, 1) := by decide +kernel
theorem dX6_lays_69 : decode cX6_lays 69 = .ok (.iastore, 1) := by decide +kernel
theorem dX6_lays_70 : decode cX6_lays 70 = .ok (.return_, 1) := by decide +kernel
theorem dX6_isYear_0 : decode cX6_isYear 0 = .ok (.iload_n 1, 1) := by decide +kernel
theorem dX6_isYear_1 : decode cX6_isYear 1 = .ok (.ifCond .lt 24, 3) := by decide +kernel
theorem dX6_isYear_4 : decode cX6_isYear 4 = .ok (.iload_n 1, 1) := by decide +kernel
theorem dX6_isYear_5 : decode cX6_isYear 5 = .ok (.iconst 2, 1) := by decide +kernel
theorem dX6_isYear_6 : decode cX6_isYear 6 = .ok (.if_icmp .gt 19, 3) := by decide +kernel
theorem dX6_isYear_9 : decode cX6_isYear 9 = .ok (.iload_n 2, 1) := by decide +kernel
theorem dX6_isYear_10 : decode cX6_isYear 10 = .ok (.iconst 1, 1) := by decide +kernel
theorem dX6_isYear_11 : decode cX6_isYear 11 = .ok (.if_icmp .lt 14, 3) := by decide +kernel
theorem dX6_isYear_14 : decode cX6_isYear 14 = .ok (.iload_n 2, 1) := by decide +kernel
theorem dX6_isYear_15 : decode cX6_isYear 15 = .ok (.sipush 2699, 3) := by decide +kernel
theorem dX6_isYear_18 : decode cX6_isYear 18 = .ok (.if_icmp .gt 7, 3) := by decide +kernel
theorem dX6_isYear_21 : decode cX6_isYear 21 = .ok (.iconst 1, 1) := by decide +kernel
theorem dX6_isYear_22 : decode cX6_isYear 22 = .ok (.goto 4, 3) := by decide +kernel
theorem dX6_isYear_25 : decode cX6_isYear 25 = .ok (.iconst 0, 1) := by decide +kernel
theorem dX6_isYear_26 : decode cX6_isYear 26 = .ok (.ireturn, 1) := by decide +kernel
set_option maxRecDepth 20000 in
theorem ggX6_spans_X6_isDay : GoodIn wsX6_spans wsX6_isDay := goodIn_r _ [7, 8] (by decide +kernel) (by decide +kernel)
set_option maxRecDepth 20000 in
theorem gX6_spans_X6_isDay : GoodIn wsX6_spans (va_wsS RX6 124 yX6_isDay wsX6_isDay) := goodIn_app (goodIn_of _ (by decide +kernel)) ggX6_spans_X6_isDay
set_option maxRecDepth 20000 in
theorem ggX6_spans_X6_lays : GoodIn wsX6_spans wsX6_lays := goodIn_r _ [12, 13, 14, 15, 16, 17, 18, 19, 20, 2, 1, 21, 22, 61, 62, 63, 64, 65, 66, 67, 68, 69, 70, 71, 72, 73, 74, 75, 76, 77, 78, 79, 80, 81, 82, 83, 84, 85, 86, 87, 88, 89, 90, 91, 92, 93, 94, 95, 96, 97, 98, 99, 100, 101, 102, 103] (by decide +kernel) (by decide +kernel)
set_option maxRecDepth 20000 in
theorem gX6_spans_X6_lays : GoodIn wsX6_spans (wsV RX6 161 RX6 yX6_lays wsX6_lays) := goodIn_app (goodIn_of _ (by decide +kernel)) ggX6_spans_X6_lays
set_option maxRecDepth 20000 in
theorem ggX6_spans_X6_dayOf : GoodIn wsX6_spans wsX6_dayOf := goodIn_r _ [25, 3, 26, 27, 6, 28, 29, 30, 31, 32, 33, 34, 35, 36, 37] (by decide +kernel) (by decide +kernel)
set_option maxRecDepth 20000 in
theorem gX6_spans_X6_dayOf : GoodIn wsX6_spans (va_wsS RX6 120 yX6_dayOf wsX6_dayOf) := goodIn_app (goodIn_of _ (by decide +kernel)) ggX6_spans_X6_dayOf
set_option maxRecDepth 20000 in
theorem ggX6_spans_X6_isYear : GoodIn wsX6_spans wsX6_isYear := goodIn_r _ [41] (by decide +kernel) (by decide +kernel)
set_option maxRecDepth 20000 in
theorem gX6_spans_X6_isYear : GoodIn wsX6_spans (wsV RX6 165 RX6 yX6_isYear wsX6_isYear) := goodIn_app (goodIn_of _ (by decide +kernel)) ggX6_spans_X6_isYear
set_option maxRecDepth 20000 in
theorem ggX6_spans_X6_monthsOf : GoodIn wsX6_spans wsX6_monthsOf := goodIn_r _ [28] (by decide +kernel) (by decide +kernel)
set_option maxRecDepth 20000 in
theorem gX6_spans_X6_monthsOf : GoodIn wsX6_spans (va_wsS RX6 106 yX6_monthsOf wsX6_monthsOf) := goodIn_app (goodIn_of _ (by decide +kernel)) ggX6_spans_X6_monthsOf
set_option maxRecDepth 20000 in
theorem ggX6_spans_X6_lengthOf : GoodIn wsX6_spans wsX6_lengthOf := goodIn_r _ [31, 32, 33, 6, 34] (by decide +kernel) (by decide +kernel)
set_option maxRecDepth 20000 in
theorem gX6_spans_X6_lengthOf : GoodIn wsX6_spans (va_wsS RX6 110 yX6_lengthOf wsX6_lengthOf) := goodIn_app (goodIn_of _ (by decide +kernel)) ggX6_spans_X6_lengthOf
set_option maxRecDepth 20000 in
theorem ggX6_spans_X6_yearFrom : GoodIn wsX6_spans wsX6_yearFrom := goodIn_r _ [37] (by decide +kernel) (by decide +kernel)
set_option maxRecDepth 20000 in
theorem gX6_spans_X6_yearFrom : GoodIn wsX6_spans (va_wsS RX6 115 yX6_yearFrom wsX6_yearFrom) := goodIn_app (goodIn_of _ (by decide +kernel)) ggX6_spans_X6_yearFrom
set_option maxRecDepth 20000 in
theorem ggX6_spans_X6_reign : GoodIn wsX6_spans wsX6_reign := goodIn_r _ [45, 46, 47, 48, 49, 50, 51, 52, 6, 53, 54, 55, 56, 3, 57, 58, 59, 60, 13, 14, 15, 16, 4, 5, 7, 8, 35, 36, 37, 29, 30, 31, 32, 33, 34, 23, 24, 25, 26, 27, 28, 9, 10, 11, 12, 17, 18, 19, 20, 2, 1, 21, 22, 61, 62, 63, 64, 65, 66, 67, 68, 69, 70, 71, 72, 73, 74, 75, 76, 77, 78, 79, 80, 81, 82, 83, 84, 85, 86, 87, 88, 89, 90, 91, 92, 93, 94, 95, 96, 97, 98, 99, 100, 101, 102, 103] (by decide +kernel) (by decide +kernel)
set_option maxRecDepth 20000 in
theorem gX6_spans_X6_reign : GoodIn wsX6_spans (wsV RX6 168 RX6 yX6_reign wsX6_reign) := goodIn_app (goodIn_of _ (by decide +kernel)) ggX6_spans_X6_reign
theorem dX6_spans_0 : decode cX6_spans 0 = .ok (.aload_n 0, 1) := by decide +kernel
theorem dX6_spans_1 : decode cX6_spans 1 = .ok (.getfield 50, 3) := by decide +kernel
theorem dX6_spans_4 : decode cX6_spans 4 = .ok (.aload_n 0, 1) := by decide +kernel
theorem dX6_spans_5 : decode cX6_spans 5 = .ok (.getfield 158, 3) := by decide +kernel
theorem dX6_spans_8 : decode cX6_spans 8 = .ok (.iconst 0, 1) := by decide +kernel
theorem dX6_spans_9 : decode cX6_spans 9 = .ok (.iastore, 1) := by decide +kernel
theorem dX6_spans_10 : decode cX6_spans 10 = .ok (.iload_n 1, 1) := by decide +kernel
theorem dX6_spans_11 : decode cX6_spans 11 = .ok (.tableswitch 199 0 4 #[33, 61, 107, 160, 190], 33) := by decide +kernel
theorem dX6_spans_44 : decode cX6_spans 44 = .ok (.iload_n 2, 1) := by decide +kernel
theorem dX6_spans_45 : decode cX6_spans 45 = .ok (.invokestatic 124, 3) := by decide +kernel
theorem dX6_spans_48 : decode cX6_spans 48 = .ok (.ifCond .eq 231, 3) := by decide +kernel
theorem dX6_spans_51 : decode cX6_spans 51 = .ok (.iload_n 3, 1) := by decide +kernel
theorem dX6_spans_52 : decode cX6_spans 52 = .ok (.invokestatic 124, 3) := by decide +kernel
theorem dX6_spans_55 : decode cX6_spans 55 = .ok (.ifCond .eq 224, 3) := by decide +kernel
theorem dX6_spans_58 : decode cX6_spans 58 = .ok (.iload_n 2, 1) := by decide +kernel
theorem dX6_spans_59 : decode cX6_spans 59 = .ok (.iload_n 3, 1) := by decide +kernel
theorem dX6_spans_60 : decode cX6_spans 60 = .ok (.if_icmp .gt 219, 3) := by decide +kernel
theorem dX6_spans_63 : decode cX6_spans 63 = .ok (.aload_n 0, 1) := by decide +kernel
theorem dX6_spans_64 : decode cX6_spans 64 = .ok (.iload_n 2, 1) := by decide +kernel
theorem dX6_spans_65 : decode cX6_spans 65 = .ok (.iload_n 3, 1) := by decide +kernel
theorem dX6_spans_66 : decode cX6_spans 66 = .ok (.invokevirtual 161, 3) := by decide +kernel
theorem dX6_spans_69 : decode cX6_spans 69 = .ok (.goto 210, 3) := by decide +kernel
theorem dX6_spans_72 : decode cX6_spans 72 = .ok (.iload 4, 2) := by decide +kernel
theorem dX6_spans_74 : decode cX6_spans 74 = .ok (.ifCond .ge 8, 3) := by decide +kernel
theorem dX6_spans_77 : decode cX6_spans 77 = .ok (.ldc 114, 2) := by decide +kernel
theorem dX6_spans_79 : decode cX6_spans 79 = .ok (.goto 18, 3) := by decide +kernel
theorem dX6_spans_82 : decode cX6_spans 82 = .ok (.iload_n 2, 1) := by decide +kernel
theorem dX6_spans_83 : decode cX6_spans 83 = .ok (.iload_n 3, 1) := by decide +kernel
theorem dX6_spans_84 : decode cX6_spans 84 = .ok (.iload 4, 2) := by decide +kernel
theorem dX6_spans_86 : decode cX6_spans 86 = .ok (.bipush 100, 2) := by decide +kernel
theorem dX6_spans_88 : decode cX6_spans 88 = .ok (.idiv, 1) := by decide +kernel
theorem dX6_spans_89 : decode cX6_spans 89 = .ok (.iload 4, 2) := by decide +kernel
theorem dX6_spans_91 : decode cX6_spans 91 = .ok (.bipush 100, 2) := by decide +kernel
theorem dX6_spans_93 : decode cX6_spans 93 = .ok (.irem, 1) := by decide +kernel
theorem dX6_spans_94 : decode cX6_spans 94 = .ok (.invokestatic 120, 3) := by decide +kernel
theorem dX6_spans_97 : decode cX6_spans 97 = .ok (.istore 5, 2) := by decide +kernel
theorem dX6_spans_99 : decode cX6_spans 99 = .ok (.iload 5, 2) := by decide +kernel
theorem dX6_spans_101 : decode cX6_spans 101 = .ok (.invokestatic 124, 3) := by decide +kernel
theorem dX6_spans_104 : decode cX6_spans 104 = .ok (.ifCond .eq 175, 3) := by decide +kernel
theorem dX6_spans_107 : decode cX6_spans 107 = .ok (.aload_n 0, 1) := by decide +kernel
theorem dX6_spans_108 : decode cX6_spans 108 = .ok (.iload 5, 2) := by decide +kernel
theorem dX6_spans_110 : decode cX6_spans 110 = .ok (.iload 5, 2) := by decide +kernel
theorem dX6_spans_112 : decode cX6_spans 112 = .ok (.invokevirtual 161, 3) := by decide +kernel
theorem dX6_spans_115 : decode cX6_spans 115 = .ok (.goto 164, 3) := by decide +kernel
theorem dX6_spans_118 : decode cX6_spans 118 = .ok (.aload_n 0, 1) := by decide +kernel
theorem dX6_spans_119 : decode cX6_spans 119 = .ok (.iload_n 2, 1) := by decide +kernel
theorem dX6_spans_120 : decode cX6_spans 120 = .ok (.iload_n 3, 1) := by decide +kernel
theorem dX6_spans_121 : decode cX6_spans 121 = .ok (.invokevirtual 165, 3) := by decide +kernel
theorem dX6_spans_124 : decode cX6_spans 124 = .ok (.ifCond .eq 155, 3) := by decide +kernel
theorem dX6_spans_127 : decode cX6_spans 127 = .ok (.iload 4, 2) := by decide +kernel
theorem dX6_spans_129 : decode cX6_spans 129 = .ok (.iconst 1, 1) := by decide +kernel
theorem dX6_spans_130 : decode cX6_spans 130 = .ok (.if_icmp .lt 149, 3) := by decide +kernel
theorem dX6_spans_133 : decode cX6_spans 133 = .ok (.iload 4, 2) := by decide +kernel
theorem dX6_spans_135 : decode cX6_spans 135 = .ok (.iload_n 2, 1) := by decide +kernel
theorem dX6_spans_136 : decode cX6_spans 136 = .ok (.invokestatic 106, 3) := by decide +kernel
theorem dX6_spans_139 : decode cX6_spans 139 = .ok (.if_icmp .gt 140, 3) := by decide +kernel
theorem dX6_spans_142 : decode cX6_spans 142 = .ok (.aload_n 0, 1) := by decide +kernel
theorem dX6_spans_143 : decode cX6_spans 143 = .ok (.iload_n 2, 1) := by decide +kernel
theorem dX6_spans_144 : decode cX6_spans 144 = .ok (.iload_n 3, 1) := by decide +kernel
theorem dX6_spans_145 : decode cX6_spans 145 = .ok (.iload 4, 2) := by decide +kernel
theorem dX6_spans_147 : decode cX6_spans 147 = .ok (.iconst 1, 1) := by decide +kernel
theorem dX6_spans_148 : decode cX6_spans 148 = .ok (.invokestatic 120, 3) := by decide +kernel
theorem dX6_spans_151 : decode cX6_spans 151 = .ok (.iload_n 2, 1) := by decide +kernel
theorem dX6_spans_152 : decode cX6_spans 152 = .ok (.iload_n 3, 1) := by decide +kernel
theorem dX6_spans_153 : decode cX6_spans 153 = .ok (.iload 4, 2) := by decide +kernel
theorem dX6_spans_155 : decode cX6_spans 155 = .ok (.iload_n 2, 1) := by decide +kernel
theorem dX6_spans_156 : decode cX6_spans 156 = .ok (.iload_n 3, 1) := by decide +kernel
theorem dX6_spans_157 : decode cX6_spans 157 = .ok (.iload 4, 2) := by decide +kernel
theorem dX6_spans_159 : decode cX6_spans 159 = .ok (.invokestatic 110, 3) := by decide +kernel
theorem dX6_spans_162 : decode cX6_spans 162 = .ok (.invokestatic 120, 3) := by decide +kernel
theorem dX6_spans_165 : decode cX6_spans 165 = .ok (.invokevirtual 161, 3) := by decide +kernel
theorem dX6_spans_168 : decode cX6_spans 168 = .ok (.goto 111, 3) := by decide +kernel
theorem dX6_spans_171 : decode cX6_spans 171 = .ok (.aload_n 0, 1) := by decide +kernel
theorem dX6_spans_172 : decode cX6_spans 172 = .ok (.iload_n 2, 1) := by decide +kernel
theorem dX6_spans_173 : decode cX6_spans 173 = .ok (.iload_n 3, 1) := by decide +kernel
theorem dX6_spans_174 : decode cX6_spans 174 = .ok (.invokevirtual 165, 3) := by decide +kernel
theorem dX6_spans_177 : decode cX6_spans 177 = .ok (.ifCond .eq 102, 3) := by decide +kernel
theorem dX6_spans_180 : decode cX6_spans 180 = .ok (.aload_n 0, 1) := by decide +kernel
theorem dX6_spans_181 : decode cX6_spans 181 = .ok (.iload_n 2, 1) := by decide +kernel
theorem dX6_spans_182 : decode cX6_spans 182 = .ok (.iload_n 3, 1) := by decide +kernel
theorem dX6_spans_183 : decode cX6_spans 183 = .ok (.invokestatic 115, 3) := by decide +kernel
theorem dX6_spans_186 : decode cX6_spans 186 = .ok (.iload_n 2, 1) := by decide +kernel
theorem dX6_spans_187 : decode cX6_spans 187 = .ok (.iload_n 3, 1) := by decide +kernel
theorem dX6_spans_188 : decode cX6_spans 188 = .ok (.iconst 1, 1) := by decide +kernel
theorem dX6_spans_189 : decode cX6_spans 189 = .ok (.iadd, 1) := by decide +kernel
theorem dX6_spans_190 : decode cX6_spans 190 = .ok (.invokestatic 115, 3) := by decide +kernel
theorem dX6_spans_193 : decode cX6_spans 193 = .ok (.iconst 1, 1) := by decide +kernel
theorem dX6_spans_194 : decode cX6_spans 194 = .ok (.isub, 1) := by decide +kernel
theorem dX6_spans_195 : decode cX6_spans 195 = .ok (.invokevirtual 161, 3) := by decide +kernel
theorem dX6_spans_198 : decode cX6_spans 198 = .ok (.goto 81, 3) := by decide +kernel
theorem dX6_spans_201 : decode cX6_spans 201 = .ok (.aload_n 0, 1) := by decide +kernel
theorem dX6_spans_202 : decode cX6_spans 202 = .ok (.iload_n 2, 1) := by decide +kernel
theorem dX6_spans_203 : decode cX6_spans 203 = .ok (.iload_n 3, 1) := by decide +kernel
theorem dX6_spans_204 : decode cX6_spans 204 = .ok (.invokevirtual 168, 3) := by decide +kernel
theorem dX6_spans_207 : decode cX6_spans 207 = .ok (.goto 72, 3) := by decide +kernel
theorem dX6_spans_210 : decode cX6_spans 210 = .ok (.iconst 0, 1) := by decide +kernel
theorem dX6_spans_211 : decode cX6_spans 211 = .ok (.istore 5, 2) := by decide +kernel
theorem dX6_spans_213 : decode cX6_spans 213 = .ok (.iload 5, 2) := by decide +kernel
theorem dX6_spans_215 : decode cX6_spans 215 = .ok (.bipush 10, 2) := by decide +kernel
theorem dX6_spans_217 : decode cX6_spans 217 = .ok (.if_icmp .ge 62, 3) := by decide +kernel
theorem dX6_spans_220 : decode cX6_spans 220 = .ok (.iload 4, 2) := by decide +kernel
theorem dX6_spans_222 : decode cX6_spans 222 = .ok (.ifCond .lt 57, 3) := by decide +kernel
theorem dX6_spans_225 : decode cX6_spans 225 = .ok (.iload_n 3, 1) := by decide +kernel
theorem dX6_spans_226 : decode cX6_spans 226 = .ok (.iconst 1, 1) := by decide +kernel
theorem dX6_spans_227 : decode cX6_spans 227 = .ok (.if_icmp .lt 52, 3) := by decide +kernel
theorem dX6_spans_230 : decode cX6_spans 230 = .ok (.iload_n 3, 1) := by decide +kernel
theorem dX6_spans_231 : decode cX6_spans 231 = .ok (.sipush 2699, 3) := by decide +kernel
theorem dX6_spans_234 : decode cX6_spans 234 = .ok (.if_icmp .gt 45, 3) := by decide +kernel
theorem dX6_spans_237 : decode cX6_spans 237 = .ok (.iload_n 2, 1) := by decide +kernel
theorem dX6_spans_238 : decode cX6_spans 238 = .ok (.iload_n 3, 1) := by decide +kernel
theorem dX6_spans_239 : decode cX6_spans 239 = .ok (.iload 5, 2) := by decide +kernel
theorem dX6_spans_241 : decode cX6_spans 241 = .ok (.iadd, 1) := by decide +kernel
theorem dX6_spans_242 : decode cX6_spans 242 = .ok (.iload 4, 2) := by decide +kernel
theorem dX6_spans_244 : decode cX6_spans 244 = .ok (.bipush 100, 2) := by decide +kernel
theorem dX6_spans_246 : decode cX6_spans 246 = .ok (.idiv, 1) := by decide +kernel
theorem dX6_spans_247 : decode cX6_spans 247 = .ok (.iload 4, 2) := by decide +kernel
theorem dX6_spans_249 : decode cX6_spans 249 = .ok (.bipush 100, 2) := by decide +kernel
theorem dX6_spans_251 : decode cX6_spans 251 = .ok (.irem, 1) := by decide +kernel
theorem dX6_spans_252 : decode cX6_spans 252 = .ok (.invokestatic 120, 3) := by decide +kernel
theorem dX6_spans_255 : decode cX6_spans 255 = .ok (.istore 6, 2) := by decide +kernel
theorem dX6_spans_257 : decode cX6_spans 257 = .ok (.iload 6, 2) := by decide +kernel
theorem dX6_spans_259 : decode cX6_spans 259 = .ok (.invokestatic 124, 3) := by decide +kernel
theorem dX6_spans_262 : decode cX6_spans 262 = .ok (.ifCond .eq 11, 3) := by decide +kernel
theorem dX6_spans_265 : decode cX6_spans 265 = .ok (.aload_n 0, 1) := by decide +kernel
theorem dX6_spans_266 : decode cX6_spans 266 = .ok (.iload 6, 2) := by decide +kernel
theorem dX6_spans_268 : decode cX6_spans 268 = .ok (.iload 6, 2) := by decide +kernel
theorem dX6_spans_270 : decode cX6_spans 270 = .ok (.invokevirtual 161, 3) := by decide +kernel
theorem dX6_spans_273 : decode cX6_spans 273 = .ok (.iinc 5 1, 3) := by decide +kernel
theorem dX6_spans_276 : decode cX6_spans 276 = .ok (.goto (-63), 3) := by decide +kernel
theorem dX6_spans_279 : decode cX6_spans 279 = .ok (.aload_n 0, 1) := by decide +kernel
theorem dX6_spans_280 : decode cX6_spans 280 = .ok (.getfield 50, 3) := by decide +kernel
theorem dX6_spans_283 : decode cX6_spans 283 = .ok (.aload_n 0, 1) := by decide +kernel
theorem dX6_spans_284 : decode cX6_spans 284 = .ok (.getfield 158, 3) := by decide +kernel
theorem dX6_spans_287 : decode cX6_spans 287 = .ok (.iaload, 1) := by decide +kernel
theorem dX6_spans_288 : decode cX6_spans 288 = .ok (.ifCond .le 7, 3) := by decide +kernel
theorem dX6_spans_291 : decode cX6_spans 291 = .ok (.iconst 1, 1) := by decide +kernel
theorem dX6_spans_292 : decode cX6_spans 292 = .ok (.goto 4, 3) := by decide +kernel
theorem dX6_spans_295 : decode cX6_spans 295 = .ok (.iconst 0, 1) := by decide +kernel
theorem dX6_spans_296 : decode cX6_spans 296 = .ok (.ireturn, 1) := by decide +kernel
set_option maxRecDepth 20000 in
theorem ggX6_reign_X6_behind : GoodIn wsX6_reign wsX6_behind := goodIn_r _ [9, 10, 11, 12, 13, 14, 15, 16, 8, 17, 18, 19, 20, 21, 22, 23, 24, 25, 26, 27, 28, 29, 30, 31, 32, 33, 34, 35, 36, 37, 38, 39, 40, 53, 54, 55, 56, 57, 58, 59, 60, 61, 62, 63, 64, 65, 66, 67, 68, 69, 70, 71, 72, 73, 74, 75, 76, 77, 78, 79, 80, 81, 82, 83, 84, 85, 86, 87, 88, 89, 90, 91, 92, 93, 94, 95] (by decide +kernel) (by decide +kernel)
set_option maxRecDepth 20000 in
theorem gX6_reign_X6_behind : GoodIn wsX6_reign (wsV RX6 145 RX6 yX6_behind wsX6_behind) := goodIn_app (goodIn_of _ (by decide +kernel)) ggX6_reign_X6_behind
set_option maxRecDepth 20000 in
theorem ggX6_reign_X6_lays : GoodIn wsX6_reign wsX6_lays := goodIn_r _ [44, 18, 19, 20, 21, 45, 46, 47, 48, 49, 50, 51, 52, 53, 54, 55, 56, 57, 58, 59, 60, 61, 62, 63, 64, 65, 66, 67, 68, 69, 70, 71, 72, 73, 74, 75, 76, 77, 78, 79, 80, 81, 82, 83, 84, 85, 86, 87, 88, 89, 90, 91, 92, 93, 94, 95] (by decide +kernel) (by decide +kernel)
set_option maxRecDepth 20000 in
theorem gX6_reign_X6_lays : GoodIn wsX6_reign (wsV RX6 161 RX6 yX6_lays wsX6_lays) := goodIn_app (goodIn_of _ (by decide +kernel)) ggX6_reign_X6_lays
theorem dX6_reign_0 : decode cX6_reign 0 = .ok (.iload_n 1, 1) := by decide +kernel
theorem dX6_reign_1 : decode cX6_reign 1 = .ok (.ifCond .lt 22, 3) := by decide +kernel
theorem dX6_reign_4 : decode cX6_reign 4 = .ok (.iload_n 1, 1) := by decide +kernel
theorem dX6_reign_5 : decode cX6_reign 5 = .ok (.aload_n 0, 1) := by decide +kernel
theorem dX6_reign_6 : decode cX6_reign 6 = .ok (.getfield 148, 3) := by decide +kernel
theorem dX6_reign_9 : decode cX6_reign 9 = .ok (.if_icmp .ge 14, 3) := by decide +kernel
theorem dX6_reign_12 : decode cX6_reign 12 = .ok (.iload_n 2, 1) := by decide +kernel
theorem dX6_reign_13 : decode cX6_reign 13 = .ok (.iconst 1, 1) := by decide +kernel
theorem dX6_reign_14 : decode cX6_reign 14 = .ok (.if_icmp .lt 9, 3) := by decide +kernel
theorem dX6_reign_17 : decode cX6_reign 17 = .ok (.iload_n 2, 1) := by decide +kernel
theorem dX6_reign_18 : decode cX6_reign 18 = .ok (.bipush 60, 2) := by decide +kernel
theorem dX6_reign_20 : decode cX6_reign 20 = .ok (.if_icmp .le 4, 3) := by decide +kernel
theorem dX6_reign_23 : decode cX6_reign 23 = .ok (.return_, 1) := by decide +kernel
theorem dX6_reign_24 : decode cX6_reign 24 = .ok (.aload_n 0, 1) := by decide +kernel
theorem dX6_reign_25 : decode cX6_reign 25 = .ok (.aload_n 0, 1) := by decide +kernel
theorem dX6_reign_26 : decode cX6_reign 26 = .ok (.getfield 7, 3) := by decide +kernel
theorem dX6_reign_29 : decode cX6_reign 29 = .ok (.iload_n 1, 1) := by decide +kernel
theorem dX6_reign_30 : decode cX6_reign 30 = .ok (.iaload, 1) := by decide +kernel
theorem dX6_reign_31 : decode cX6_reign 31 = .ok (.aload_n 0, 1) := by decide +kernel
theorem dX6_reign_32 : decode cX6_reign 32 = .ok (.getfield 13, 3) := by decide +kernel
theorem dX6_reign_35 : decode cX6_reign 35 = .ok (.iload_n 1, 1) := by decide +kernel
theorem dX6_reign_36 : decode cX6_reign 36 = .ok (.iaload, 1) := by decide +kernel
theorem dX6_reign_37 : decode cX6_reign 37 = .ok (.iload_n 2, 1) := by decide +kernel
theorem dX6_reign_38 : decode cX6_reign 38 = .ok (.iconst 1, 1) := by decide +kernel
theorem dX6_reign_39 : decode cX6_reign 39 = .ok (.isub, 1) := by decide +kernel
theorem dX6_reign_40 : decode cX6_reign 40 = .ok (.invokevirtual 145, 3) := by decide +kernel
theorem dX6_reign_43 : decode cX6_reign 43 = .ok (.istore_n 3, 1) := by decide +kernel
theorem dX6_reign_44 : decode cX6_reign 44 = .ok (.aload_n 0, 1) := by decide +kernel
theorem dX6_reign_45 : decode cX6_reign 45 = .ok (.aload_n 0, 1) := by decide +kernel
theorem dX6_reign_46 : decode cX6_reign 46 = .ok (.getfield 7, 3) := by decide +kernel
theorem dX6_reign_49 : decode cX6_reign 49 = .ok (.iload_n 1, 1) := by decide +kernel
theorem dX6_reign_50 : decode cX6_reign 50 = .ok (.iaload, 1) := by decide +kernel
theorem dX6_reign_51 : decode cX6_reign 51 = .ok (.aload_n 0, 1) := by decide +kernel
theorem dX6_reign_52 : decode cX6_reign 52 = .ok (.getfield 16, 3) := by decide +kernel
theorem dX6_reign_55 : decode cX6_reign 55 = .ok (.iload_n 1, 1) := by decide +kernel
theorem dX6_reign_56 : decode cX6_reign 56 = .ok (.iaload, 1) := by decide +kernel
theorem dX6_reign_57 : decode cX6_reign 57 = .ok (.iload_n 2, 1) := by decide +kernel
theorem dX6_reign_58 : decode cX6_reign 58 = .ok (.invokevirtual 145, 3) := by decide +kernel
theorem dX6_reign_61 : decode cX6_reign 61 = .ok (.istore 4, 2) := by decide +kernel
theorem dX6_reign_63 : decode cX6_reign 63 = .ok (.iload_n 3, 1) := by decide +kernel
theorem dX6_reign_64 : decode cX6_reign 64 = .ok (.iconst (-1), 1) := by decide +kernel
theorem dX6_reign_65 : decode cX6_reign 65 = .ok (.if_icmp .eq 18, 3) := by decide +kernel
theorem dX6_reign_68 : decode cX6_reign 68 = .ok (.iload 4, 2) := by decide +kernel
theorem dX6_reign_70 : decode cX6_reign 70 = .ok (.iconst (-1), 1) := by decide +kernel
theorem dX6_reign_71 : decode cX6_reign 71 = .ok (.if_icmp .eq 12, 3) := by decide +kernel
theorem dX6_reign_74 : decode cX6_reign 74 = .ok (.aload_n 0, 1) := by decide +kernel
theorem dX6_reign_75 : decode cX6_reign 75 = .ok (.iload_n 3, 1) := by decide +kernel
theorem dX6_reign_76 : decode cX6_reign 76 = .ok (.iload 4, 2) := by decide +kernel
theorem dX6_reign_78 : decode cX6_reign 78 = .ok (.iconst 1, 1) := by decide +kernel
theorem dX6_reign_79 : decode cX6_reign 79 = .ok (.isub, 1) := by decide +kernel
theorem dX6_reign_80 : decode cX6_reign 80 = .ok (.invokevirtual 161, 3) := by decide +kernel
theorem dX6_reign_83 : decode cX6_reign 83 = .ok (.return_, 1) := by decide +kernel
set_option maxRecDepth 20000 in
theorem ggX6_canSay_X6_spans : GoodIn wsX6_canSay wsX6_spans := goodIn_r _ [10, 1, 2, 11, 12, 13, 9, 14, 15, 16, 17, 18, 19, 20, 21, 22, 23, 24, 25, 26, 27, 28, 29, 30, 31, 32, 33, 34, 35, 36, 37, 38, 39, 40, 41, 42, 43, 44, 45, 46, 47, 48, 49, 50, 51, 52, 53, 54, 55, 56, 57, 58, 59, 60, 61, 62, 63, 64, 65, 66, 67, 68, 69, 70, 71, 72, 73, 74, 75, 76, 77, 78, 79, 80, 81, 82, 83, 84, 85, 86, 87, 88, 89, 90, 91, 92, 93, 94, 95, 96, 97, 98, 99, 100, 101, 102, 103, 104, 105, 106, 107, 108, 109, 110] (by decide +kernel) (by decide +kernel)
set_option maxRecDepth 20000 in
theorem gX6_canSay_X6_spans : GoodIn wsX6_canSay (wsV RX6 171 RX6 yX6_spans wsX6_spans) := goodIn_app (goodIn_of _ (by decide +kernel)) ggX6_canSay_X6_spans
theorem dX6_canSay_0 : decode cX6_canSay 0 = .ok (.iload_n 2, 1) := by decide +kernel
theorem dX6_canSay_1 : decode cX6_canSay 1 = .ok (.ifCond .lt 9, 3) := by decide +kernel
theorem dX6_canSay_4 : decode cX6_canSay 4 = .ok (.iload_n 2, 1) := by decide +kernel
theorem dX6_canSay_5 : decode cX6_canSay 5 = .ok (.bipush 6, 2) := by decide +kernel
theorem dX6_canSay_7 : decode cX6_canSay 7 = .ok (.if_icmp .le 5, 3) := by decide +kernel
theorem dX6_canSay_10 : decode cX6_canSay 10 = .ok (.iconst 0, 1) := by decide +kernel
theorem dX6_canSay_11 : decode cX6_canSay 11 = .ok (.ireturn, 1) := by decide +kernel
theorem dX6_canSay_12 : decode cX6_canSay 12 = .ok (.iload_n 2, 1) := by decide +kernel
theorem dX6_canSay_13 : decode cX6_canSay 13 = .ok (.bipush 6, 2) := by decide +kernel
theorem dX6_canSay_15 : decode cX6_canSay 15 = .ok (.if_icmp .ge 14, 3) := by decide +kernel
theorem dX6_canSay_18 : decode cX6_canSay 18 = .ok (.aload_n 0, 1) := by decide +kernel
theorem dX6_canSay_19 : decode cX6_canSay 19 = .ok (.iload_n 2, 1) := by decide +kernel
theorem dX6_canSay_20 : decode cX6_canSay 20 = .ok (.iload_n 3, 1) := by decide +kernel
theorem dX6_canSay_21 : decode cX6_canSay 21 = .ok (.iload 4, 2) := by decide +kernel
theorem dX6_canSay_23 : decode cX6_canSay 23 = .ok (.iload 5, 2) := by decide +kernel
theorem dX6_canSay_25 : decode cX6_canSay 25 = .ok (.invokevirtual 171, 3) := by decide +kernel
theorem dX6_canSay_28 : decode cX6_canSay 28 = .ok (.ireturn, 1) := by decide +kernel
theorem dX6_canSay_29 : decode cX6_canSay 29 = .ok (.aload_n 0, 1) := by decide +kernel
theorem dX6_canSay_30 : decode cX6_canSay 30 = .ok (.getfield 50, 3) := by decide +kernel
theorem dX6_canSay_33 : decode cX6_canSay 33 = .ok (.aload_n 0, 1) := by decide +kernel
theorem dX6_canSay_34 : decode cX6_canSay 34 = .ok (.getfield 158, 3) := by decide +kernel
theorem dX6_canSay_37 : decode cX6_canSay 37 = .ok (.iconst 0, 1) := by decide +kernel
theorem dX6_canSay_38 : decode cX6_canSay 38 = .ok (.iastore, 1) := by decide +kernel
theorem dX6_canSay_39 : decode cX6_canSay 39 = .ok (.iload_n 3, 1) := by decide +kernel
theorem dX6_canSay_40 : decode cX6_canSay 40 = .ok (.ldc 175, 2) := by decide +kernel
theorem dX6_canSay_42 : decode cX6_canSay 42 = .ok (.if_icmp .lt 40, 3) := by decide +kernel
theorem dX6_canSay_45 : decode cX6_canSay 45 = .ok (.iload 4, 2) := by decide +kernel
theorem dX6_canSay_47 : decode cX6_canSay 47 = .ok (.ldc 176, 2) := by decide +kernel
theorem dX6_canSay_49 : decode cX6_canSay 49 = .ok (.if_icmp .gt 33, 3) := by decide +kernel
theorem dX6_canSay_52 : decode cX6_canSay 52 = .ok (.iload_n 3, 1) := by decide +kernel
theorem dX6_canSay_53 : decode cX6_canSay 53 = .ok (.iload 4, 2) := by decide +kernel
theorem dX6_canSay_55 : decode cX6_canSay 55 = .ok (.if_icmp .gt 27, 3) := by decide +kernel
theorem dX6_canSay_58 : decode cX6_canSay 58 = .ok (.iload 5, 2) := by decide +kernel
theorem dX6_canSay_60 : decode cX6_canSay 60 = .ok (.ifCond .lt 22, 3) := by decide +kernel
theorem dX6_canSay_63 : decode cX6_canSay 63 = .ok (.iload 5, 2) := by decide +kernel
theorem dX6_canSay_65 : decode cX6_canSay 65 = .ok (.aload_n 0, 1) := by decide +kernel
theorem dX6_canSay_66 : decode cX6_canSay 66 = .ok (.getfield 151, 3) := by decide +kernel
theorem dX6_canSay_69 : decode cX6_canSay 69 = .ok (.if_icmp .ge 13, 3) := by decide +kernel
theorem dX6_canSay_72 : decode cX6_canSay 72 = .ok (.iload 5, 2) := by decide +kernel
theorem dX6_canSay_74 : decode cX6_canSay 74 = .ok (.iload_n 1, 1) := by decide +kernel
theorem dX6_canSay_75 : decode cX6_canSay 75 = .ok (.if_icmp .eq 7, 3) := by decide +kernel
theorem dX6_canSay_78 : decode cX6_canSay 78 = .ok (.iconst 1, 1) := by decide +kernel
theorem dX6_canSay_79 : decode cX6_canSay 79 = .ok (.goto 4, 3) := by decide +kernel
theorem dX6_canSay_82 : decode cX6_canSay 82 = .ok (.iconst 0, 1) := by decide +kernel
theorem dX6_canSay_83 : decode cX6_canSay 83 = .ok (.ireturn, 1) := by decide +kernel
set_option maxRecDepth 20000 in
theorem ggX6_say_X6_canSay : GoodIn wsX6_say wsX6_canSay := goodIn_r _ [16, 17, 3, 18, 19, 2, 20, 21, 22, 15, 23, 24, 25, 26, 27, 28, 29, 30, 31, 32, 33, 34, 35, 36, 37, 38, 39, 40, 41, 42, 43, 44, 45, 46, 47, 48, 49, 50, 51, 52, 53, 54, 55, 56, 57, 58, 59, 60, 61, 62, 63, 64, 65, 66, 67, 68, 69, 70, 71, 72, 73, 74, 75, 76, 77, 78, 79, 80, 81, 82, 83, 84, 85, 86, 87, 88, 89, 90, 91, 92, 93, 94, 95, 96, 97, 98, 99, 100, 101, 102, 103, 104, 105, 106, 107, 108, 109, 110, 111, 112, 113, 114, 115, 116, 117, 118, 119, 120, 121, 122, 123] (by decide +kernel) (by decide +kernel)
set_option maxRecDepth 20000 in
theorem gX6_say_X6_canSay : GoodIn wsX6_say (wsV RX6 177 RX6 yX6_canSay wsX6_canSay) := goodIn_app (goodIn_of _ (by decide +kernel)) ggX6_say_X6_canSay
theorem dX6_say_0 : decode cX6_say 0 = .ok (.aload_n 0, 1) := by decide +kernel
theorem dX6_say_1 : decode cX6_say 1 = .ok (.iconst 0, 1) := by decide +kernel
theorem dX6_say_2 : decode cX6_say 2 = .ok (.putfield 98, 3) := by decide +kernel
theorem dX6_say_5 : decode cX6_say 5 = .ok (.iload_n 1, 1) := by decide +kernel
theorem dX6_say_6 : decode cX6_say 6 = .ok (.ifCond .lt 47, 3) := by decide +kernel
theorem dX6_say_9 : decode cX6_say 9 = .ok (.iload_n 1, 1) := by decide +kernel
theorem dX6_say_10 : decode cX6_say 10 = .ok (.aload_n 0, 1) := by decide +kernel
theorem dX6_say_11 : decode cX6_say 11 = .ok (.getfield 151, 3) := by decide +kernel
theorem dX6_say_14 : decode cX6_say 14 = .ok (.if_icmp .ge 39, 3) := by decide +kernel
theorem dX6_say_17 : decode cX6_say 17 = .ok (.iload 6, 2) := by decide +kernel
theorem dX6_say_19 : decode cX6_say 19 = .ok (.iconst 1, 1) := by decide +kernel
theorem dX6_say_20 : decode cX6_say 20 = .ok (.if_icmp .lt 33, 3) := by decide +kernel
theorem dX6_say_23 : decode cX6_say 23 = .ok (.iload 6, 2) := by decide +kernel
theorem dX6_say_25 : decode cX6_say 25 = .ok (.bipush 100, 2) := by decide +kernel
theorem dX6_say_27 : decode cX6_say 27 = .ok (.if_icmp .gt 26, 3) := by decide +kernel
theorem dX6_say_30 : decode cX6_say 30 = .ok (.aload_n 0, 1) := by decide +kernel
theorem dX6_say_31 : decode cX6_say 31 = .ok (.getfield 158, 3) := by decide +kernel
theorem dX6_say_34 : decode cX6_say 34 = .ok (.bipush 12, 2) := by decide +kernel
theorem dX6_say_36 : decode cX6_say 36 = .ok (.if_icmp .eq 17, 3) := by decide +kernel
theorem dX6_say_39 : decode cX6_say 39 = .ok (.aload_n 0, 1) := by decide +kernel
theorem dX6_say_40 : decode cX6_say 40 = .ok (.iload_n 1, 1) := by decide +kernel
theorem dX6_say_41 : decode cX6_say 41 = .ok (.iload_n 2, 1) := by decide +kernel
theorem dX6_say_42 : decode cX6_say 42 = .ok (.iload_n 3, 1) := by decide +kernel
theorem dX6_say_43 : decode cX6_say 43 = .ok (.iload 4, 2) := by decide +kernel
theorem dX6_say_45 : decode cX6_say 45 = .ok (.iload 5, 2) := by decide +kernel
theorem dX6_say_47 : decode cX6_say 47 = .ok (.invokevirtual 177, 3) := by decide +kernel
theorem dX6_say_50 : decode cX6_say 50 = .ok (.ifCond .ne 5, 3) := by decide +kernel
theorem dX6_say_53 : decode cX6_say 53 = .ok (.iconst (-1), 1) := by decide +kernel
theorem dX6_say_54 : decode cX6_say 54 = .ok (.ireturn, 1) := by decide +kernel
theorem dX6_say_55 : decode cX6_say 55 = .ok (.aload_n 0, 1) := by decide +kernel
theorem dX6_say_56 : decode cX6_say 56 = .ok (.getfield 19, 3) := by decide +kernel
theorem dX6_say_59 : decode cX6_say 59 = .ok (.aload_n 0, 1) := by decide +kernel
theorem dX6_say_60 : decode cX6_say 60 = .ok (.getfield 158, 3) := by decide +kernel
theorem dX6_say_63 : decode cX6_say 63 = .ok (.iload_n 1, 1) := by decide +kernel
theorem dX6_say_64 : decode cX6_say 64 = .ok (.iastore, 1) := by decide +kernel
theorem dX6_say_65 : decode cX6_say 65 = .ok (.aload_n 0, 1) := by decide +kernel
theorem dX6_say_66 : decode cX6_say 66 = .ok (.getfield 22, 3) := by decide +kernel
theorem dX6_say_69 : decode cX6_say 69 = .ok (.aload_n 0, 1) := by decide +kernel
theorem dX6_say_70 : decode cX6_say 70 = .ok (.getfield 158, 3) := by decide +kernel
theorem dX6_say_73 : decode cX6_say 73 = .ok (.iload_n 2, 1) := by decide +kernel
theorem dX6_say_74 : decode cX6_say 74 = .ok (.iastore, 1) := by decide +kernel
theorem dX6_say_75 : decode cX6_say 75 = .ok (.aload_n 0, 1) := by decide +kernel
theorem dX6_say_76 : decode cX6_say 76 = .ok (.getfield 25, 3) := by decide +kernel
theorem dX6_say_79 : decode cX6_say 79 = .ok (.aload_n 0, 1) := by decide +kernel
theorem dX6_say_80 : decode cX6_say 80 = .ok (.getfield 158, 3) := by decide +kernel
theorem dX6_say_83 : decode cX6_say 83 = .ok (.iload_n 3, 1) := by decide +kernel
theorem dX6_say_84 : decode cX6_say 84 = .ok (.iastore, 1) := by decide +kernel
theorem dX6_say_85 : decode cX6_say 85 = .ok (.aload_n 0, 1) := by decide +kernel
theorem dX6_say_86 : decode cX6_say 86 = .ok (.getfield 28, 3) := by decide +kernel
theorem dX6_say_89 : decode cX6_say 89 = .ok (.aload_n 0, 1) := by decide +kernel
theorem dX6_say_90 : decode cX6_say 90 = .ok (.getfield 158, 3) := by decide +kernel
theorem dX6_say_93 : decode cX6_say 93 = .ok (.iload 4, 2) := by decide +kernel
theorem dX6_say_95 : decode cX6_say 95 = .ok (.iastore, 1) := by decide +kernel
theorem dX6_say_96 : decode cX6_say 96 = .ok (.aload_n 0, 1) := by decide +kernel
theorem dX6_say_97 : decode cX6_say 97 = .ok (.getfield 31, 3) := by decide +kernel
theorem dX6_say_100 : decode cX6_say 100 = .ok (.aload_n 0, 1) := by decide +kernel
theorem dX6_say_101 : decode cX6_say 101 = .ok (.getfield 158, 3) := by decide +kernel
theorem dX6_say_104 : decode cX6_say 104 = .ok (.iload 5, 2) := by decide +kernel
theorem dX6_say_106 : decode cX6_say 106 = .ok (.iastore, 1) := by decide +kernel
theorem dX6_say_107 : decode cX6_say 107 = .ok (.aload_n 0, 1) := by decide +kernel
theorem dX6_say_108 : decode cX6_say 108 = .ok (.getfield 34, 3) := by decide +kernel
theorem dX6_say_111 : decode cX6_say 111 = .ok (.aload_n 0, 1) := by decide +kernel
theorem dX6_say_112 : decode cX6_say 112 = .ok (.getfield 158, 3) := by decide +kernel
theorem dX6_say_115 : decode cX6_say 115 = .ok (.iload 6, 2) := by decide +kernel
theorem dX6_say_117 : decode cX6_say 117 = .ok (.iastore, 1) := by decide +kernel
theorem dX6_say_118 : decode cX6_say 118 = .ok (.aload_n 0, 1) := by decide +kernel
theorem dX6_say_119 : decode cX6_say 119 = .ok (.getfield 37, 3) := by decide +kernel
theorem dX6_say_122 : decode cX6_say 122 = .ok (.aload_n 0, 1) := by decide +kernel
theorem dX6_say_123 : decode cX6_say 123 = .ok (.getfield 158, 3) := by decide +kernel
theorem dX6_say_126 : decode cX6_say 126 = .ok (.iconst (-1), 1) := by decide +kernel
theorem dX6_say_127 : decode cX6_say 127 = .ok (.iastore, 1) := by decide +kernel
theorem dX6_say_128 : decode cX6_say 128 = .ok (.aload_n 0, 1) := by decide +kernel
theorem dX6_say_129 : decode cX6_say 129 = .ok (.getfield 40, 3) := by decide +kernel
theorem dX6_say_132 : decode cX6_say 132 = .ok (.aload_n 0, 1) := by decide +kernel
theorem dX6_say_133 : decode cX6_say 133 = .ok (.getfield 158, 3) := by decide +kernel
theorem dX6_say_136 : decode cX6_say 136 = .ok (.iconst 1, 1) := by decide +kernel
theorem dX6_say_137 : decode cX6_say 137 = .ok (.bastore, 1) := by decide +kernel
theorem dX6_say_138 : decode cX6_say 138 = .ok (.aload_n 0, 1) := by decide +kernel
theorem dX6_say_139 : decode cX6_say 139 = .ok (.dup, 1) := by decide +kernel
theorem dX6_say_140 : decode cX6_say 140 = .ok (.getfield 158, 3) := by decide +kernel
theorem dX6_say_143 : decode cX6_say 143 = .ok (.iconst 1, 1) := by decide +kernel
theorem dX6_say_144 : decode cX6_say 144 = .ok (.iadd, 1) := by decide +kernel
theorem dX6_say_145 : decode cX6_say 145 = .ok (.putfield 158, 3) := by decide +kernel
theorem dX6_say_148 : decode cX6_say 148 = .ok (.aload_n 0, 1) := by decide +kernel
theorem dX6_say_149 : decode cX6_say 149 = .ok (.getfield 158, 3) := by decide +kernel
theorem dX6_say_152 : decode cX6_say 152 = .ok (.iconst 1, 1) := by decide +kernel
theorem dX6_say_153 : decode cX6_say 153 = .ok (.isub, 1) := by decide +kernel
theorem dX6_say_154 : decode cX6_say 154 = .ok (.ireturn, 1) := by decide +kernel
