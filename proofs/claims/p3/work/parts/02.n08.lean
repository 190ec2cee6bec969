set_option maxRecDepth 20000 in
theorem ggX6_rootsTaken_X6_rootOf : GoodIn wsX6_rootsTaken wsX6_rootOf := goodIn_r _ [8, 9, 10, 11, 12, 13, 14, 15, 16, 17, 18, 19, 20, 21, 22, 23, 24, 25, 26, 27, 28, 29, 30, 31, 32, 33, 34, 35, 36, 37, 38, 39, 40, 41, 42, 43, 44, 45, 46, 47, 48, 49, 50, 51, 52] (by decide +kernel) (by decide +kernel)
set_option maxRecDepth 20000 in
theorem gX6_rootsTaken_X6_rootOf : GoodIn wsX6_rootsTaken (wsV RX6 184 RX6 yX6_rootOf wsX6_rootOf) := goodIn_app (goodIn_of _ (by decide +kernel)) ggX6_rootsTaken_X6_rootOf
theorem dX6_rootsTaken_0 : decode cX6_rootsTaken 0 = .ok (.iconst 0, 1) := by decide +kernel
theorem dX6_rootsTaken_1 : decode cX6_rootsTaken 1 = .ok (.istore_n 1, 1) := by decide +kernel
theorem dX6_rootsTaken_2 : decode cX6_rootsTaken 2 = .ok (.iconst 0, 1) := by decide +kernel
theorem dX6_rootsTaken_3 : decode cX6_rootsTaken 3 = .ok (.istore_n 2, 1) := by decide +kernel
theorem dX6_rootsTaken_4 : decode cX6_rootsTaken 4 = .ok (.iload_n 2, 1) := by decide +kernel
theorem dX6_rootsTaken_5 : decode cX6_rootsTaken 5 = .ok (.aload_n 0, 1) := by decide +kernel
theorem dX6_rootsTaken_6 : decode cX6_rootsTaken 6 = .ok (.getfield 158, 3) := by decide +kernel
theorem dX6_rootsTaken_9 : decode cX6_rootsTaken 9 = .ok (.if_icmp .ge 76, 3) := by decide +kernel
theorem dX6_rootsTaken_12 : decode cX6_rootsTaken 12 = .ok (.iconst 0, 1) := by decide +kernel
theorem dX6_rootsTaken_13 : decode cX6_rootsTaken 13 = .ok (.istore_n 3, 1) := by decide +kernel
theorem dX6_rootsTaken_14 : decode cX6_rootsTaken 14 = .ok (.iconst 0, 1) := by decide +kernel
theorem dX6_rootsTaken_15 : decode cX6_rootsTaken 15 = .ok (.istore 4, 2) := by decide +kernel
theorem dX6_rootsTaken_17 : decode cX6_rootsTaken 17 = .ok (.iload 4, 2) := by decide +kernel
theorem dX6_rootsTaken_19 : decode cX6_rootsTaken 19 = .ok (.aload_n 0, 1) := by decide +kernel
theorem dX6_rootsTaken_20 : decode cX6_rootsTaken 20 = .ok (.getfield 158, 3) := by decide +kernel
theorem dX6_rootsTaken_23 : decode cX6_rootsTaken 23 = .ok (.if_icmp .ge 39, 3) := by decide +kernel
theorem dX6_rootsTaken_26 : decode cX6_rootsTaken 26 = .ok (.iload_n 3, 1) := by decide +kernel
theorem dX6_rootsTaken_27 : decode cX6_rootsTaken 27 = .ok (.ifCond .ne 23, 3) := by decide +kernel
theorem dX6_rootsTaken_30 : decode cX6_rootsTaken 30 = .ok (.aload_n 0, 1) := by decide +kernel
theorem dX6_rootsTaken_31 : decode cX6_rootsTaken 31 = .ok (.getfield 40, 3) := by decide +kernel
theorem dX6_rootsTaken_34 : decode cX6_rootsTaken 34 = .ok (.iload 4, 2) := by decide +kernel
theorem dX6_rootsTaken_36 : decode cX6_rootsTaken 36 = .ok (.baload, 1) := by decide +kernel
theorem dX6_rootsTaken_37 : decode cX6_rootsTaken 37 = .ok (.ifCond .eq 17, 3) := by decide +kernel
theorem dX6_rootsTaken_40 : decode cX6_rootsTaken 40 = .ok (.aload_n 0, 1) := by decide +kernel
theorem dX6_rootsTaken_41 : decode cX6_rootsTaken 41 = .ok (.iload 4, 2) := by decide +kernel
theorem dX6_rootsTaken_43 : decode cX6_rootsTaken 43 = .ok (.invokevirtual 184, 3) := by decide +kernel
theorem dX6_rootsTaken_46 : decode cX6_rootsTaken 46 = .ok (.iload_n 2, 1) := by decide +kernel
theorem dX6_rootsTaken_47 : decode cX6_rootsTaken 47 = .ok (.if_icmp .ne 7, 3) := by decide +kernel
theorem dX6_rootsTaken_50 : decode cX6_rootsTaken 50 = .ok (.iconst 1, 1) := by decide +kernel
theorem dX6_rootsTaken_51 : decode cX6_rootsTaken 51 = .ok (.goto 4, 3) := by decide +kernel
theorem dX6_rootsTaken_54 : decode cX6_rootsTaken 54 = .ok (.iconst 0, 1) := by decide +kernel
theorem dX6_rootsTaken_55 : decode cX6_rootsTaken 55 = .ok (.istore_n 3, 1) := by decide +kernel
theorem dX6_rootsTaken_56 : decode cX6_rootsTaken 56 = .ok (.iinc 4 1, 3) := by decide +kernel
theorem dX6_rootsTaken_59 : decode cX6_rootsTaken 59 = .ok (.goto (-42), 3) := by decide +kernel
theorem dX6_rootsTaken_62 : decode cX6_rootsTaken 62 = .ok (.iload_n 3, 1) := by decide +kernel
theorem dX6_rootsTaken_63 : decode cX6_rootsTaken 63 = .ok (.ifCond .ne 6, 3) := by decide +kernel
theorem dX6_rootsTaken_66 : decode cX6_rootsTaken 66 = .ok (.goto 13, 3) := by decide +kernel
theorem dX6_rootsTaken_69 : decode cX6_rootsTaken 69 = .ok (.aload_n 0, 1) := by decide +kernel
theorem dX6_rootsTaken_70 : decode cX6_rootsTaken 70 = .ok (.getfield 89, 3) := by decide +kernel
theorem dX6_rootsTaken_73 : decode cX6_rootsTaken 73 = .ok (.iload_n 1, 1) := by decide +kernel
theorem dX6_rootsTaken_74 : decode cX6_rootsTaken 74 = .ok (.iload_n 2, 1) := by decide +kernel
theorem dX6_rootsTaken_75 : decode cX6_rootsTaken 75 = .ok (.iastore, 1) := by decide +kernel
theorem dX6_rootsTaken_76 : decode cX6_rootsTaken 76 = .ok (.iinc 1 1, 3) := by decide +kernel
theorem dX6_rootsTaken_79 : decode cX6_rootsTaken 79 = .ok (.iinc 2 1, 3) := by decide +kernel
theorem dX6_rootsTaken_82 : decode cX6_rootsTaken 82 = .ok (.goto (-78), 3) := by decide +kernel
theorem dX6_rootsTaken_85 : decode cX6_rootsTaken 85 = .ok (.iload_n 1, 1) := by decide +kernel
theorem dX6_rootsTaken_86 : decode cX6_rootsTaken 86 = .ok (.ireturn, 1) := by decide +kernel
set_option maxRecDepth 20000 in
theorem ggX6_slips_X6_rootsTaken : GoodIn wsX6_slips wsX6_rootsTaken := goodIn_r _ [14, 15, 16, 3, 17, 18, 19, 13, 20, 21, 96, 97, 98, 99, 100, 101, 102, 103, 104, 105, 106, 107, 108, 109, 110, 111, 112, 113, 114, 115, 116, 117, 118, 119, 120, 121, 122, 123, 124, 125, 126, 127, 128, 129, 130, 131, 132, 133, 134, 135, 136, 137, 138] (by decide +kernel) (by decide +kernel)
set_option maxRecDepth 20000 in
theorem gX6_slips_X6_rootsTaken : GoodIn wsX6_slips (wsV RX6 251 RX6 yX6_rootsTaken wsX6_rootsTaken) := goodIn_app (goodIn_of _ (by decide +kernel)) ggX6_slips_X6_rootsTaken
set_option maxRecDepth 20000 in
theorem ggX6_slips_X6_takenAll : GoodIn wsX6_slips wsX6_takenAll := goodIn_r _ [25, 15, 16, 96, 97, 98, 99, 100, 101, 102, 103, 104, 105, 106, 107, 108, 109, 110, 111, 112, 113, 114, 115, 116, 117, 118, 119, 120, 121, 122, 123, 124, 125, 126, 127, 128, 129, 130, 131, 132, 133, 134, 135, 136, 137, 138] (by decide +kernel) (by decide +kernel)
set_option maxRecDepth 20000 in
theorem gX6_slips_X6_takenAll : GoodIn wsX6_slips (wsV RX6 231 RX6 yX6_takenAll wsX6_takenAll) := goodIn_app (goodIn_of _ (by decide +kernel)) ggX6_slips_X6_takenAll
set_option maxRecDepth 20000 in
theorem ggX6_slips_X6_begins : GoodIn wsX6_slips wsX6_begins := goodIn_r _ [29, 30, 5, 4, 31, 96, 97, 98, 99, 100, 101, 102, 103, 104, 105, 106, 107, 108, 109, 110, 111, 112, 113, 114, 115, 116, 117, 118, 119, 120, 121, 122, 123, 124, 125, 126, 127, 128, 129, 130, 131, 132, 133, 134, 135, 136, 137, 138] (by decide +kernel) (by decide +kernel)
set_option maxRecDepth 20000 in
theorem gX6_slips_X6_begins : GoodIn wsX6_slips (wsV RX6 235 RX6 yX6_begins wsX6_begins) := goodIn_app (goodIn_of _ (by decide +kernel)) ggX6_slips_X6_begins
set_option maxRecDepth 20000 in
theorem ggX6_slips_X6_without : GoodIn wsX6_slips wsX6_without := goodIn_r _ [35, 15, 16, 17, 18, 19, 13, 20, 21, 96, 97, 98, 99, 100, 101, 102, 103, 104, 105, 106, 107, 108, 109, 110, 111, 112, 113, 114, 115, 116, 117, 118, 119, 120, 121, 122, 123, 124, 125, 126, 127, 128, 129, 130, 131, 132, 133, 134, 135, 136, 137, 138] (by decide +kernel) (by decide +kernel)
set_option maxRecDepth 20000 in
theorem gX6_slips_X6_without : GoodIn wsX6_slips (wsV RX6 254 RX6 yX6_without wsX6_without) := goodIn_app (goodIn_of _ (by decide +kernel)) ggX6_slips_X6_without
set_option maxRecDepth 20000 in
theorem ggX6_slips_X6_walks : GoodIn wsX6_slips wsX6_walks := goodIn_r _ [39, 6, 40, 41, 5, 42, 30, 43, 44, 45, 13, 46, 47, 48, 49, 15, 50, 51, 31, 52, 53, 54, 55, 4, 56, 57, 58, 59, 60, 61, 62, 63, 64, 65, 66, 67, 68, 69, 70, 71, 72, 73, 74, 75, 76, 77, 78, 79, 80, 81, 82, 83, 84, 85, 86, 87, 88, 89, 90, 91, 92, 93, 94, 95, 96, 97, 98, 99, 100, 101, 102, 103, 104, 105, 106, 107, 108, 109, 110, 111, 112, 113, 114, 115, 116, 117, 118, 119, 120, 121, 122, 123, 124, 125, 126, 127, 128, 129, 130, 131, 132, 133, 134, 135, 136, 137, 138] (by decide +kernel) (by decide +kernel)
set_option maxRecDepth 20000 in
theorem gX6_slips_X6_walks : GoodIn wsX6_slips (wsV RX6 238 RX6 yX6_walks wsX6_walks) := goodIn_app (goodIn_of _ (by decide +kernel)) ggX6_slips_X6_walks
theorem dX6_slips_0 : decode cX6_slips 0 = .ok (.aload_n 0, 1) := by decide +kernel
theorem dX6_slips_1 : decode cX6_slips 1 = .ok (.iconst 0, 1) := by decide +kernel
theorem dX6_slips_2 : decode cX6_slips 2 = .ok (.putfield 98, 3) := by decide +kernel
theorem dX6_slips_5 : decode cX6_slips 5 = .ok (.aload_n 0, 1) := by decide +kernel
theorem dX6_slips_6 : decode cX6_slips 6 = .ok (.invokevirtual 251, 3) := by decide +kernel
theorem dX6_slips_9 : decode cX6_slips 9 = .ok (.istore_n 1, 1) := by decide +kernel
theorem dX6_slips_10 : decode cX6_slips 10 = .ok (.aload_n 0, 1) := by decide +kernel
theorem dX6_slips_11 : decode cX6_slips 11 = .ok (.aload_n 0, 1) := by decide +kernel
theorem dX6_slips_12 : decode cX6_slips 12 = .ok (.invokevirtual 231, 3) := by decide +kernel
theorem dX6_slips_15 : decode cX6_slips 15 = .ok (.invokevirtual 235, 3) := by decide +kernel
theorem dX6_slips_18 : decode cX6_slips 18 = .ok (.iconst (-1), 1) := by decide +kernel
theorem dX6_slips_19 : decode cX6_slips 19 = .ok (.istore_n 2, 1) := by decide +kernel
theorem dX6_slips_20 : decode cX6_slips 20 = .ok (.iconst 0, 1) := by decide +kernel
theorem dX6_slips_21 : decode cX6_slips 21 = .ok (.istore_n 3, 1) := by decide +kernel
theorem dX6_slips_22 : decode cX6_slips 22 = .ok (.iconst 0, 1) := by decide +kernel
theorem dX6_slips_23 : decode cX6_slips 23 = .ok (.istore 4, 2) := by decide +kernel
theorem dX6_slips_25 : decode cX6_slips 25 = .ok (.iload 4, 2) := by decide +kernel
theorem dX6_slips_27 : decode cX6_slips 27 = .ok (.iconst 1, 1) := by decide +kernel
theorem dX6_slips_28 : decode cX6_slips 28 = .ok (.iload_n 1, 1) := by decide +kernel
theorem dX6_slips_29 : decode cX6_slips 29 = .ok (.ishl, 1) := by decide +kernel
theorem dX6_slips_30 : decode cX6_slips 30 = .ok (.if_icmp .ge 150, 3) := by decide +kernel
theorem dX6_slips_33 : decode cX6_slips 33 = .ok (.iconst 0, 1) := by decide +kernel
theorem dX6_slips_34 : decode cX6_slips 34 = .ok (.istore 5, 2) := by decide +kernel
theorem dX6_slips_36 : decode cX6_slips 36 = .ok (.iconst 0, 1) := by decide +kernel
theorem dX6_slips_37 : decode cX6_slips 37 = .ok (.istore 6, 2) := by decide +kernel
theorem dX6_slips_39 : decode cX6_slips 39 = .ok (.iconst 0, 1) := by decide +kernel
theorem dX6_slips_40 : decode cX6_slips 40 = .ok (.istore 7, 2) := by decide +kernel
theorem dX6_slips_42 : decode cX6_slips 42 = .ok (.iload 7, 2) := by decide +kernel
theorem dX6_slips_44 : decode cX6_slips 44 = .ok (.iload_n 1, 1) := by decide +kernel
theorem dX6_slips_45 : decode cX6_slips 45 = .ok (.if_icmp .ge 53, 3) := by decide +kernel
theorem dX6_slips_48 : decode cX6_slips 48 = .ok (.iload 4, 2) := by decide +kernel
theorem dX6_slips_50 : decode cX6_slips 50 = .ok (.iload 7, 2) := by decide +kernel
theorem dX6_slips_52 : decode cX6_slips 52 = .ok (.ishr, 1) := by decide +kernel
theorem dX6_slips_53 : decode cX6_slips 53 = .ok (.iconst 1, 1) := by decide +kernel
theorem dX6_slips_54 : decode cX6_slips 54 = .ok (.iand, 1) := by decide +kernel
theorem dX6_slips_55 : decode cX6_slips 55 = .ok (.ifCond .ne 6, 3) := by decide +kernel
theorem dX6_slips_58 : decode cX6_slips 58 = .ok (.goto 34, 3) := by decide +kernel
theorem dX6_slips_61 : decode cX6_slips 61 = .ok (.iload 5, 2) := by decide +kernel
theorem dX6_slips_63 : decode cX6_slips 63 = .ok (.aload_n 0, 1) := by decide +kernel
theorem dX6_slips_64 : decode cX6_slips 64 = .ok (.getfield 34, 3) := by decide +kernel
theorem dX6_slips_67 : decode cX6_slips 67 = .ok (.aload_n 0, 1) := by decide +kernel
theorem dX6_slips_68 : decode cX6_slips 68 = .ok (.getfield 89, 3) := by decide +kernel
theorem dX6_slips_71 : decode cX6_slips 71 = .ok (.iload 7, 2) := by decide +kernel
theorem dX6_slips_73 : decode cX6_slips 73 = .ok (.iaload, 1) := by decide +kernel
theorem dX6_slips_74 : decode cX6_slips 74 = .ok (.iaload, 1) := by decide +kernel
theorem dX6_slips_75 : decode cX6_slips 75 = .ok (.iadd, 1) := by decide +kernel
theorem dX6_slips_76 : decode cX6_slips 76 = .ok (.istore 5, 2) := by decide +kernel
theorem dX6_slips_78 : decode cX6_slips 78 = .ok (.iload 6, 2) := by decide +kernel
theorem dX6_slips_80 : decode cX6_slips 80 = .ok (.iconst 1, 1) := by decide +kernel
theorem dX6_slips_81 : decode cX6_slips 81 = .ok (.aload_n 0, 1) := by decide +kernel
theorem dX6_slips_82 : decode cX6_slips 82 = .ok (.getfield 89, 3) := by decide +kernel
theorem dX6_slips_85 : decode cX6_slips 85 = .ok (.iload 7, 2) := by decide +kernel
theorem dX6_slips_87 : decode cX6_slips 87 = .ok (.iaload, 1) := by decide +kernel
theorem dX6_slips_88 : decode cX6_slips 88 = .ok (.ishl, 1) := by decide +kernel
theorem dX6_slips_89 : decode cX6_slips 89 = .ok (.ior, 1) := by decide +kernel
theorem dX6_slips_90 : decode cX6_slips 90 = .ok (.istore 6, 2) := by decide +kernel
theorem dX6_slips_92 : decode cX6_slips 92 = .ok (.iinc 7 1, 3) := by decide +kernel
theorem dX6_slips_95 : decode cX6_slips 95 = .ok (.goto (-53), 3) := by decide +kernel
theorem dX6_slips_98 : decode cX6_slips 98 = .ok (.iload_n 2, 1) := by decide +kernel
theorem dX6_slips_99 : decode cX6_slips 99 = .ok (.iconst (-1), 1) := by decide +kernel
theorem dX6_slips_100 : decode cX6_slips 100 = .ok (.if_icmp .eq 12, 3) := by decide +kernel
theorem dX6_slips_103 : decode cX6_slips 103 = .ok (.iload 5, 2) := by decide +kernel
theorem dX6_slips_105 : decode cX6_slips 105 = .ok (.iload_n 2, 1) := by decide +kernel
theorem dX6_slips_106 : decode cX6_slips 106 = .ok (.if_icmp .le 6, 3) := by decide +kernel
theorem dX6_slips_109 : decode cX6_slips 109 = .ok (.goto 65, 3) := by decide +kernel
theorem dX6_slips_112 : decode cX6_slips 112 = .ok (.aload_n 0, 1) := by decide +kernel
theorem dX6_slips_113 : decode cX6_slips 113 = .ok (.aload_n 0, 1) := by decide +kernel
theorem dX6_slips_114 : decode cX6_slips 114 = .ok (.iload 6, 2) := by decide +kernel
theorem dX6_slips_116 : decode cX6_slips 116 = .ok (.invokevirtual 254, 3) := by decide +kernel
theorem dX6_slips_119 : decode cX6_slips 119 = .ok (.putfield 187, 3) := by decide +kernel
theorem dX6_slips_122 : decode cX6_slips 122 = .ok (.aload_n 0, 1) := by decide +kernel
theorem dX6_slips_123 : decode cX6_slips 123 = .ok (.iconst 0, 1) := by decide +kernel
theorem dX6_slips_124 : decode cX6_slips 124 = .ok (.invokevirtual 238, 3) := by decide +kernel
theorem dX6_slips_127 : decode cX6_slips 127 = .ok (.aload_n 0, 1) := by decide +kernel
theorem dX6_slips_128 : decode cX6_slips 128 = .ok (.getfield 216, 3) := by decide +kernel
theorem dX6_slips_131 : decode cX6_slips 131 = .ok (.ifCond .eq 6, 3) := by decide +kernel
theorem dX6_slips_134 : decode cX6_slips 134 = .ok (.bipush (-2), 2) := by decide +kernel
theorem dX6_slips_136 : decode cX6_slips 136 = .ok (.ireturn, 1) := by decide +kernel
theorem dX6_slips_137 : decode cX6_slips 137 = .ok (.aload_n 0, 1) := by decide +kernel
theorem dX6_slips_138 : decode cX6_slips 138 = .ok (.getfield 212, 3) := by decide +kernel
theorem dX6_slips_141 : decode cX6_slips 141 = .ok (.ifCond .ne 6, 3) := by decide +kernel
theorem dX6_slips_144 : decode cX6_slips 144 = .ok (.goto 30, 3) := by decide +kernel
theorem dX6_slips_147 : decode cX6_slips 147 = .ok (.iload_n 2, 1) := by decide +kernel
theorem dX6_slips_148 : decode cX6_slips 148 = .ok (.iconst (-1), 1) := by decide +kernel
theorem dX6_slips_149 : decode cX6_slips 149 = .ok (.if_icmp .eq 9, 3) := by decide +kernel
theorem dX6_slips_152 : decode cX6_slips 152 = .ok (.iload 5, 2) := by decide +kernel
theorem dX6_slips_154 : decode cX6_slips 154 = .ok (.iload_n 2, 1) := by decide +kernel
theorem dX6_slips_155 : decode cX6_slips 155 = .ok (.if_icmp .ge 5, 3) := by decide +kernel
theorem dX6_slips_158 : decode cX6_slips 158 = .ok (.iconst 0, 1) := by decide +kernel
theorem dX6_slips_159 : decode cX6_slips 159 = .ok (.istore_n 3, 1) := by decide +kernel
theorem dX6_slips_160 : decode cX6_slips 160 = .ok (.iload 5, 2) := by decide +kernel
theorem dX6_slips_162 : decode cX6_slips 162 = .ok (.istore_n 2, 1) := by decide +kernel
theorem dX6_slips_163 : decode cX6_slips 163 = .ok (.aload_n 0, 1) := by decide +kernel
theorem dX6_slips_164 : decode cX6_slips 164 = .ok (.getfield 86, 3) := by decide +kernel
theorem dX6_slips_167 : decode cX6_slips 167 = .ok (.iload_n 3, 1) := by decide +kernel
theorem dX6_slips_168 : decode cX6_slips 168 = .ok (.iload 6, 2) := by decide +kernel
theorem dX6_slips_170 : decode cX6_slips 170 = .ok (.iastore, 1) := by decide +kernel
theorem dX6_slips_171 : decode cX6_slips 171 = .ok (.iinc 3 1, 3) := by decide +kernel
theorem dX6_slips_174 : decode cX6_slips 174 = .ok (.iinc 4 1, 3) := by decide +kernel
theorem dX6_slips_177 : decode cX6_slips 177 = .ok (.goto (-152), 3) := by decide +kernel
theorem dX6_slips_180 : decode cX6_slips 180 = .ok (.aload_n 0, 1) := by decide +kernel
theorem dX6_slips_181 : decode cX6_slips 181 = .ok (.iload_n 3, 1) := by decide +kernel
theorem dX6_slips_182 : decode cX6_slips 182 = .ok (.putfield 257, 3) := by decide +kernel
theorem dX6_slips_185 : decode cX6_slips 185 = .ok (.iconst 0, 1) := by decide +kernel
theorem dX6_slips_186 : decode cX6_slips 186 = .ok (.istore 4, 2) := by decide +kernel
theorem dX6_slips_188 : decode cX6_slips 188 = .ok (.iload 4, 2) := by decide +kernel
theorem dX6_slips_190 : decode cX6_slips 190 = .ok (.iload_n 3, 1) := by decide +kernel
theorem dX6_slips_191 : decode cX6_slips 191 = .ok (.if_icmp .ge 23, 3) := by decide +kernel
theorem dX6_slips_194 : decode cX6_slips 194 = .ok (.aload_n 0, 1) := by decide +kernel
theorem dX6_slips_195 : decode cX6_slips 195 = .ok (.getfield 83, 3) := by decide +kernel
theorem dX6_slips_198 : decode cX6_slips 198 = .ok (.iload 4, 2) := by decide +kernel
theorem dX6_slips_200 : decode cX6_slips 200 = .ok (.aload_n 0, 1) := by decide +kernel
theorem dX6_slips_201 : decode cX6_slips 201 = .ok (.getfield 86, 3) := by decide +kernel
theorem dX6_slips_204 : decode cX6_slips 204 = .ok (.iload 4, 2) := by decide +kernel
theorem dX6_slips_206 : decode cX6_slips 206 = .ok (.iaload, 1) := by decide +kernel
theorem dX6_slips_207 : decode cX6_slips 207 = .ok (.iastore, 1) := by decide +kernel
theorem dX6_slips_208 : decode cX6_slips 208 = .ok (.iinc 4 1, 3) := by decide +kernel
theorem dX6_slips_211 : decode cX6_slips 211 = .ok (.goto (-23), 3) := by decide +kernel
theorem dX6_slips_214 : decode cX6_slips 214 = .ok (.iload_n 2, 1) := by decide +kernel
theorem dX6_slips_215 : decode cX6_slips 215 = .ok (.ireturn, 1) := by decide +kernel
set_option maxRecDepth 20000 in
theorem ggX6_without_X6_rootOf : GoodIn wsX6_without wsX6_rootOf := goodIn_r _ [7, 8, 9, 10, 11, 12, 13, 14, 15, 16, 17, 18, 19, 20, 21, 22, 23, 24, 25, 26, 27, 28, 29, 30, 31, 32, 33, 34, 35, 36, 37, 38, 39, 40, 41, 42, 43, 44, 45, 46, 47, 48, 49, 50, 51] (by decide +kernel) (by decide +kernel)
set_option maxRecDepth 20000 in
theorem gX6_without_X6_rootOf : GoodIn wsX6_without (wsV RX6 184 RX6 yX6_rootOf wsX6_rootOf) := goodIn_app (goodIn_of _ (by decide +kernel)) ggX6_without_X6_rootOf
theorem dX6_without_0 : decode cX6_without 0 = .ok (.iconst 0, 1) := by decide +kernel
theorem dX6_without_1 : decode cX6_without 1 = .ok (.istore_n 2, 1) := by decide +kernel
theorem dX6_without_2 : decode cX6_without 2 = .ok (.iconst 0, 1) := by decide +kernel
theorem dX6_without_3 : decode cX6_without 3 = .ok (.istore_n 3, 1) := by decide +kernel
theorem dX6_without_4 : decode cX6_without 4 = .ok (.iload_n 3, 1) := by decide +kernel
theorem dX6_without_5 : decode cX6_without 5 = .ok (.aload_n 0, 1) := by decide +kernel
theorem dX6_without_6 : decode cX6_without 6 = .ok (.getfield 158, 3) := by decide +kernel
theorem dX6_without_9 : decode cX6_without 9 = .ok (.if_icmp .ge 36, 3) := by decide +kernel
theorem dX6_without_12 : decode cX6_without 12 = .ok (.aload_n 0, 1) := by decide +kernel
theorem dX6_without_13 : decode cX6_without 13 = .ok (.getfield 40, 3) := by decide +kernel
theorem dX6_without_16 : decode cX6_without 16 = .ok (.iload_n 3, 1) := by decide +kernel
theorem dX6_without_17 : decode cX6_without 17 = .ok (.baload, 1) := by decide +kernel
theorem dX6_without_18 : decode cX6_without 18 = .ok (.ifCond .eq 21, 3) := by decide +kernel
theorem dX6_without_21 : decode cX6_without 21 = .ok (.iload_n 1, 1) := by decide +kernel
theorem dX6_without_22 : decode cX6_without 22 = .ok (.aload_n 0, 1) := by decide +kernel
theorem dX6_without_23 : decode cX6_without 23 = .ok (.iload_n 3, 1) := by decide +kernel
theorem dX6_without_24 : decode cX6_without 24 = .ok (.invokevirtual 184, 3) := by decide +kernel
theorem dX6_without_27 : decode cX6_without 27 = .ok (.ishr, 1) := by decide +kernel
theorem dX6_without_28 : decode cX6_without 28 = .ok (.iconst 1, 1) := by decide +kernel
theorem dX6_without_29 : decode cX6_without 29 = .ok (.iand, 1) := by decide +kernel
theorem dX6_without_30 : decode cX6_without 30 = .ok (.ifCond .ne 9, 3) := by decide +kernel
theorem dX6_without_33 : decode cX6_without 33 = .ok (.iload_n 2, 1) := by decide +kernel
theorem dX6_without_34 : decode cX6_without 34 = .ok (.iconst 1, 1) := by decide +kernel
theorem dX6_without_35 : decode cX6_without 35 = .ok (.iload_n 3, 1) := by decide +kernel
theorem dX6_without_36 : decode cX6_without 36 = .ok (.ishl, 1) := by decide +kernel
theorem dX6_without_37 : decode cX6_without 37 = .ok (.ior, 1) := by decide +kernel
theorem dX6_without_38 : decode cX6_without 38 = .ok (.istore_n 2, 1) := by decide +kernel
theorem dX6_without_39 : decode cX6_without 39 = .ok (.iinc 3 1, 3) := by decide +kernel
theorem dX6_without_42 : decode cX6_without 42 = .ok (.goto (-38), 3) := by decide +kernel
theorem dX6_without_45 : decode cX6_without 45 = .ok (.iload_n 2, 1) := by decide +kernel
theorem dX6_without_46 : decode cX6_without 46 = .ok (.ireturn, 1) := by decide +kernel
theorem dX6_slipped_0 : decode cX6_slipped 0 = .ok (.aload_n 0, 1) := by decide +kernel
theorem dX6_slipped_1 : decode cX6_slipped 1 = .ok (.iconst 0, 1) := by decide +kernel
theorem dX6_slipped_2 : decode cX6_slipped 2 = .ok (.putfield 98, 3) := by decide +kernel
theorem dX6_slipped_5 : decode cX6_slipped 5 = .ok (.iload_n 1, 1) := by decide +kernel
theorem dX6_slipped_6 : decode cX6_slipped 6 = .ok (.iconst (-1), 1) := by decide +kernel
theorem dX6_slipped_7 : decode cX6_slipped 7 = .ok (.if_icmp .ne 8, 3) := by decide +kernel
theorem dX6_slipped_10 : decode cX6_slipped 10 = .ok (.aload_n 0, 1) := by decide +kernel
theorem dX6_slipped_11 : decode cX6_slipped 11 = .ok (.getfield 257, 3) := by decide +kernel
theorem dX6_slipped_14 : decode cX6_slipped 14 = .ok (.ireturn, 1) := by decide +kernel
theorem dX6_slipped_15 : decode cX6_slipped 15 = .ok (.iload_n 1, 1) := by decide +kernel
theorem dX6_slipped_16 : decode cX6_slipped 16 = .ok (.ifCond .lt 11, 3) := by decide +kernel
theorem dX6_slipped_19 : decode cX6_slipped 19 = .ok (.iload_n 1, 1) := by decide +kernel
theorem dX6_slipped_20 : decode cX6_slipped 20 = .ok (.aload_n 0, 1) := by decide +kernel
theorem dX6_slipped_21 : decode cX6_slipped 21 = .ok (.getfield 257, 3) := by decide +kernel
theorem dX6_slipped_24 : decode cX6_slipped 24 = .ok (.if_icmp .lt 7, 3) := by decide +kernel
theorem dX6_slipped_27 : decode cX6_slipped 27 = .ok (.iconst (-1), 1) := by decide +kernel
theorem dX6_slipped_28 : decode cX6_slipped 28 = .ok (.goto 9, 3) := by decide +kernel
theorem dX6_slipped_31 : decode cX6_slipped 31 = .ok (.aload_n 0, 1) := by decide +kernel
theorem dX6_slipped_32 : decode cX6_slipped 32 = .ok (.getfield 83, 3) := by decide +kernel
theorem dX6_slipped_35 : decode cX6_slipped 35 = .ok (.iload_n 1, 1) := by decide +kernel
theorem dX6_slipped_36 : decode cX6_slipped 36 = .ok (.iaload, 1) := by decide +kernel
theorem dX6_slipped_37 : decode cX6_slipped 37 = .ok (.ireturn, 1) := by decide +kernel
set_option maxRecDepth 20000 in
theorem ggX6_widthOf_X6_takenAll : GoodIn wsX6_widthOf wsX6_takenAll := goodIn_r _ [12, 13, 14, 77, 78, 79, 80, 81, 82, 83, 84, 85, 86, 87, 88, 89, 90, 91, 92, 93, 94, 95, 96, 97, 98, 99, 100, 101, 102, 103, 104, 105, 106, 107, 108, 109, 110, 111, 112, 113, 114, 115, 116, 117, 118, 119] (by decide +kernel) (by decide +kernel)
set_option maxRecDepth 20000 in
theorem gX6_widthOf_X6_takenAll : GoodIn wsX6_widthOf (wsV RX6 231 RX6 yX6_takenAll wsX6_takenAll) := goodIn_app (goodIn_of _ (by decide +kernel)) ggX6_widthOf_X6_takenAll
set_option maxRecDepth 20000 in
theorem ggX6_widthOf_X6_begins : GoodIn wsX6_widthOf wsX6_begins := goodIn_r _ [18, 19, 3, 20, 1, 77, 78, 79, 80, 81, 82, 83, 84, 85, 86, 87, 88, 89, 90, 91, 92, 93, 94, 95, 96, 97, 98, 99, 100, 101, 102, 103, 104, 105, 106, 107, 108, 109, 110, 111, 112, 113, 114, 115, 116, 117, 118, 119] (by decide +kernel) (by decide +kernel)
set_option maxRecDepth 20000 in
theorem gX6_widthOf_X6_begins : GoodIn wsX6_widthOf (wsV RX6 235 RX6 yX6_begins wsX6_begins) := goodIn_app (goodIn_of _ (by decide +kernel)) ggX6_widthOf_X6_begins
set_option maxRecDepth 20000 in
theorem ggX6_widthOf_X6_walks : GoodIn wsX6_widthOf wsX6_walks := goodIn_r _ [24, 4, 25, 5, 3, 26, 19, 27, 28, 29, 11, 30, 31, 32, 33, 13, 34, 35, 1, 36, 37, 38, 39, 20, 40, 41, 42, 43, 44, 45, 46, 47, 48, 49, 50, 51, 52, 53, 54, 55, 56, 57, 58, 59, 2, 60, 61, 62, 63, 64, 65, 66, 67, 68, 69, 70, 71, 72, 73, 74, 75, 76, 7, 6, 77, 78, 79, 80, 81, 82, 83, 84, 85, 86, 87, 88, 89, 90, 91, 92, 93, 94, 95, 96, 97, 98, 99, 100, 101, 102, 103, 104, 105, 106, 107, 108, 109, 110, 111, 112, 113, 114, 115, 116, 117, 118, 119] (by decide +kernel) (by decide +kernel)
set_option maxRecDepth 20000 in
theorem gX6_widthOf_X6_walks : GoodIn wsX6_widthOf (wsV RX6 238 RX6 yX6_walks wsX6_walks) := goodIn_app (goodIn_of _ (by decide +kernel)) ggX6_widthOf_X6_walks
theorem dX6_widthOf_0 : decode cX6_widthOf 0 = .ok (.aload_n 0, 1) := by decide +kernel
theorem dX6_widthOf_1 : decode cX6_widthOf 1 = .ok (.aload_n 0, 1) := by decide +kernel
theorem dX6_widthOf_2 : decode cX6_widthOf 2 = .ok (.invokevirtual 231, 3) := by decide +kernel
theorem dX6_widthOf_5 : decode cX6_widthOf 5 = .ok (.invokevirtual 235, 3) := by decide +kernel
theorem dX6_widthOf_8 : decode cX6_widthOf 8 = .ok (.aload_n 0, 1) := by decide +kernel
theorem dX6_widthOf_9 : decode cX6_widthOf 9 = .ok (.iload_n 1, 1) := by decide +kernel
theorem dX6_widthOf_10 : decode cX6_widthOf 10 = .ok (.putfield 196, 3) := by decide +kernel
theorem dX6_widthOf_13 : decode cX6_widthOf 13 = .ok (.aload_n 0, 1) := by decide +kernel
theorem dX6_widthOf_14 : decode cX6_widthOf 14 = .ok (.iload_n 2, 1) := by decide +kernel
theorem dX6_widthOf_15 : decode cX6_widthOf 15 = .ok (.putfield 203, 3) := by decide +kernel
theorem dX6_widthOf_18 : decode cX6_widthOf 18 = .ok (.aload_n 0, 1) := by decide +kernel
theorem dX6_widthOf_19 : decode cX6_widthOf 19 = .ok (.iconst 1, 1) := by decide +kernel
theorem dX6_widthOf_20 : decode cX6_widthOf 20 = .ok (.invokevirtual 238, 3) := by decide +kernel
theorem dX6_widthOf_23 : decode cX6_widthOf 23 = .ok (.aload_n 0, 1) := by decide +kernel
theorem dX6_widthOf_24 : decode cX6_widthOf 24 = .ok (.getfield 216, 3) := by decide +kernel
theorem dX6_widthOf_27 : decode cX6_widthOf 27 = .ok (.ifCond .eq 6, 3) := by decide +kernel
theorem dX6_widthOf_30 : decode cX6_widthOf 30 = .ok (.bipush (-2), 2) := by decide +kernel
theorem dX6_widthOf_32 : decode cX6_widthOf 32 = .ok (.ireturn, 1) := by decide +kernel
theorem dX6_widthOf_33 : decode cX6_widthOf 33 = .ok (.aload_n 0, 1) := by decide +kernel
theorem dX6_widthOf_34 : decode cX6_widthOf 34 = .ok (.getfield 212, 3) := by decide +kernel
theorem dX6_widthOf_37 : decode cX6_widthOf 37 = .ok (.ifCond .ne 5, 3) := by decide +kernel
theorem dX6_widthOf_40 : decode cX6_widthOf 40 = .ok (.iconst (-1), 1) := by decide +kernel
theorem dX6_widthOf_41 : decode cX6_widthOf 41 = .ok (.ireturn, 1) := by decide +kernel
theorem dX6_widthOf_42 : decode cX6_widthOf 42 = .ok (.iconst 0, 1) := by decide +kernel
theorem dX6_widthOf_43 : decode cX6_widthOf 43 = .ok (.istore_n 3, 1) := by decide +kernel
theorem dX6_widthOf_44 : decode cX6_widthOf 44 = .ok (.iconst 0, 1) := by decide +kernel
theorem dX6_widthOf_45 : decode cX6_widthOf 45 = .ok (.istore 4, 2) := by decide +kernel
theorem dX6_widthOf_47 : decode cX6_widthOf 47 = .ok (.iload 4, 2) := by decide +kernel
theorem dX6_widthOf_49 : decode cX6_widthOf 49 = .ok (.aload_n 0, 1) := by decide +kernel
theorem dX6_widthOf_50 : decode cX6_widthOf 50 = .ok (.getfield 151, 3) := by decide +kernel
theorem dX6_widthOf_53 : decode cX6_widthOf 53 = .ok (.if_icmp .ge 27, 3) := by decide +kernel
theorem dX6_widthOf_56 : decode cX6_widthOf 56 = .ok (.iload_n 3, 1) := by decide +kernel
theorem dX6_widthOf_57 : decode cX6_widthOf 57 = .ok (.aload_n 0, 1) := by decide +kernel
theorem dX6_widthOf_58 : decode cX6_widthOf 58 = .ok (.getfield 80, 3) := by decide +kernel
theorem dX6_widthOf_61 : decode cX6_widthOf 61 = .ok (.iload 4, 2) := by decide +kernel
theorem dX6_widthOf_63 : decode cX6_widthOf 63 = .ok (.iaload, 1) := by decide +kernel
theorem dX6_widthOf_64 : decode cX6_widthOf 64 = .ok (.aload_n 0, 1) := by decide +kernel
theorem dX6_widthOf_65 : decode cX6_widthOf 65 = .ok (.getfield 77, 3) := by decide +kernel
theorem dX6_widthOf_68 : decode cX6_widthOf 68 = .ok (.iload 4, 2) := by decide +kernel
theorem dX6_widthOf_70 : decode cX6_widthOf 70 = .ok (.iaload, 1) := by decide +kernel
theorem dX6_widthOf_71 : decode cX6_widthOf 71 = .ok (.isub, 1) := by decide +kernel
theorem dX6_widthOf_72 : decode cX6_widthOf 72 = .ok (.iadd, 1) := by decide +kernel
theorem dX6_widthOf_73 : decode cX6_widthOf 73 = .ok (.istore_n 3, 1) := by decide +kernel
theorem dX6_widthOf_74 : decode cX6_widthOf 74 = .ok (.iinc 4 1, 3) := by decide +kernel
theorem dX6_widthOf_77 : decode cX6_widthOf 77 = .ok (.goto (-30), 3) := by decide +kernel
theorem dX6_widthOf_80 : decode cX6_widthOf 80 = .ok (.iload_n 3, 1) := by decide +kernel
theorem dX6_widthOf_81 : decode cX6_widthOf 81 = .ok (.ireturn, 1) := by decide +kernel
set_option maxRecDepth 20000 in
theorem ggX6_width_X6_isEvent : GoodIn wsX6_width wsX6_isEvent := goodIn_r _ [6, 7, 90, 91, 92, 93, 94, 95, 96, 97, 98, 99, 100, 101, 102, 103, 104, 105, 106, 107, 108, 109, 110, 111, 112, 113, 114, 115, 116, 117, 118, 119, 120, 121, 122, 123, 124, 125, 126, 127, 128, 129, 130, 131, 132] (by decide +kernel) (by decide +kernel)
set_option maxRecDepth 20000 in
theorem gX6_width_X6_isEvent : GoodIn wsX6_width (wsV RX6 228 RX6 yX6_isEvent wsX6_isEvent) := goodIn_app (goodIn_of _ (by decide +kernel)) ggX6_width_X6_isEvent
set_option maxRecDepth 20000 in
theorem ggX6_width_X6_isDay : GoodIn wsX6_width wsX6_isDay := goodIn_r _ [10, 11] (by decide +kernel) (by decide +kernel)
set_option maxRecDepth 20000 in
theorem gX6_width_X6_isDay : GoodIn wsX6_width (va_wsS RX6 124 yX6_isDay wsX6_isDay) := goodIn_app (goodIn_of _ (by decide +kernel)) ggX6_width_X6_isDay
set_option maxRecDepth 20000 in
theorem ggX6_width_X6_widthOf : GoodIn wsX6_width wsX6_widthOf := goodIn_r _ [15, 16, 17, 18, 19, 7, 20, 21, 22, 23, 24, 5, 25, 26, 27, 28, 29, 30, 31, 32, 33, 34, 35, 36, 37, 38, 39, 40, 41, 42, 43, 44, 45, 46, 47, 48, 49, 50, 51, 52, 53, 54, 55, 56, 57, 58, 59, 60, 61, 62, 63, 64, 65, 66, 67, 68, 69, 70, 71, 72, 73, 74, 75, 76, 77, 78, 79, 80, 81, 82, 83, 84, 85, 86, 87, 88, 89, 90, 91, 92, 93, 94, 95, 96, 97, 98, 99, 100, 101, 102, 103, 104, 105, 106, 107, 108, 109, 110, 111, 112, 113, 114, 115, 116, 117, 118, 119, 120, 121, 122, 123, 124, 125, 126, 127, 128, 129, 130, 131, 132] (by decide +kernel) (by decide +kernel)
set_option maxRecDepth 20000 in
theorem gX6_width_X6_widthOf : GoodIn wsX6_width (wsV RX6 260 RX6 yX6_widthOf wsX6_widthOf) := goodIn_app (goodIn_of _ (by decide +kernel)) ggX6_width_X6_widthOf
theorem dX6_width_0 : decode cX6_width 0 = .ok (.aload_n 0, 1) := by decide +kernel
theorem dX6_width_1 : decode cX6_width 1 = .ok (.iconst 0, 1) := by decide +kernel
theorem dX6_width_2 : decode cX6_width 2 = .ok (.putfield 98, 3) := by decide +kernel
theorem dX6_width_5 : decode cX6_width 5 = .ok (.iload_n 1, 1) := by decide +kernel
theorem dX6_width_6 : decode cX6_width 6 = .ok (.iconst (-1), 1) := by decide +kernel
theorem dX6_width_7 : decode cX6_width 7 = .ok (.if_icmp .ne 12, 3) := by decide +kernel
theorem dX6_width_10 : decode cX6_width 10 = .ok (.iload_n 2, 1) := by decide +kernel
theorem dX6_width_11 : decode cX6_width 11 = .ok (.iconst (-1), 1) := by decide +kernel
theorem dX6_width_12 : decode cX6_width 12 = .ok (.if_icmp .ne 7, 3) := by decide +kernel
theorem dX6_width_15 : decode cX6_width 15 = .ok (.iconst 1, 1) := by decide +kernel
theorem dX6_width_16 : decode cX6_width 16 = .ok (.goto 4, 3) := by decide +kernel
theorem dX6_width_19 : decode cX6_width 19 = .ok (.iconst 0, 1) := by decide +kernel
theorem dX6_width_20 : decode cX6_width 20 = .ok (.istore_n 3, 1) := by decide +kernel
theorem dX6_width_21 : decode cX6_width 21 = .ok (.iload_n 3, 1) := by decide +kernel
theorem dX6_width_22 : decode cX6_width 22 = .ok (.ifCond .ne 22, 3) := by decide +kernel
theorem dX6_width_25 : decode cX6_width 25 = .ok (.aload_n 0, 1) := by decide +kernel
theorem dX6_width_26 : decode cX6_width 26 = .ok (.iload_n 1, 1) := by decide +kernel
theorem dX6_width_27 : decode cX6_width 27 = .ok (.invokevirtual 228, 3) := by decide +kernel
theorem dX6_width_30 : decode cX6_width 30 = .ok (.ifCond .eq 10, 3) := by decide +kernel
theorem dX6_width_33 : decode cX6_width 33 = .ok (.iload_n 2, 1) := by decide +kernel
theorem dX6_width_34 : decode cX6_width 34 = .ok (.invokestatic 124, 3) := by decide +kernel
theorem dX6_width_37 : decode cX6_width 37 = .ok (.ifCond .ne 7, 3) := by decide +kernel
theorem dX6_width_40 : decode cX6_width 40 = .ok (.iconst (-1), 1) := by decide +kernel
theorem dX6_width_41 : decode cX6_width 41 = .ok (.goto 9, 3) := by decide +kernel
theorem dX6_width_44 : decode cX6_width 44 = .ok (.aload_n 0, 1) := by decide +kernel
theorem dX6_width_45 : decode cX6_width 45 = .ok (.iload_n 1, 1) := by decide +kernel
theorem dX6_width_46 : decode cX6_width 46 = .ok (.iload_n 2, 1) := by decide +kernel
theorem dX6_width_47 : decode cX6_width 47 = .ok (.invokevirtual 260, 3) := by decide +kernel
theorem dX6_width_50 : decode cX6_width 50 = .ok (.ireturn, 1) := by decide +kernel
set_option maxRecDepth 20000 in
theorem ggX6_settles_X6_widthOf : GoodIn wsX6_settles wsX6_widthOf := goodIn_r _ [15, 16, 17, 18, 19, 2, 6, 4, 20, 21, 22, 14, 23, 24, 25, 26, 27, 28, 29, 30, 31, 32, 33, 34, 35, 36, 37, 38, 39, 40, 41, 42, 43, 44, 45, 46, 47, 48, 49, 50, 51, 52, 53, 54, 55, 56, 7, 8, 9, 10, 57, 58, 59, 60, 61, 62, 63, 64, 65, 66, 67, 68, 69, 70, 71, 72, 73, 74, 75, 76, 77, 78, 79, 80, 81, 82, 83, 84, 85, 86, 87, 88, 89, 90, 91, 92, 93, 94, 95, 96, 97, 98, 99, 100, 101, 102, 103, 104, 105, 106, 107, 108, 109, 110, 111, 112, 113, 114, 115, 116, 117, 118, 119, 120, 121, 122, 123, 124, 125, 126] (by decide +kernel) (by decide +kernel)
set_option maxRecDepth 20000 in
theorem gX6_settles_X6_widthOf : GoodIn wsX6_settles (wsV RX6 260 RX6 yX6_widthOf wsX6_widthOf) := goodIn_app (goodIn_of _ (by decide +kernel)) ggX6_settles_X6_widthOf
theorem dX6_settles_0 : decode cX6_settles 0 = .ok (.aload_n 0, 1) := by decide +kernel
theorem dX6_settles_1 : decode cX6_settles 1 = .ok (.iconst 0, 1) := by decide +kernel
theorem dX6_settles_2 : decode cX6_settles 2 = .ok (.putfield 98, 3) := by decide +kernel
theorem dX6_settles_5 : decode cX6_settles 5 = .ok (.aload_n 0, 1) := by decide +kernel
theorem dX6_settles_6 : decode cX6_settles 6 = .ok (.iconst (-1), 1) := by decide +kernel
theorem dX6_settles_7 : decode cX6_settles 7 = .ok (.iconst (-1), 1) := by decide +kernel
theorem dX6_settles_8 : decode cX6_settles 8 = .ok (.invokevirtual 260, 3) := by decide +kernel
theorem dX6_settles_11 : decode cX6_settles 11 = .ok (.istore_n 1, 1) := by decide +kernel
theorem dX6_settles_12 : decode cX6_settles 12 = .ok (.iload_n 1, 1) := by decide +kernel
theorem dX6_settles_13 : decode cX6_settles 13 = .ok (.ifCond .ge 5, 3) := by decide +kernel
theorem dX6_settles_16 : decode cX6_settles 16 = .ok (.iload_n 1, 1) := by decide +kernel
theorem dX6_settles_17 : decode cX6_settles 17 = .ok (.ireturn, 1) := by decide +kernel
theorem dX6_settles_18 : decode cX6_settles 18 = .ok (.iconst 0, 1) := by decide +kernel
theorem dX6_settles_19 : decode cX6_settles 19 = .ok (.istore_n 2, 1) := by decide +kernel
theorem dX6_settles_20 : decode cX6_settles 20 = .ok (.iload_n 2, 1) := by decide +kernel
theorem dX6_settles_21 : decode cX6_settles 21 = .ok (.aload_n 0, 1) := by decide +kernel
theorem dX6_settles_22 : decode cX6_settles 22 = .ok (.getfield 151, 3) := by decide +kernel
theorem dX6_settles_25 : decode cX6_settles 25 = .ok (.if_icmp .ge 33, 3) := by decide +kernel
theorem dX6_settles_28 : decode cX6_settles 28 = .ok (.aload_n 0, 1) := by decide +kernel
theorem dX6_settles_29 : decode cX6_settles 29 = .ok (.getfield 92, 3) := by decide +kernel
theorem dX6_settles_32 : decode cX6_settles 32 = .ok (.iload_n 2, 1) := by decide +kernel
theorem dX6_settles_33 : decode cX6_settles 33 = .ok (.aload_n 0, 1) := by decide +kernel
theorem dX6_settles_34 : decode cX6_settles 34 = .ok (.getfield 77, 3) := by decide +kernel
theorem dX6_settles_37 : decode cX6_settles 37 = .ok (.iload_n 2, 1) := by decide +kernel
theorem dX6_settles_38 : decode cX6_settles 38 = .ok (.iaload, 1) := by decide +kernel
theorem dX6_settles_39 : decode cX6_settles 39 = .ok (.iastore, 1) := by decide +kernel
theorem dX6_settles_40 : decode cX6_settles 40 = .ok (.aload_n 0, 1) := by decide +kernel
theorem dX6_settles_41 : decode cX6_settles 41 = .ok (.getfield 95, 3) := by decide +kernel
theorem dX6_settles_44 : decode cX6_settles 44 = .ok (.iload_n 2, 1) := by decide +kernel
theorem dX6_settles_45 : decode cX6_settles 45 = .ok (.aload_n 0, 1) := by decide +kernel
theorem dX6_settles_46 : decode cX6_settles 46 = .ok (.getfield 80, 3) := by decide +kernel
theorem dX6_settles_49 : decode cX6_settles 49 = .ok (.iload_n 2, 1) := by decide +kernel
theorem dX6_settles_50 : decode cX6_settles 50 = .ok (.iaload, 1) := by decide +kernel
theorem dX6_settles_51 : decode cX6_settles 51 = .ok (.iastore, 1) := by decide +kernel
theorem dX6_settles_52 : decode cX6_settles 52 = .ok (.iinc 2 1, 3) := by decide +kernel
theorem dX6_settles_55 : decode cX6_settles 55 = .ok (.goto (-35), 3) := by decide +kernel
theorem dX6_settles_58 : decode cX6_settles 58 = .ok (.iconst (-1), 1) := by decide +kernel
theorem dX6_settles_59 : decode cX6_settles 59 = .ok (.istore_n 2, 1) := by decide +kernel
theorem dX6_settles_60 : decode cX6_settles 60 = .ok (.iconst 0, 1) := by decide +kernel
theorem dX6_settles_61 : decode cX6_settles 61 = .ok (.istore_n 3, 1) := by decide +kernel
theorem dX6_settles_62 : decode cX6_settles 62 = .ok (.iconst 0, 1) := by decide +kernel
theorem dX6_settles_63 : decode cX6_settles 63 = .ok (.istore 4, 2) := by decide +kernel
theorem dX6_settles_65 : decode cX6_settles 65 = .ok (.iload 4, 2) := by decide +kernel
theorem dX6_settles_67 : decode cX6_settles 67 = .ok (.aload_n 0, 1) := by decide +kernel
theorem dX6_settles_68 : decode cX6_settles 68 = .ok (.getfield 151, 3) := by decide +kernel
theorem dX6_settles_71 : decode cX6_settles 71 = .ok (.if_icmp .ge 108, 3) := by decide +kernel
theorem dX6_settles_74 : decode cX6_settles 74 = .ok (.aload_n 0, 1) := by decide +kernel
theorem dX6_settles_75 : decode cX6_settles 75 = .ok (.getfield 92, 3) := by decide +kernel
theorem dX6_settles_78 : decode cX6_settles 78 = .ok (.iload 4, 2) := by decide +kernel
theorem dX6_settles_80 : decode cX6_settles 80 = .ok (.iaload, 1) := by decide +kernel
theorem dX6_settles_81 : decode cX6_settles 81 = .ok (.aload_n 0, 1) := by decide +kernel
theorem dX6_settles_82 : decode cX6_settles 82 = .ok (.getfield 95, 3) := by decide +kernel
theorem dX6_settles_85 : decode cX6_settles 85 = .ok (.iload 4, 2) := by decide +kernel
theorem dX6_settles_87 : decode cX6_settles 87 = .ok (.iaload, 1) := by decide +kernel
theorem dX6_settles_88 : decode cX6_settles 88 = .ok (.if_icmp .ne 6, 3) := by decide +kernel
theorem dX6_settles_91 : decode cX6_settles 91 = .ok (.goto 82, 3) := by decide +kernel
theorem dX6_settles_94 : decode cX6_settles 94 = .ok (.aload_n 0, 1) := by decide +kernel
theorem dX6_settles_95 : decode cX6_settles 95 = .ok (.iload 4, 2) := by decide +kernel
theorem dX6_settles_97 : decode cX6_settles 97 = .ok (.aload_n 0, 1) := by decide +kernel
theorem dX6_settles_98 : decode cX6_settles 98 = .ok (.getfield 92, 3) := by decide +kernel
theorem dX6_settles_101 : decode cX6_settles 101 = .ok (.iload 4, 2) := by decide +kernel
theorem dX6_settles_103 : decode cX6_settles 103 = .ok (.iaload, 1) := by decide +kernel
theorem dX6_settles_104 : decode cX6_settles 104 = .ok (.invokevirtual 260, 3) := by decide +kernel
theorem dX6_settles_107 : decode cX6_settles 107 = .ok (.istore 5, 2) := by decide +kernel
theorem dX6_settles_109 : decode cX6_settles 109 = .ok (.iload 5, 2) := by decide +kernel
theorem dX6_settles_111 : decode cX6_settles 111 = .ok (.bipush (-2), 2) := by decide +kernel
theorem dX6_settles_113 : decode cX6_settles 113 = .ok (.if_icmp .ne 6, 3) := by decide +kernel
theorem dX6_settles_116 : decode cX6_settles 116 = .ok (.bipush (-2), 2) := by decide +kernel
theorem dX6_settles_118 : decode cX6_settles 118 = .ok (.ireturn, 1) := by decide +kernel
theorem dX6_settles_119 : decode cX6_settles 119 = .ok (.aload_n 0, 1) := by decide +kernel
theorem dX6_settles_120 : decode cX6_settles 120 = .ok (.iload 4, 2) := by decide +kernel
theorem dX6_settles_122 : decode cX6_settles 122 = .ok (.aload_n 0, 1) := by decide +kernel
theorem dX6_settles_123 : decode cX6_settles 123 = .ok (.getfield 95, 3) := by decide +kernel
theorem dX6_settles_126 : decode cX6_settles 126 = .ok (.iload 4, 2) := by decide +kernel
theorem dX6_settles_128 : decode cX6_settles 128 = .ok (.iaload, 1) := by decide +kernel
theorem dX6_settles_129 : decode cX6_settles 129 = .ok (.invokevirtual 260, 3) := by decide +kernel
theorem dX6_settles_132 : decode cX6_settles 132 = .ok (.istore 6, 2) := by decide +kernel
theorem dX6_settles_134 : decode cX6_settles 134 = .ok (.iload 6, 2) := by decide +kernel
theorem dX6_settles_136 : decode cX6_settles 136 = .ok (.bipush (-2), 2) := by decide +kernel
theorem dX6_settles_138 : decode cX6_settles 138 = .ok (.if_icmp .ne 6, 3) := by decide +kernel
theorem dX6_settles_141 : decode cX6_settles 141 = .ok (.bipush (-2), 2) := by decide +kernel
theorem dX6_settles_143 : decode cX6_settles 143 = .ok (.ireturn, 1) := by decide +kernel
theorem dX6_settles_144 : decode cX6_settles 144 = .ok (.iload 5, 2) := by decide +kernel
theorem dX6_settles_146 : decode cX6_settles 146 = .ok (.iload 6, 2) := by decide +kernel
theorem dX6_settles_148 : decode cX6_settles 148 = .ok (.invokestatic 128, 3) := by decide +kernel
theorem dX6_settles_151 : decode cX6_settles 151 = .ok (.istore 7, 2) := by decide +kernel
theorem dX6_settles_153 : decode cX6_settles 153 = .ok (.iload_n 2, 1) := by decide +kernel
theorem dX6_settles_154 : decode cX6_settles 154 = .ok (.iconst (-1), 1) := by decide +kernel
theorem dX6_settles_155 : decode cX6_settles 155 = .ok (.if_icmp .eq 12, 3) := by decide +kernel
theorem dX6_settles_158 : decode cX6_settles 158 = .ok (.iload 7, 2) := by decide +kernel
theorem dX6_settles_160 : decode cX6_settles 160 = .ok (.iload_n 3, 1) := by decide +kernel
theorem dX6_settles_161 : decode cX6_settles 161 = .ok (.if_icmp .lt 6, 3) := by decide +kernel
theorem dX6_settles_164 : decode cX6_settles 164 = .ok (.goto 9, 3) := by decide +kernel
theorem dX6_settles_167 : decode cX6_settles 167 = .ok (.iload 4, 2) := by decide +kernel
theorem dX6_settles_169 : decode cX6_settles 169 = .ok (.istore_n 2, 1) := by decide +kernel
theorem dX6_settles_170 : decode cX6_settles 170 = .ok (.iload 7, 2) := by decide +kernel
theorem dX6_settles_172 : decode cX6_settles 172 = .ok (.istore_n 3, 1) := by decide +kernel
theorem dX6_settles_173 : decode cX6_settles 173 = .ok (.iinc 4 1, 3) := by decide +kernel
theorem dX6_settles_176 : decode cX6_settles 176 = .ok (.goto (-111), 3) := by decide +kernel
theorem dX6_settles_179 : decode cX6_settles 179 = .ok (.iload_n 2, 1) := by decide +kernel
theorem dX6_settles_180 : decode cX6_settles 180 = .ok (.ireturn, 1) := by decide +kernel
theorem dX6_count_0 : decode cX6_count 0 = .ok (.aload_n 0, 1) := by decide +kernel
theorem dX6_count_1 : decode cX6_count 1 = .ok (.iconst 0, 1) := by decide +kernel
theorem dX6_count_2 : decode cX6_count 2 = .ok (.putfield 98, 3) := by decide +kernel
theorem dX6_count_5 : decode cX6_count 5 = .ok (.iload_n 1, 1) := by decide +kernel
theorem dX6_count_6 : decode cX6_count 6 = .ok (.tableswitch 50 0 3 #[30, 35, 40, 45], 30) := by decide +kernel
theorem dX6_count_36 : decode cX6_count 36 = .ok (.aload_n 0, 1) := by decide +kernel
theorem dX6_count_37 : decode cX6_count 37 = .ok (.getfield 148, 3) := by decide +kernel
theorem dX6_count_40 : decode cX6_count 40 = .ok (.ireturn, 1) := by decide +kernel
theorem dX6_count_41 : decode cX6_count 41 = .ok (.aload_n 0, 1) := by decide +kernel
theorem dX6_count_42 : decode cX6_count 42 = .ok (.getfield 151, 3) := by decide +kernel
theorem dX6_count_45 : decode cX6_count 45 = .ok (.ireturn, 1) := by decide +kernel
theorem dX6_count_46 : decode cX6_count 46 = .ok (.aload_n 0, 1) := by decide +kernel
theorem dX6_count_47 : decode cX6_count 47 = .ok (.getfield 158, 3) := by decide +kernel
theorem dX6_count_50 : decode cX6_count 50 = .ok (.ireturn, 1) := by decide +kernel
theorem dX6_count_51 : decode cX6_count 51 = .ok (.aload_n 0, 1) := by decide +kernel
theorem dX6_count_52 : decode cX6_count 52 = .ok (.getfield 219, 3) := by decide +kernel
theorem dX6_count_55 : decode cX6_count 55 = .ok (.ireturn, 1) := by decide +kernel
theorem dX6_count_56 : decode cX6_count 56 = .ok (.iconst (-1), 1) := by decide +kernel
theorem dX6_count_57 : decode cX6_count 57 = .ok (.ireturn, 1) := by decide +kernel
theorem dJ9_max_7cf53_0 : decode cJ9_max_7cf53 0 = .ok (.iload_n 0, 1) := by decide +kernel
theorem dJ9_max_7cf53_1 : decode cJ9_max_7cf53 1 = .ok (.iload_n 1, 1) := by decide +kernel
theorem dJ9_max_7cf53_2 : decode cJ9_max_7cf53 2 = .ok (.if_icmp .lt 7, 3) := by decide +kernel
theorem dJ9_max_7cf53_5 : decode cJ9_max_7cf53 5 = .ok (.iload_n 0, 1) := by decide +kernel
theorem dJ9_max_7cf53_6 : decode cJ9_max_7cf53 6 = .ok (.goto 4, 3) := by decide +kernel
theorem dJ9_max_7cf53_9 : decode cJ9_max_7cf53 9 = .ok (.iload_n 1, 1) := by decide +kernel
theorem dJ9_max_7cf53_10 : decode cJ9_max_7cf53 10 = .ok (.ireturn, 1) := by decide +kernel
theorem dJ9_min_7cf53_0 : decode cJ9_min_7cf53 0 = .ok (.iload_n 0, 1) := by decide +kernel
theorem dJ9_min_7cf53_1 : decode cJ9_min_7cf53 1 = .ok (.iload_n 1, 1) := by decide +kernel
theorem dJ9_min_7cf53_2 : decode cJ9_min_7cf53 2 = .ok (.if_icmp .gt 7, 3) := by decide +kernel
theorem dJ9_min_7cf53_5 : decode cJ9_min_7cf53 5 = .ok (.iload_n 0, 1) := by decide +kernel
theorem dJ9_min_7cf53_6 : decode cJ9_min_7cf53 6 = .ok (.goto 4, 3) := by decide +kernel
theorem dJ9_min_7cf53_9 : decode cJ9_min_7cf53 9 = .ok (.iload_n 1, 1) := by decide +kernel
theorem dJ9_min_7cf53_10 : decode cJ9_min_7cf53 10 = .ok (.ireturn, 1) := by decide +kernel
