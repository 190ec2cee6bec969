theorem dX6_isSaying_0 : decode cX6_isSaying 0 = .ok (.iload_n 1, 1) := by decide +kernel
theorem dX6_isSaying_1 : decode cX6_isSaying 1 = .ok (.ifCond .lt 15, 3) := by decide +kernel
theorem dX6_isSaying_4 : decode cX6_isSaying 4 = .ok (.iload_n 1, 1) := by decide +kernel
theorem dX6_isSaying_5 : decode cX6_isSaying 5 = .ok (.aload_n 0, 1) := by decide +kernel
theorem dX6_isSaying_6 : decode cX6_isSaying 6 = .ok (.getfield 158, 3) := by decide +kernel
theorem dX6_isSaying_9 : decode cX6_isSaying 9 = .ok (.if_icmp .ge 7, 3) := by decide +kernel
theorem dX6_isSaying_12 : decode cX6_isSaying 12 = .ok (.iconst 1, 1) := by decide +kernel
theorem dX6_isSaying_13 : decode cX6_isSaying 13 = .ok (.goto 4, 3) := by decide +kernel
theorem dX6_isSaying_16 : decode cX6_isSaying 16 = .ok (.iconst 0, 1) := by decide +kernel
theorem dX6_isSaying_17 : decode cX6_isSaying 17 = .ok (.ireturn, 1) := by decide +kernel
set_option maxRecDepth 20000 in
theorem ggX6_copy_X6_isSaying : GoodIn wsX6_copy wsX6_isSaying := goodIn_r _ [7, 8, 9, 10, 11, 12, 13, 14, 15, 16, 17, 18, 19, 20, 21, 22, 23, 24, 25, 26, 27, 28, 29, 30, 31, 32, 33, 34, 35, 36, 37, 38, 39, 40, 41, 42, 43, 44, 45, 46, 47, 48, 49, 50, 51] (by decide +kernel) (by decide +kernel)
set_option maxRecDepth 20000 in
theorem gX6_copy_X6_isSaying : GoodIn wsX6_copy (wsV RX6 181 RX6 yX6_isSaying wsX6_isSaying) := goodIn_app (goodIn_of _ (by decide +kernel)) ggX6_copy_X6_isSaying
theorem dX6_copy_0 : decode cX6_copy 0 = .ok (.aload_n 0, 1) := by decide +kernel
theorem dX6_copy_1 : decode cX6_copy 1 = .ok (.iconst 0, 1) := by decide +kernel
theorem dX6_copy_2 : decode cX6_copy 2 = .ok (.putfield 98, 3) := by decide +kernel
theorem dX6_copy_5 : decode cX6_copy 5 = .ok (.aload_n 0, 1) := by decide +kernel
theorem dX6_copy_6 : decode cX6_copy 6 = .ok (.iload_n 1, 1) := by decide +kernel
theorem dX6_copy_7 : decode cX6_copy 7 = .ok (.invokevirtual 181, 3) := by decide +kernel
theorem dX6_copy_10 : decode cX6_copy 10 = .ok (.ifCond .eq 22, 3) := by decide +kernel
theorem dX6_copy_13 : decode cX6_copy 13 = .ok (.iload_n 2, 1) := by decide +kernel
theorem dX6_copy_14 : decode cX6_copy 14 = .ok (.ifCond .lt 18, 3) := by decide +kernel
theorem dX6_copy_17 : decode cX6_copy 17 = .ok (.iload_n 2, 1) := by decide +kernel
theorem dX6_copy_18 : decode cX6_copy 18 = .ok (.iload_n 1, 1) := by decide +kernel
theorem dX6_copy_19 : decode cX6_copy 19 = .ok (.if_icmp .ge 13, 3) := by decide +kernel
theorem dX6_copy_22 : decode cX6_copy 22 = .ok (.aload_n 0, 1) := by decide +kernel
theorem dX6_copy_23 : decode cX6_copy 23 = .ok (.getfield 37, 3) := by decide +kernel
theorem dX6_copy_26 : decode cX6_copy 26 = .ok (.iload_n 1, 1) := by decide +kernel
theorem dX6_copy_27 : decode cX6_copy 27 = .ok (.iaload, 1) := by decide +kernel
theorem dX6_copy_28 : decode cX6_copy 28 = .ok (.iconst (-1), 1) := by decide +kernel
theorem dX6_copy_29 : decode cX6_copy 29 = .ok (.if_icmp .eq 5, 3) := by decide +kernel
theorem dX6_copy_32 : decode cX6_copy 32 = .ok (.iconst 0, 1) := by decide +kernel
theorem dX6_copy_33 : decode cX6_copy 33 = .ok (.ireturn, 1) := by decide +kernel
theorem dX6_copy_34 : decode cX6_copy 34 = .ok (.aload_n 0, 1) := by decide +kernel
theorem dX6_copy_35 : decode cX6_copy 35 = .ok (.getfield 37, 3) := by decide +kernel
theorem dX6_copy_38 : decode cX6_copy 38 = .ok (.iload_n 1, 1) := by decide +kernel
theorem dX6_copy_39 : decode cX6_copy 39 = .ok (.iload_n 2, 1) := by decide +kernel
theorem dX6_copy_40 : decode cX6_copy 40 = .ok (.iastore, 1) := by decide +kernel
theorem dX6_copy_41 : decode cX6_copy 41 = .ok (.iconst 1, 1) := by decide +kernel
theorem dX6_copy_42 : decode cX6_copy 42 = .ok (.ireturn, 1) := by decide +kernel
set_option maxRecDepth 20000 in
theorem ggX6_take_X6_isSaying : GoodIn wsX6_take wsX6_isSaying := goodIn_r _ [7, 8, 9, 10, 11, 12, 13, 14, 15, 16, 17, 18, 19, 20, 21, 22, 23, 24, 25, 26, 27, 28, 29, 30, 31, 32, 33, 34, 35, 36, 37, 38, 39, 40, 41, 42, 43, 44, 45, 46, 47, 48, 49, 50, 51] (by decide +kernel) (by decide +kernel)
set_option maxRecDepth 20000 in
theorem gX6_take_X6_isSaying : GoodIn wsX6_take (wsV RX6 181 RX6 yX6_isSaying wsX6_isSaying) := goodIn_app (goodIn_of _ (by decide +kernel)) ggX6_take_X6_isSaying
theorem dX6_take_0 : decode cX6_take 0 = .ok (.aload_n 0, 1) := by decide +kernel
theorem dX6_take_1 : decode cX6_take 1 = .ok (.iconst 0, 1) := by decide +kernel
theorem dX6_take_2 : decode cX6_take 2 = .ok (.putfield 98, 3) := by decide +kernel
theorem dX6_take_5 : decode cX6_take 5 = .ok (.aload_n 0, 1) := by decide +kernel
theorem dX6_take_6 : decode cX6_take 6 = .ok (.iload_n 1, 1) := by decide +kernel
theorem dX6_take_7 : decode cX6_take 7 = .ok (.invokevirtual 181, 3) := by decide +kernel
theorem dX6_take_10 : decode cX6_take 10 = .ok (.ifCond .eq 13, 3) := by decide +kernel
theorem dX6_take_13 : decode cX6_take 13 = .ok (.aload_n 0, 1) := by decide +kernel
theorem dX6_take_14 : decode cX6_take 14 = .ok (.getfield 40, 3) := by decide +kernel
theorem dX6_take_17 : decode cX6_take 17 = .ok (.iload_n 1, 1) := by decide +kernel
theorem dX6_take_18 : decode cX6_take 18 = .ok (.baload, 1) := by decide +kernel
theorem dX6_take_19 : decode cX6_take 19 = .ok (.iload_n 2, 1) := by decide +kernel
theorem dX6_take_20 : decode cX6_take 20 = .ok (.if_icmp .ne 5, 3) := by decide +kernel
theorem dX6_take_23 : decode cX6_take 23 = .ok (.iconst 0, 1) := by decide +kernel
theorem dX6_take_24 : decode cX6_take 24 = .ok (.ireturn, 1) := by decide +kernel
theorem dX6_take_25 : decode cX6_take 25 = .ok (.aload_n 0, 1) := by decide +kernel
theorem dX6_take_26 : decode cX6_take 26 = .ok (.getfield 40, 3) := by decide +kernel
theorem dX6_take_29 : decode cX6_take 29 = .ok (.iload_n 1, 1) := by decide +kernel
theorem dX6_take_30 : decode cX6_take 30 = .ok (.iload_n 2, 1) := by decide +kernel
theorem dX6_take_31 : decode cX6_take 31 = .ok (.bastore, 1) := by decide +kernel
theorem dX6_take_32 : decode cX6_take 32 = .ok (.iconst 1, 1) := by decide +kernel
theorem dX6_take_33 : decode cX6_take 33 = .ok (.ireturn, 1) := by decide +kernel
theorem dX6_rootOf_0 : decode cX6_rootOf 0 = .ok (.iload_n 1, 1) := by decide +kernel
theorem dX6_rootOf_1 : decode cX6_rootOf 1 = .ok (.istore_n 2, 1) := by decide +kernel
theorem dX6_rootOf_2 : decode cX6_rootOf 2 = .ok (.aload_n 0, 1) := by decide +kernel
theorem dX6_rootOf_3 : decode cX6_rootOf 3 = .ok (.getfield 37, 3) := by decide +kernel
theorem dX6_rootOf_6 : decode cX6_rootOf 6 = .ok (.iload_n 2, 1) := by decide +kernel
theorem dX6_rootOf_7 : decode cX6_rootOf 7 = .ok (.iaload, 1) := by decide +kernel
theorem dX6_rootOf_8 : decode cX6_rootOf 8 = .ok (.iconst (-1), 1) := by decide +kernel
theorem dX6_rootOf_9 : decode cX6_rootOf 9 = .ok (.if_icmp .eq 13, 3) := by decide +kernel
theorem dX6_rootOf_12 : decode cX6_rootOf 12 = .ok (.aload_n 0, 1) := by decide +kernel
theorem dX6_rootOf_13 : decode cX6_rootOf 13 = .ok (.getfield 37, 3) := by decide +kernel
theorem dX6_rootOf_16 : decode cX6_rootOf 16 = .ok (.iload_n 2, 1) := by decide +kernel
theorem dX6_rootOf_17 : decode cX6_rootOf 17 = .ok (.iaload, 1) := by decide +kernel
theorem dX6_rootOf_18 : decode cX6_rootOf 18 = .ok (.istore_n 2, 1) := by decide +kernel
theorem dX6_rootOf_19 : decode cX6_rootOf 19 = .ok (.goto (-17), 3) := by decide +kernel
theorem dX6_rootOf_22 : decode cX6_rootOf 22 = .ok (.iload_n 2, 1) := by decide +kernel
theorem dX6_rootOf_23 : decode cX6_rootOf 23 = .ok (.ireturn, 1) := by decide +kernel
set_option maxRecDepth 20000 in
theorem ggX6_look_X6_isSaying : GoodIn wsX6_look wsX6_isSaying := goodIn_r _ [12, 13, 18, 19, 20, 21, 22, 23, 24, 25, 26, 27, 28, 29, 30, 31, 32, 33, 34, 35, 36, 37, 38, 39, 40, 41, 42, 43, 44, 45, 46, 47, 48, 49, 50, 51, 52, 53, 54, 55, 56, 57, 58, 59, 60] (by decide +kernel) (by decide +kernel)
set_option maxRecDepth 20000 in
theorem gX6_look_X6_isSaying : GoodIn wsX6_look (wsV RX6 181 RX6 yX6_isSaying wsX6_isSaying) := goodIn_app (goodIn_of _ (by decide +kernel)) ggX6_look_X6_isSaying
set_option maxRecDepth 20000 in
theorem ggX6_look_X6_rootOf : GoodIn wsX6_look wsX6_rootOf := goodIn_r _ [17, 6, 18, 19, 20, 21, 22, 23, 24, 25, 26, 27, 28, 29, 30, 31, 32, 33, 34, 35, 36, 37, 38, 39, 40, 41, 42, 43, 44, 45, 46, 47, 48, 49, 50, 51, 52, 53, 54, 55, 56, 57, 58, 59, 60] (by decide +kernel) (by decide +kernel)
set_option maxRecDepth 20000 in
theorem gX6_look_X6_rootOf : GoodIn wsX6_look (wsV RX6 184 RX6 yX6_rootOf wsX6_rootOf) := goodIn_app (goodIn_of _ (by decide +kernel)) ggX6_look_X6_rootOf
theorem dX6_look_0 : decode cX6_look 0 = .ok (.aload_n 0, 1) := by decide +kernel
theorem dX6_look_1 : decode cX6_look 1 = .ok (.iconst 0, 1) := by decide +kernel
theorem dX6_look_2 : decode cX6_look 2 = .ok (.putfield 98, 3) := by decide +kernel
theorem dX6_look_5 : decode cX6_look 5 = .ok (.aload_n 0, 1) := by decide +kernel
theorem dX6_look_6 : decode cX6_look 6 = .ok (.iload_n 1, 1) := by decide +kernel
theorem dX6_look_7 : decode cX6_look 7 = .ok (.invokevirtual 181, 3) := by decide +kernel
theorem dX6_look_10 : decode cX6_look 10 = .ok (.ifCond .ne 5, 3) := by decide +kernel
theorem dX6_look_13 : decode cX6_look 13 = .ok (.iconst (-1), 1) := by decide +kernel
theorem dX6_look_14 : decode cX6_look 14 = .ok (.ireturn, 1) := by decide +kernel
theorem dX6_look_15 : decode cX6_look 15 = .ok (.iload_n 2, 1) := by decide +kernel
theorem dX6_look_16 : decode cX6_look 16 = .ok (.tableswitch 100 0 6 #[44, 51, 58, 65, 80, 87, 93], 44) := by decide +kernel
theorem dX6_look_60 : decode cX6_look 60 = .ok (.aload_n 0, 1) := by decide +kernel
theorem dX6_look_61 : decode cX6_look 61 = .ok (.getfield 19, 3) := by decide +kernel
theorem dX6_look_64 : decode cX6_look 64 = .ok (.iload_n 1, 1) := by decide +kernel
theorem dX6_look_65 : decode cX6_look 65 = .ok (.iaload, 1) := by decide +kernel
theorem dX6_look_66 : decode cX6_look 66 = .ok (.ireturn, 1) := by decide +kernel
theorem dX6_look_67 : decode cX6_look 67 = .ok (.aload_n 0, 1) := by decide +kernel
theorem dX6_look_68 : decode cX6_look 68 = .ok (.getfield 22, 3) := by decide +kernel
theorem dX6_look_71 : decode cX6_look 71 = .ok (.iload_n 1, 1) := by decide +kernel
theorem dX6_look_72 : decode cX6_look 72 = .ok (.iaload, 1) := by decide +kernel
theorem dX6_look_73 : decode cX6_look 73 = .ok (.ireturn, 1) := by decide +kernel
theorem dX6_look_74 : decode cX6_look 74 = .ok (.aload_n 0, 1) := by decide +kernel
theorem dX6_look_75 : decode cX6_look 75 = .ok (.getfield 34, 3) := by decide +kernel
theorem dX6_look_78 : decode cX6_look 78 = .ok (.iload_n 1, 1) := by decide +kernel
theorem dX6_look_79 : decode cX6_look 79 = .ok (.iaload, 1) := by decide +kernel
theorem dX6_look_80 : decode cX6_look 80 = .ok (.ireturn, 1) := by decide +kernel
theorem dX6_look_81 : decode cX6_look 81 = .ok (.aload_n 0, 1) := by decide +kernel
theorem dX6_look_82 : decode cX6_look 82 = .ok (.getfield 40, 3) := by decide +kernel
theorem dX6_look_85 : decode cX6_look 85 = .ok (.iload_n 1, 1) := by decide +kernel
theorem dX6_look_86 : decode cX6_look 86 = .ok (.baload, 1) := by decide +kernel
theorem dX6_look_87 : decode cX6_look 87 = .ok (.ifCond .eq 7, 3) := by decide +kernel
theorem dX6_look_90 : decode cX6_look 90 = .ok (.iconst 1, 1) := by decide +kernel
theorem dX6_look_91 : decode cX6_look 91 = .ok (.goto 4, 3) := by decide +kernel
theorem dX6_look_94 : decode cX6_look 94 = .ok (.iconst 0, 1) := by decide +kernel
theorem dX6_look_95 : decode cX6_look 95 = .ok (.ireturn, 1) := by decide +kernel
theorem dX6_look_96 : decode cX6_look 96 = .ok (.aload_n 0, 1) := by decide +kernel
theorem dX6_look_97 : decode cX6_look 97 = .ok (.getfield 37, 3) := by decide +kernel
theorem dX6_look_100 : decode cX6_look 100 = .ok (.iload_n 1, 1) := by decide +kernel
theorem dX6_look_101 : decode cX6_look 101 = .ok (.iaload, 1) := by decide +kernel
theorem dX6_look_102 : decode cX6_look 102 = .ok (.ireturn, 1) := by decide +kernel
theorem dX6_look_103 : decode cX6_look 103 = .ok (.aload_n 0, 1) := by decide +kernel
theorem dX6_look_104 : decode cX6_look 104 = .ok (.iload_n 1, 1) := by decide +kernel
theorem dX6_look_105 : decode cX6_look 105 = .ok (.invokevirtual 184, 3) := by decide +kernel
theorem dX6_look_108 : decode cX6_look 108 = .ok (.ireturn, 1) := by decide +kernel
theorem dX6_look_109 : decode cX6_look 109 = .ok (.aload_n 0, 1) := by decide +kernel
theorem dX6_look_110 : decode cX6_look 110 = .ok (.getfield 50, 3) := by decide +kernel
theorem dX6_look_113 : decode cX6_look 113 = .ok (.iload_n 1, 1) := by decide +kernel
theorem dX6_look_114 : decode cX6_look 114 = .ok (.iaload, 1) := by decide +kernel
theorem dX6_look_115 : decode cX6_look 115 = .ok (.ireturn, 1) := by decide +kernel
theorem dX6_look_116 : decode cX6_look 116 = .ok (.iconst (-1), 1) := by decide +kernel
theorem dX6_look_117 : decode cX6_look 117 = .ok (.ireturn, 1) := by decide +kernel
set_option maxRecDepth 20000 in
theorem ggX6_span_X6_isSaying : GoodIn wsX6_span wsX6_isSaying := goodIn_r _ [9, 10, 11, 12, 13, 14, 15, 16, 17, 18, 19, 20, 21, 22, 23, 24, 25, 26, 27, 28, 29, 30, 31, 32, 33, 34, 35, 36, 37, 38, 39, 40, 41, 42, 43, 44, 45, 46, 47, 48, 49, 50, 51, 52, 53] (by decide +kernel) (by decide +kernel)
set_option maxRecDepth 20000 in
theorem gX6_span_X6_isSaying : GoodIn wsX6_span (wsV RX6 181 RX6 yX6_isSaying wsX6_isSaying) := goodIn_app (goodIn_of _ (by decide +kernel)) ggX6_span_X6_isSaying
theorem dX6_span_0 : decode cX6_span 0 = .ok (.aload_n 0, 1) := by decide +kernel
theorem dX6_span_1 : decode cX6_span 1 = .ok (.iconst 0, 1) := by decide +kernel
theorem dX6_span_2 : decode cX6_span 2 = .ok (.putfield 98, 3) := by decide +kernel
theorem dX6_span_5 : decode cX6_span 5 = .ok (.aload_n 0, 1) := by decide +kernel
theorem dX6_span_6 : decode cX6_span 6 = .ok (.iload_n 1, 1) := by decide +kernel
theorem dX6_span_7 : decode cX6_span 7 = .ok (.invokevirtual 181, 3) := by decide +kernel
theorem dX6_span_10 : decode cX6_span 10 = .ok (.ifCond .eq 17, 3) := by decide +kernel
theorem dX6_span_13 : decode cX6_span 13 = .ok (.iload_n 2, 1) := by decide +kernel
theorem dX6_span_14 : decode cX6_span 14 = .ok (.ifCond .lt 13, 3) := by decide +kernel
theorem dX6_span_17 : decode cX6_span 17 = .ok (.iload_n 2, 1) := by decide +kernel
theorem dX6_span_18 : decode cX6_span 18 = .ok (.aload_n 0, 1) := by decide +kernel
theorem dX6_span_19 : decode cX6_span 19 = .ok (.getfield 50, 3) := by decide +kernel
theorem dX6_span_22 : decode cX6_span 22 = .ok (.iload_n 1, 1) := by decide +kernel
theorem dX6_span_23 : decode cX6_span 23 = .ok (.iaload, 1) := by decide +kernel
theorem dX6_span_24 : decode cX6_span 24 = .ok (.if_icmp .lt 5, 3) := by decide +kernel
theorem dX6_span_27 : decode cX6_span 27 = .ok (.iconst (-1), 1) := by decide +kernel
theorem dX6_span_28 : decode cX6_span 28 = .ok (.ireturn, 1) := by decide +kernel
theorem dX6_span_29 : decode cX6_span 29 = .ok (.iload_n 3, 1) := by decide +kernel
theorem dX6_span_30 : decode cX6_span 30 = .ok (.ifCond .eq 17, 3) := by decide +kernel
theorem dX6_span_33 : decode cX6_span 33 = .ok (.aload_n 0, 1) := by decide +kernel
theorem dX6_span_34 : decode cX6_span 34 = .ok (.getfield 47, 3) := by decide +kernel
theorem dX6_span_37 : decode cX6_span 37 = .ok (.bipush 10, 2) := by decide +kernel
theorem dX6_span_39 : decode cX6_span 39 = .ok (.iload_n 1, 1) := by decide +kernel
theorem dX6_span_40 : decode cX6_span 40 = .ok (.imul, 1) := by decide +kernel
theorem dX6_span_41 : decode cX6_span 41 = .ok (.iload_n 2, 1) := by decide +kernel
theorem dX6_span_42 : decode cX6_span 42 = .ok (.iadd, 1) := by decide +kernel
theorem dX6_span_43 : decode cX6_span 43 = .ok (.iaload, 1) := by decide +kernel
theorem dX6_span_44 : decode cX6_span 44 = .ok (.goto 14, 3) := by decide +kernel
theorem dX6_span_47 : decode cX6_span 47 = .ok (.aload_n 0, 1) := by decide +kernel
theorem dX6_span_48 : decode cX6_span 48 = .ok (.getfield 44, 3) := by decide +kernel
theorem dX6_span_51 : decode cX6_span 51 = .ok (.bipush 10, 2) := by decide +kernel
theorem dX6_span_53 : decode cX6_span 53 = .ok (.iload_n 1, 1) := by decide +kernel
theorem dX6_span_54 : decode cX6_span 54 = .ok (.imul, 1) := by decide +kernel
theorem dX6_span_55 : decode cX6_span 55 = .ok (.iload_n 2, 1) := by decide +kernel
theorem dX6_span_56 : decode cX6_span 56 = .ok (.iadd, 1) := by decide +kernel
theorem dX6_span_57 : decode cX6_span 57 = .ok (.iaload, 1) := by decide +kernel
theorem dX6_span_58 : decode cX6_span 58 = .ok (.ireturn, 1) := by decide +kernel
theorem dX6_isAsked_0 : decode cX6_isAsked 0 = .ok (.aload_n 0, 1) := by decide +kernel
theorem dX6_isAsked_1 : decode cX6_isAsked 1 = .ok (.getfield 187, 3) := by decide +kernel
theorem dX6_isAsked_4 : decode cX6_isAsked 4 = .ok (.iload_n 1, 1) := by decide +kernel
theorem dX6_isAsked_5 : decode cX6_isAsked 5 = .ok (.ishr, 1) := by decide +kernel
theorem dX6_isAsked_6 : decode cX6_isAsked 6 = .ok (.iconst 1, 1) := by decide +kernel
theorem dX6_isAsked_7 : decode cX6_isAsked 7 = .ok (.iand, 1) := by decide +kernel
theorem dX6_isAsked_8 : decode cX6_isAsked 8 = .ok (.iconst 1, 1) := by decide +kernel
theorem dX6_isAsked_9 : decode cX6_isAsked 9 = .ok (.if_icmp .ne 7, 3) := by decide +kernel
theorem dX6_isAsked_12 : decode cX6_isAsked 12 = .ok (.iconst 1, 1) := by decide +kernel
theorem dX6_isAsked_13 : decode cX6_isAsked 13 = .ok (.goto 4, 3) := by decide +kernel
theorem dX6_isAsked_16 : decode cX6_isAsked 16 = .ok (.iconst 0, 1) := by decide +kernel
theorem dX6_isAsked_17 : decode cX6_isAsked 17 = .ok (.ireturn, 1) := by decide +kernel
theorem dX6_takenAll_0 : decode cX6_takenAll 0 = .ok (.iconst 0, 1) := by decide +kernel
theorem dX6_takenAll_1 : decode cX6_takenAll 1 = .ok (.istore_n 1, 1) := by decide +kernel
theorem dX6_takenAll_2 : decode cX6_takenAll 2 = .ok (.iconst 0, 1) := by decide +kernel
theorem dX6_takenAll_3 : decode cX6_takenAll 3 = .ok (.istore_n 2, 1) := by decide +kernel
theorem dX6_takenAll_4 : decode cX6_takenAll 4 = .ok (.iload_n 2, 1) := by decide +kernel
theorem dX6_takenAll_5 : decode cX6_takenAll 5 = .ok (.aload_n 0, 1) := by decide +kernel
theorem dX6_takenAll_6 : decode cX6_takenAll 6 = .ok (.getfield 158, 3) := by decide +kernel
theorem dX6_takenAll_9 : decode cX6_takenAll 9 = .ok (.if_icmp .ge 28, 3) := by decide +kernel
theorem dX6_takenAll_12 : decode cX6_takenAll 12 = .ok (.iload_n 1, 1) := by decide +kernel
theorem dX6_takenAll_13 : decode cX6_takenAll 13 = .ok (.aload_n 0, 1) := by decide +kernel
theorem dX6_takenAll_14 : decode cX6_takenAll 14 = .ok (.getfield 40, 3) := by decide +kernel
theorem dX6_takenAll_17 : decode cX6_takenAll 17 = .ok (.iload_n 2, 1) := by decide +kernel
theorem dX6_takenAll_18 : decode cX6_takenAll 18 = .ok (.baload, 1) := by decide +kernel
theorem dX6_takenAll_19 : decode cX6_takenAll 19 = .ok (.ifCond .eq 9, 3) := by decide +kernel
theorem dX6_takenAll_22 : decode cX6_takenAll 22 = .ok (.iconst 1, 1) := by decide +kernel
theorem dX6_takenAll_23 : decode cX6_takenAll 23 = .ok (.iload_n 2, 1) := by decide +kernel
theorem dX6_takenAll_24 : decode cX6_takenAll 24 = .ok (.ishl, 1) := by decide +kernel
theorem dX6_takenAll_25 : decode cX6_takenAll 25 = .ok (.goto 4, 3) := by decide +kernel
theorem dX6_takenAll_28 : decode cX6_takenAll 28 = .ok (.iconst 0, 1) := by decide +kernel
theorem dX6_takenAll_29 : decode cX6_takenAll 29 = .ok (.ior, 1) := by decide +kernel
theorem dX6_takenAll_30 : decode cX6_takenAll 30 = .ok (.istore_n 1, 1) := by decide +kernel
theorem dX6_takenAll_31 : decode cX6_takenAll 31 = .ok (.iinc 2 1, 3) := by decide +kernel
theorem dX6_takenAll_34 : decode cX6_takenAll 34 = .ok (.goto (-30), 3) := by decide +kernel
theorem dX6_takenAll_37 : decode cX6_takenAll 37 = .ok (.iload_n 1, 1) := by decide +kernel
theorem dX6_takenAll_38 : decode cX6_takenAll 38 = .ok (.ireturn, 1) := by decide +kernel
set_option maxRecDepth 20000 in
theorem ggX6_eventSpans_X6_isAsked : GoodIn wsX6_eventSpans wsX6_isAsked := goodIn_r _ [14, 15, 37, 38, 39, 40, 41, 42, 43, 44, 45, 46, 47, 48, 49, 50, 51, 52, 53, 54, 55, 56, 57, 58, 59, 60, 61, 62, 63, 64, 65, 66, 67, 68, 69, 70, 71, 72, 73, 74, 75, 76, 77, 78, 79] (by decide +kernel) (by decide +kernel)
set_option maxRecDepth 20000 in
theorem gX6_eventSpans_X6_isAsked : GoodIn wsX6_eventSpans (wsV RX6 190 RX6 yX6_isAsked wsX6_isAsked) := goodIn_app (goodIn_of _ (by decide +kernel)) ggX6_eventSpans_X6_isAsked
set_option maxRecDepth 20000 in
theorem ggX6_eventSpans_X6_cutsDown : GoodIn wsX6_eventSpans wsX6_cutsDown := goodIn_r _ [19, 2, 20, 3, 21, 22, 23, 24, 25, 4, 26, 27, 28, 29, 30, 31, 37, 38, 39, 40, 41, 42, 43, 44, 45, 46, 47, 48, 49, 50, 51, 52, 53, 54, 55, 56, 57, 58, 59, 60, 61, 62, 63, 64, 65, 66, 67, 68, 69, 70, 71, 72, 73, 74, 75, 76, 77, 78, 79] (by decide +kernel) (by decide +kernel)
set_option maxRecDepth 20000 in
theorem gX6_eventSpans_X6_cutsDown : GoodIn wsX6_eventSpans (wsV RX6 193 RX6 yX6_cutsDown wsX6_cutsDown) := goodIn_app (goodIn_of _ (by decide +kernel)) ggX6_eventSpans_X6_cutsDown
set_option maxRecDepth 20000 in
theorem ggX6_eventSpans_X6_toFind : GoodIn wsX6_eventSpans wsX6_toFind := goodIn_r _ [35, 2, 36, 3, 4, 37, 38, 39, 40, 41, 42, 43, 44, 45, 46, 47, 48, 49, 50, 51, 52, 53, 54, 55, 56, 57, 58, 59, 60, 61, 62, 63, 64, 65, 66, 67, 68, 69, 70, 71, 72, 73, 74, 75, 76, 77, 78, 79] (by decide +kernel) (by decide +kernel)
set_option maxRecDepth 20000 in
theorem gX6_eventSpans_X6_toFind : GoodIn wsX6_eventSpans (wsV RX6 199 RX6 yX6_toFind wsX6_toFind) := goodIn_app (goodIn_of _ (by decide +kernel)) ggX6_eventSpans_X6_toFind
theorem dX6_eventSpans_0 : decode cX6_eventSpans 0 = .ok (.iconst 0, 1) := by decide +kernel
theorem dX6_eventSpans_1 : decode cX6_eventSpans 1 = .ok (.istore_n 1, 1) := by decide +kernel
theorem dX6_eventSpans_2 : decode cX6_eventSpans 2 = .ok (.iload_n 1, 1) := by decide +kernel
theorem dX6_eventSpans_3 : decode cX6_eventSpans 3 = .ok (.aload_n 0, 1) := by decide +kernel
theorem dX6_eventSpans_4 : decode cX6_eventSpans 4 = .ok (.getfield 151, 3) := by decide +kernel
theorem dX6_eventSpans_7 : decode cX6_eventSpans 7 = .ok (.if_icmp .ge 101, 3) := by decide +kernel
theorem dX6_eventSpans_10 : decode cX6_eventSpans 10 = .ok (.aload_n 0, 1) := by decide +kernel
theorem dX6_eventSpans_11 : decode cX6_eventSpans 11 = .ok (.getfield 59, 3) := by decide +kernel
theorem dX6_eventSpans_14 : decode cX6_eventSpans 14 = .ok (.iload_n 1, 1) := by decide +kernel
theorem dX6_eventSpans_15 : decode cX6_eventSpans 15 = .ok (.iconst 1, 1) := by decide +kernel
theorem dX6_eventSpans_16 : decode cX6_eventSpans 16 = .ok (.iastore, 1) := by decide +kernel
theorem dX6_eventSpans_17 : decode cX6_eventSpans 17 = .ok (.aload_n 0, 1) := by decide +kernel
theorem dX6_eventSpans_18 : decode cX6_eventSpans 18 = .ok (.getfield 53, 3) := by decide +kernel
theorem dX6_eventSpans_21 : decode cX6_eventSpans 21 = .ok (.bipush 20, 2) := by decide +kernel
theorem dX6_eventSpans_23 : decode cX6_eventSpans 23 = .ok (.iload_n 1, 1) := by decide +kernel
theorem dX6_eventSpans_24 : decode cX6_eventSpans 24 = .ok (.imul, 1) := by decide +kernel
theorem dX6_eventSpans_25 : decode cX6_eventSpans 25 = .ok (.iconst 0, 1) := by decide +kernel
theorem dX6_eventSpans_26 : decode cX6_eventSpans 26 = .ok (.iastore, 1) := by decide +kernel
theorem dX6_eventSpans_27 : decode cX6_eventSpans 27 = .ok (.aload_n 0, 1) := by decide +kernel
theorem dX6_eventSpans_28 : decode cX6_eventSpans 28 = .ok (.getfield 56, 3) := by decide +kernel
theorem dX6_eventSpans_31 : decode cX6_eventSpans 31 = .ok (.bipush 20, 2) := by decide +kernel
theorem dX6_eventSpans_33 : decode cX6_eventSpans 33 = .ok (.iload_n 1, 1) := by decide +kernel
theorem dX6_eventSpans_34 : decode cX6_eventSpans 34 = .ok (.imul, 1) := by decide +kernel
theorem dX6_eventSpans_35 : decode cX6_eventSpans 35 = .ok (.ldc 154, 2) := by decide +kernel
theorem dX6_eventSpans_37 : decode cX6_eventSpans 37 = .ok (.iastore, 1) := by decide +kernel
theorem dX6_eventSpans_38 : decode cX6_eventSpans 38 = .ok (.iconst 0, 1) := by decide +kernel
theorem dX6_eventSpans_39 : decode cX6_eventSpans 39 = .ok (.istore_n 2, 1) := by decide +kernel
theorem dX6_eventSpans_40 : decode cX6_eventSpans 40 = .ok (.iload_n 2, 1) := by decide +kernel
theorem dX6_eventSpans_41 : decode cX6_eventSpans 41 = .ok (.aload_n 0, 1) := by decide +kernel
theorem dX6_eventSpans_42 : decode cX6_eventSpans 42 = .ok (.getfield 158, 3) := by decide +kernel
theorem dX6_eventSpans_45 : decode cX6_eventSpans 45 = .ok (.if_icmp .ge 44, 3) := by decide +kernel
theorem dX6_eventSpans_48 : decode cX6_eventSpans 48 = .ok (.aload_n 0, 1) := by decide +kernel
theorem dX6_eventSpans_49 : decode cX6_eventSpans 49 = .ok (.iload_n 2, 1) := by decide +kernel
theorem dX6_eventSpans_50 : decode cX6_eventSpans 50 = .ok (.invokevirtual 190, 3) := by decide +kernel
theorem dX6_eventSpans_53 : decode cX6_eventSpans 53 = .ok (.ifCond .eq 30, 3) := by decide +kernel
theorem dX6_eventSpans_56 : decode cX6_eventSpans 56 = .ok (.aload_n 0, 1) := by decide +kernel
theorem dX6_eventSpans_57 : decode cX6_eventSpans 57 = .ok (.getfield 19, 3) := by decide +kernel
theorem dX6_eventSpans_60 : decode cX6_eventSpans 60 = .ok (.iload_n 2, 1) := by decide +kernel
theorem dX6_eventSpans_61 : decode cX6_eventSpans 61 = .ok (.iaload, 1) := by decide +kernel
theorem dX6_eventSpans_62 : decode cX6_eventSpans 62 = .ok (.iload_n 1, 1) := by decide +kernel
theorem dX6_eventSpans_63 : decode cX6_eventSpans 63 = .ok (.if_icmp .ne 20, 3) := by decide +kernel
theorem dX6_eventSpans_66 : decode cX6_eventSpans 66 = .ok (.aload_n 0, 1) := by decide +kernel
theorem dX6_eventSpans_67 : decode cX6_eventSpans 67 = .ok (.getfield 22, 3) := by decide +kernel
theorem dX6_eventSpans_70 : decode cX6_eventSpans 70 = .ok (.iload_n 2, 1) := by decide +kernel
theorem dX6_eventSpans_71 : decode cX6_eventSpans 71 = .ok (.iaload, 1) := by decide +kernel
theorem dX6_eventSpans_72 : decode cX6_eventSpans 72 = .ok (.bipush 6, 2) := by decide +kernel
theorem dX6_eventSpans_74 : decode cX6_eventSpans 74 = .ok (.if_icmp .ge 9, 3) := by decide +kernel
theorem dX6_eventSpans_77 : decode cX6_eventSpans 77 = .ok (.aload_n 0, 1) := by decide +kernel
theorem dX6_eventSpans_78 : decode cX6_eventSpans 78 = .ok (.iload_n 1, 1) := by decide +kernel
theorem dX6_eventSpans_79 : decode cX6_eventSpans 79 = .ok (.iload_n 2, 1) := by decide +kernel
theorem dX6_eventSpans_80 : decode cX6_eventSpans 80 = .ok (.invokevirtual 193, 3) := by decide +kernel
theorem dX6_eventSpans_83 : decode cX6_eventSpans 83 = .ok (.iinc 2 1, 3) := by decide +kernel
theorem dX6_eventSpans_86 : decode cX6_eventSpans 86 = .ok (.goto (-46), 3) := by decide +kernel
theorem dX6_eventSpans_89 : decode cX6_eventSpans 89 = .ok (.iload_n 1, 1) := by decide +kernel
theorem dX6_eventSpans_90 : decode cX6_eventSpans 90 = .ok (.aload_n 0, 1) := by decide +kernel
theorem dX6_eventSpans_91 : decode cX6_eventSpans 91 = .ok (.getfield 196, 3) := by decide +kernel
theorem dX6_eventSpans_94 : decode cX6_eventSpans 94 = .ok (.if_icmp .ne 8, 3) := by decide +kernel
theorem dX6_eventSpans_97 : decode cX6_eventSpans 97 = .ok (.aload_n 0, 1) := by decide +kernel
theorem dX6_eventSpans_98 : decode cX6_eventSpans 98 = .ok (.iload_n 1, 1) := by decide +kernel
theorem dX6_eventSpans_99 : decode cX6_eventSpans 99 = .ok (.invokevirtual 199, 3) := by decide +kernel
theorem dX6_eventSpans_102 : decode cX6_eventSpans 102 = .ok (.iinc 1 1, 3) := by decide +kernel
theorem dX6_eventSpans_105 : decode cX6_eventSpans 105 = .ok (.goto (-103), 3) := by decide +kernel
theorem dX6_eventSpans_108 : decode cX6_eventSpans 108 = .ok (.return_, 1) := by decide +kernel
theorem dX6_cutsDown_0 : decode cX6_cutsDown 0 = .ok (.iconst 0, 1) := by decide +kernel
theorem dX6_cutsDown_1 : decode cX6_cutsDown 1 = .ok (.istore_n 3, 1) := by decide +kernel
theorem dX6_cutsDown_2 : decode cX6_cutsDown 2 = .ok (.iconst 0, 1) := by decide +kernel
theorem dX6_cutsDown_3 : decode cX6_cutsDown 3 = .ok (.istore 4, 2) := by decide +kernel
theorem dX6_cutsDown_5 : decode cX6_cutsDown 5 = .ok (.iload 4, 2) := by decide +kernel
theorem dX6_cutsDown_7 : decode cX6_cutsDown 7 = .ok (.aload_n 0, 1) := by decide +kernel
theorem dX6_cutsDown_8 : decode cX6_cutsDown 8 = .ok (.getfield 59, 3) := by decide +kernel
theorem dX6_cutsDown_11 : decode cX6_cutsDown 11 = .ok (.iload_n 1, 1) := by decide +kernel
theorem dX6_cutsDown_12 : decode cX6_cutsDown 12 = .ok (.iaload, 1) := by decide +kernel
theorem dX6_cutsDown_13 : decode cX6_cutsDown 13 = .ok (.if_icmp .ge 116, 3) := by decide +kernel
theorem dX6_cutsDown_16 : decode cX6_cutsDown 16 = .ok (.iconst 0, 1) := by decide +kernel
theorem dX6_cutsDown_17 : decode cX6_cutsDown 17 = .ok (.istore 5, 2) := by decide +kernel
theorem dX6_cutsDown_19 : decode cX6_cutsDown 19 = .ok (.iload 5, 2) := by decide +kernel
theorem dX6_cutsDown_21 : decode cX6_cutsDown 21 = .ok (.aload_n 0, 1) := by decide +kernel
theorem dX6_cutsDown_22 : decode cX6_cutsDown 22 = .ok (.getfield 50, 3) := by decide +kernel
theorem dX6_cutsDown_25 : decode cX6_cutsDown 25 = .ok (.iload_n 2, 1) := by decide +kernel
theorem dX6_cutsDown_26 : decode cX6_cutsDown 26 = .ok (.iaload, 1) := by decide +kernel
theorem dX6_cutsDown_27 : decode cX6_cutsDown 27 = .ok (.if_icmp .ge 96, 3) := by decide +kernel
theorem dX6_cutsDown_30 : decode cX6_cutsDown 30 = .ok (.aload_n 0, 1) := by decide +kernel
theorem dX6_cutsDown_31 : decode cX6_cutsDown 31 = .ok (.getfield 53, 3) := by decide +kernel
theorem dX6_cutsDown_34 : decode cX6_cutsDown 34 = .ok (.bipush 20, 2) := by decide +kernel
theorem dX6_cutsDown_36 : decode cX6_cutsDown 36 = .ok (.iload_n 1, 1) := by decide +kernel
theorem dX6_cutsDown_37 : decode cX6_cutsDown 37 = .ok (.imul, 1) := by decide +kernel
theorem dX6_cutsDown_38 : decode cX6_cutsDown 38 = .ok (.iload 4, 2) := by decide +kernel
theorem dX6_cutsDown_40 : decode cX6_cutsDown 40 = .ok (.iadd, 1) := by decide +kernel
theorem dX6_cutsDown_41 : decode cX6_cutsDown 41 = .ok (.iaload, 1) := by decide +kernel
theorem dX6_cutsDown_42 : decode cX6_cutsDown 42 = .ok (.aload_n 0, 1) := by decide +kernel
theorem dX6_cutsDown_43 : decode cX6_cutsDown 43 = .ok (.getfield 44, 3) := by decide +kernel
theorem dX6_cutsDown_46 : decode cX6_cutsDown 46 = .ok (.bipush 10, 2) := by decide +kernel
theorem dX6_cutsDown_48 : decode cX6_cutsDown 48 = .ok (.iload_n 2, 1) := by decide +kernel
theorem dX6_cutsDown_49 : decode cX6_cutsDown 49 = .ok (.imul, 1) := by decide +kernel
theorem dX6_cutsDown_50 : decode cX6_cutsDown 50 = .ok (.iload 5, 2) := by decide +kernel
theorem dX6_cutsDown_52 : decode cX6_cutsDown 52 = .ok (.iadd, 1) := by decide +kernel
theorem dX6_cutsDown_53 : decode cX6_cutsDown 53 = .ok (.iaload, 1) := by decide +kernel
theorem dX6_cutsDown_54 : decode cX6_cutsDown 54 = .ok (.invokestatic 128, 3) := by decide +kernel
theorem dX6_cutsDown_57 : decode cX6_cutsDown 57 = .ok (.istore 6, 2) := by decide +kernel
theorem dX6_cutsDown_59 : decode cX6_cutsDown 59 = .ok (.aload_n 0, 1) := by decide +kernel
theorem dX6_cutsDown_60 : decode cX6_cutsDown 60 = .ok (.getfield 56, 3) := by decide +kernel
theorem dX6_cutsDown_63 : decode cX6_cutsDown 63 = .ok (.bipush 20, 2) := by decide +kernel
theorem dX6_cutsDown_65 : decode cX6_cutsDown 65 = .ok (.iload_n 1, 1) := by decide +kernel
theorem dX6_cutsDown_66 : decode cX6_cutsDown 66 = .ok (.imul, 1) := by decide +kernel
theorem dX6_cutsDown_67 : decode cX6_cutsDown 67 = .ok (.iload 4, 2) := by decide +kernel
theorem dX6_cutsDown_69 : decode cX6_cutsDown 69 = .ok (.iadd, 1) := by decide +kernel
theorem dX6_cutsDown_70 : decode cX6_cutsDown 70 = .ok (.iaload, 1) := by decide +kernel
theorem dX6_cutsDown_71 : decode cX6_cutsDown 71 = .ok (.aload_n 0, 1) := by decide +kernel
theorem dX6_cutsDown_72 : decode cX6_cutsDown 72 = .ok (.getfield 47, 3) := by decide +kernel
theorem dX6_cutsDown_75 : decode cX6_cutsDown 75 = .ok (.bipush 10, 2) := by decide +kernel
theorem dX6_cutsDown_77 : decode cX6_cutsDown 77 = .ok (.iload_n 2, 1) := by decide +kernel
theorem dX6_cutsDown_78 : decode cX6_cutsDown 78 = .ok (.imul, 1) := by decide +kernel
theorem dX6_cutsDown_79 : decode cX6_cutsDown 79 = .ok (.iload 5, 2) := by decide +kernel
theorem dX6_cutsDown_81 : decode cX6_cutsDown 81 = .ok (.iadd, 1) := by decide +kernel
theorem dX6_cutsDown_82 : decode cX6_cutsDown 82 = .ok (.iaload, 1) := by decide +kernel
theorem dX6_cutsDown_83 : decode cX6_cutsDown 83 = .ok (.invokestatic 155, 3) := by decide +kernel
theorem dX6_cutsDown_86 : decode cX6_cutsDown 86 = .ok (.istore 7, 2) := by decide +kernel
theorem dX6_cutsDown_88 : decode cX6_cutsDown 88 = .ok (.iload 6, 2) := by decide +kernel
theorem dX6_cutsDown_90 : decode cX6_cutsDown 90 = .ok (.iload 7, 2) := by decide +kernel
theorem dX6_cutsDown_92 : decode cX6_cutsDown 92 = .ok (.if_icmp .le 6, 3) := by decide +kernel
theorem dX6_cutsDown_95 : decode cX6_cutsDown 95 = .ok (.goto 22, 3) := by decide +kernel
theorem dX6_cutsDown_98 : decode cX6_cutsDown 98 = .ok (.aload_n 0, 1) := by decide +kernel
theorem dX6_cutsDown_99 : decode cX6_cutsDown 99 = .ok (.getfield 62, 3) := by decide +kernel
theorem dX6_cutsDown_102 : decode cX6_cutsDown 102 = .ok (.iload_n 3, 1) := by decide +kernel
theorem dX6_cutsDown_103 : decode cX6_cutsDown 103 = .ok (.iload 6, 2) := by decide +kernel
theorem dX6_cutsDown_105 : decode cX6_cutsDown 105 = .ok (.iastore, 1) := by decide +kernel
theorem dX6_cutsDown_106 : decode cX6_cutsDown 106 = .ok (.aload_n 0, 1) := by decide +kernel
theorem dX6_cutsDown_107 : decode cX6_cutsDown 107 = .ok (.getfield 65, 3) := by decide +kernel
theorem dX6_cutsDown_110 : decode cX6_cutsDown 110 = .ok (.iload_n 3, 1) := by decide +kernel
theorem dX6_cutsDown_111 : decode cX6_cutsDown 111 = .ok (.iload 7, 2) := by decide +kernel
theorem dX6_cutsDown_113 : decode cX6_cutsDown 113 = .ok (.iastore, 1) := by decide +kernel
theorem dX6_cutsDown_114 : decode cX6_cutsDown 114 = .ok (.iinc 3 1, 3) := by decide +kernel
theorem dX6_cutsDown_117 : decode cX6_cutsDown 117 = .ok (.iinc 5 1, 3) := by decide +kernel
theorem dX6_cutsDown_120 : decode cX6_cutsDown 120 = .ok (.goto (-101), 3) := by decide +kernel
theorem dX6_cutsDown_123 : decode cX6_cutsDown 123 = .ok (.iinc 4 1, 3) := by decide +kernel
theorem dX6_cutsDown_126 : decode cX6_cutsDown 126 = .ok (.goto (-121), 3) := by decide +kernel
theorem dX6_cutsDown_129 : decode cX6_cutsDown 129 = .ok (.aload_n 0, 1) := by decide +kernel
theorem dX6_cutsDown_130 : decode cX6_cutsDown 130 = .ok (.getfield 59, 3) := by decide +kernel
theorem dX6_cutsDown_133 : decode cX6_cutsDown 133 = .ok (.iload_n 1, 1) := by decide +kernel
theorem dX6_cutsDown_134 : decode cX6_cutsDown 134 = .ok (.iload_n 3, 1) := by decide +kernel
theorem dX6_cutsDown_135 : decode cX6_cutsDown 135 = .ok (.iastore, 1) := by decide +kernel
theorem dX6_cutsDown_136 : decode cX6_cutsDown 136 = .ok (.iconst 0, 1) := by decide +kernel
theorem dX6_cutsDown_137 : decode cX6_cutsDown 137 = .ok (.istore 4, 2) := by decide +kernel
theorem dX6_cutsDown_139 : decode cX6_cutsDown 139 = .ok (.iload 4, 2) := by decide +kernel
theorem dX6_cutsDown_141 : decode cX6_cutsDown 141 = .ok (.iload_n 3, 1) := by decide +kernel
theorem dX6_cutsDown_142 : decode cX6_cutsDown 142 = .ok (.if_icmp .ge 47, 3) := by decide +kernel
theorem dX6_cutsDown_145 : decode cX6_cutsDown 145 = .ok (.aload_n 0, 1) := by decide +kernel
theorem dX6_cutsDown_146 : decode cX6_cutsDown 146 = .ok (.getfield 53, 3) := by decide +kernel
theorem dX6_cutsDown_149 : decode cX6_cutsDown 149 = .ok (.bipush 20, 2) := by decide +kernel
theorem dX6_cutsDown_151 : decode cX6_cutsDown 151 = .ok (.iload_n 1, 1) := by decide +kernel
theorem dX6_cutsDown_152 : decode cX6_cutsDown 152 = .ok (.imul, 1) := by decide +kernel
theorem dX6_cutsDown_153 : decode cX6_cutsDown 153 = .ok (.iload 4, 2) := by decide +kernel
theorem dX6_cutsDown_155 : decode cX6_cutsDown 155 = .ok (.iadd, 1) := by decide +kernel
theorem dX6_cutsDown_156 : decode cX6_cutsDown 156 = .ok (.aload_n 0, 1) := by decide +kernel
theorem dX6_cutsDown_157 : decode cX6_cutsDown 157 = .ok (.getfield 62, 3) := by decide +kernel
theorem dX6_cutsDown_160 : decode cX6_cutsDown 160 = .ok (.iload 4, 2) := by decide +kernel
theorem dX6_cutsDown_162 : decode cX6_cutsDown 162 = .ok (.iaload, 1) := by decide +kernel
theorem dX6_cutsDown_163 : decode cX6_cutsDown 163 = .ok (.iastore, 1) := by decide +kernel
theorem dX6_cutsDown_164 : decode cX6_cutsDown 164 = .ok (.aload_n 0, 1) := by decide +kernel
theorem dX6_cutsDown_165 : decode cX6_cutsDown 165 = .ok (.getfield 56, 3) := by decide +kernel
theorem dX6_cutsDown_168 : decode cX6_cutsDown 168 = .ok (.bipush 20, 2) := by decide +kernel
theorem dX6_cutsDown_170 : decode cX6_cutsDown 170 = .ok (.iload_n 1, 1) := by decide +kernel
theorem dX6_cutsDown_171 : decode cX6_cutsDown 171 = .ok (.imul, 1) := by decide +kernel
theorem dX6_cutsDown_172 : decode cX6_cutsDown 172 = .ok (.iload 4, 2) := by decide +kernel
theorem dX6_cutsDown_174 : decode cX6_cutsDown 174 = .ok (.iadd, 1) := by decide +kernel
theorem dX6_cutsDown_175 : decode cX6_cutsDown 175 = .ok (.aload_n 0, 1) := by decide +kernel
theorem dX6_cutsDown_176 : decode cX6_cutsDown 176 = .ok (.getfield 65, 3) := by decide +kernel
theorem dX6_cutsDown_179 : decode cX6_cutsDown 179 = .ok (.iload 4, 2) := by decide +kernel
theorem dX6_cutsDown_181 : decode cX6_cutsDown 181 = .ok (.iaload, 1) := by decide +kernel
theorem dX6_cutsDown_182 : decode cX6_cutsDown 182 = .ok (.iastore, 1) := by decide +kernel
theorem dX6_cutsDown_183 : decode cX6_cutsDown 183 = .ok (.iinc 4 1, 3) := by decide +kernel
theorem dX6_cutsDown_186 : decode cX6_cutsDown 186 = .ok (.goto (-47), 3) := by decide +kernel
theorem dX6_cutsDown_189 : decode cX6_cutsDown 189 = .ok (.return_, 1) := by decide +kernel
theorem dX6_toFind_0 : decode cX6_toFind 0 = .ok (.iconst 0, 1) := by decide +kernel
theorem dX6_toFind_1 : decode cX6_toFind 1 = .ok (.istore_n 2, 1) := by decide +kernel
theorem dX6_toFind_2 : decode cX6_toFind 2 = .ok (.iconst 0, 1) := by decide +kernel
theorem dX6_toFind_3 : decode cX6_toFind 3 = .ok (.istore_n 3, 1) := by decide +kernel
theorem dX6_toFind_4 : decode cX6_toFind 4 = .ok (.iload_n 3, 1) := by decide +kernel
theorem dX6_toFind_5 : decode cX6_toFind 5 = .ok (.aload_n 0, 1) := by decide +kernel
theorem dX6_toFind_6 : decode cX6_toFind 6 = .ok (.getfield 59, 3) := by decide +kernel
theorem dX6_toFind_9 : decode cX6_toFind 9 = .ok (.iload_n 1, 1) := by decide +kernel
theorem dX6_toFind_10 : decode cX6_toFind 10 = .ok (.iaload, 1) := by decide +kernel
theorem dX6_toFind_11 : decode cX6_toFind 11 = .ok (.if_icmp .ge 55, 3) := by decide +kernel
theorem dX6_toFind_14 : decode cX6_toFind 14 = .ok (.iload_n 2, 1) := by decide +kernel
theorem dX6_toFind_15 : decode cX6_toFind 15 = .ok (.ifCond .ne 39, 3) := by decide +kernel
theorem dX6_toFind_18 : decode cX6_toFind 18 = .ok (.aload_n 0, 1) := by decide +kernel
theorem dX6_toFind_19 : decode cX6_toFind 19 = .ok (.getfield 203, 3) := by decide +kernel
theorem dX6_toFind_22 : decode cX6_toFind 22 = .ok (.aload_n 0, 1) := by decide +kernel
theorem dX6_toFind_23 : decode cX6_toFind 23 = .ok (.getfield 53, 3) := by decide +kernel
theorem dX6_toFind_26 : decode cX6_toFind 26 = .ok (.bipush 20, 2) := by decide +kernel
theorem dX6_toFind_28 : decode cX6_toFind 28 = .ok (.iload_n 1, 1) := by decide +kernel
theorem dX6_toFind_29 : decode cX6_toFind 29 = .ok (.imul, 1) := by decide +kernel
theorem dX6_toFind_30 : decode cX6_toFind 30 = .ok (.iload_n 3, 1) := by decide +kernel
theorem dX6_toFind_31 : decode cX6_toFind 31 = .ok (.iadd, 1) := by decide +kernel
theorem dX6_toFind_32 : decode cX6_toFind 32 = .ok (.iaload, 1) := by decide +kernel
theorem dX6_toFind_33 : decode cX6_toFind 33 = .ok (.if_icmp .lt 25, 3) := by decide +kernel
theorem dX6_toFind_36 : decode cX6_toFind 36 = .ok (.aload_n 0, 1) := by decide +kernel
theorem dX6_toFind_37 : decode cX6_toFind 37 = .ok (.getfield 203, 3) := by decide +kernel
theorem dX6_toFind_40 : decode cX6_toFind 40 = .ok (.aload_n 0, 1) := by decide +kernel
theorem dX6_toFind_41 : decode cX6_toFind 41 = .ok (.getfield 56, 3) := by decide +kernel
theorem dX6_toFind_44 : decode cX6_toFind 44 = .ok (.bipush 20, 2) := by decide +kernel
theorem dX6_toFind_46 : decode cX6_toFind 46 = .ok (.iload_n 1, 1) := by decide +kernel
theorem dX6_toFind_47 : decode cX6_toFind 47 = .ok (.imul, 1) := by decide +kernel
theorem dX6_toFind_48 : decode cX6_toFind 48 = .ok (.iload_n 3, 1) := by decide +kernel
theorem dX6_toFind_49 : decode cX6_toFind 49 = .ok (.iadd, 1) := by decide +kernel
theorem dX6_toFind_50 : decode cX6_toFind 50 = .ok (.iaload, 1) := by decide +kernel
theorem dX6_toFind_51 : decode cX6_toFind 51 = .ok (.if_icmp .gt 7, 3) := by decide +kernel
theorem dX6_toFind_54 : decode cX6_toFind 54 = .ok (.iconst 1, 1) := by decide +kernel
theorem dX6_toFind_55 : decode cX6_toFind 55 = .ok (.goto 4, 3) := by decide +kernel
theorem dX6_toFind_58 : decode cX6_toFind 58 = .ok (.iconst 0, 1) := by decide +kernel
theorem dX6_toFind_59 : decode cX6_toFind 59 = .ok (.istore_n 2, 1) := by decide +kernel
theorem dX6_toFind_60 : decode cX6_toFind 60 = .ok (.iinc 3 1, 3) := by decide +kernel
theorem dX6_toFind_63 : decode cX6_toFind 63 = .ok (.goto (-59), 3) := by decide +kernel
theorem dX6_toFind_66 : decode cX6_toFind 66 = .ok (.aload_n 0, 1) := by decide +kernel
theorem dX6_toFind_67 : decode cX6_toFind 67 = .ok (.getfield 59, 3) := by decide +kernel
theorem dX6_toFind_70 : decode cX6_toFind 70 = .ok (.iload_n 1, 1) := by decide +kernel
theorem dX6_toFind_71 : decode cX6_toFind 71 = .ok (.iload_n 2, 1) := by decide +kernel
theorem dX6_toFind_72 : decode cX6_toFind 72 = .ok (.ifCond .eq 7, 3) := by decide +kernel
theorem dX6_toFind_75 : decode cX6_toFind 75 = .ok (.iconst 1, 1) := by decide +kernel
theorem dX6_toFind_76 : decode cX6_toFind 76 = .ok (.goto 4, 3) := by decide +kernel
theorem dX6_toFind_79 : decode cX6_toFind 79 = .ok (.iconst 0, 1) := by decide +kernel
theorem dX6_toFind_80 : decode cX6_toFind 80 = .ok (.iastore, 1) := by decide +kernel
theorem dX6_toFind_81 : decode cX6_toFind 81 = .ok (.aload_n 0, 1) := by decide +kernel
theorem dX6_toFind_82 : decode cX6_toFind 82 = .ok (.getfield 53, 3) := by decide +kernel
theorem dX6_toFind_85 : decode cX6_toFind 85 = .ok (.bipush 20, 2) := by decide +kernel
theorem dX6_toFind_87 : decode cX6_toFind 87 = .ok (.iload_n 1, 1) := by decide +kernel
theorem dX6_toFind_88 : decode cX6_toFind 88 = .ok (.imul, 1) := by decide +kernel
theorem dX6_toFind_89 : decode cX6_toFind 89 = .ok (.aload_n 0, 1) := by decide +kernel
theorem dX6_toFind_90 : decode cX6_toFind 90 = .ok (.getfield 203, 3) := by decide +kernel
theorem dX6_toFind_93 : decode cX6_toFind 93 = .ok (.iastore, 1) := by decide +kernel
theorem dX6_toFind_94 : decode cX6_toFind 94 = .ok (.aload_n 0, 1) := by decide +kernel
theorem dX6_toFind_95 : decode cX6_toFind 95 = .ok (.getfield 56, 3) := by decide +kernel
theorem dX6_toFind_98 : decode cX6_toFind 98 = .ok (.bipush 20, 2) := by decide +kernel
theorem dX6_toFind_100 : decode cX6_toFind 100 = .ok (.iload_n 1, 1) := by decide +kernel
theorem dX6_toFind_101 : decode cX6_toFind 101 = .ok (.imul, 1) := by decide +kernel
theorem dX6_toFind_102 : decode cX6_toFind 102 = .ok (.aload_n 0, 1) := by decide +kernel
theorem dX6_toFind_103 : decode cX6_toFind 103 = .ok (.getfield 203, 3) := by decide +kernel
theorem dX6_toFind_106 : decode cX6_toFind 106 = .ok (.iastore, 1) := by decide +kernel
theorem dX6_toFind_107 : decode cX6_toFind 107 = .ok (.return_, 1) := by decide +kernel
