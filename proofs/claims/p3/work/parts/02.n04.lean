theorem dX5_count_0 : decode cX5_count 0 = .ok (.iload_n 1, 1) := by decide +kernel
theorem dX5_count_1 : decode cX5_count 1 = .ok (.tableswitch 54 0 3 #[31, 36, 41, 46], 31) := by decide +kernel
theorem dX5_count_32 : decode cX5_count 32 = .ok (.aload_n 0, 1) := by decide +kernel
theorem dX5_count_33 : decode cX5_count 33 = .ok (.getfield 59, 3) := by decide +kernel
theorem dX5_count_36 : decode cX5_count 36 = .ok (.ireturn, 1) := by decide +kernel
theorem dX5_count_37 : decode cX5_count 37 = .ok (.aload_n 0, 1) := by decide +kernel
theorem dX5_count_38 : decode cX5_count 38 = .ok (.getfield 71, 3) := by decide +kernel
theorem dX5_count_41 : decode cX5_count 41 = .ok (.ireturn, 1) := by decide +kernel
theorem dX5_count_42 : decode cX5_count 42 = .ok (.aload_n 0, 1) := by decide +kernel
theorem dX5_count_43 : decode cX5_count 43 = .ok (.getfield 74, 3) := by decide +kernel
theorem dX5_count_46 : decode cX5_count 46 = .ok (.ireturn, 1) := by decide +kernel
theorem dX5_count_47 : decode cX5_count 47 = .ok (.aload_n 0, 1) := by decide +kernel
theorem dX5_count_48 : decode cX5_count 48 = .ok (.getfield 29, 3) := by decide +kernel
theorem dX5_count_51 : decode cX5_count 51 = .ok (.getfield 222, 3) := by decide +kernel
theorem dX5_count_54 : decode cX5_count 54 = .ok (.ireturn, 1) := by decide +kernel
theorem dX5_count_55 : decode cX5_count 55 = .ok (.iconst (-1), 1) := by decide +kernel
theorem dX5_count_56 : decode cX5_count 56 = .ok (.ireturn, 1) := by decide +kernel
theorem dX5_isDay_0 : decode cX5_isDay 0 = .ok (.iload_n 0, 1) := by decide +kernel
theorem dX5_isDay_1 : decode cX5_isDay 1 = .ok (.ifCond .lt 13, 3) := by decide +kernel
theorem dX5_isDay_4 : decode cX5_isDay 4 = .ok (.iload_n 0, 1) := by decide +kernel
theorem dX5_isDay_5 : decode cX5_isDay 5 = .ok (.ldc 225, 2) := by decide +kernel
theorem dX5_isDay_7 : decode cX5_isDay 7 = .ok (.if_icmp .gt 7, 3) := by decide +kernel
theorem dX5_isDay_10 : decode cX5_isDay 10 = .ok (.iconst 1, 1) := by decide +kernel
theorem dX5_isDay_11 : decode cX5_isDay 11 = .ok (.goto 4, 3) := by decide +kernel
theorem dX5_isDay_14 : decode cX5_isDay 14 = .ok (.iconst 0, 1) := by decide +kernel
theorem dX5_isDay_15 : decode cX5_isDay 15 = .ok (.ireturn, 1) := by decide +kernel
set_option maxRecDepth 20000 in
theorem ggX5_isRowOfDays_X5_isDay : GoodIn wsX5_isRowOfDays wsX5_isDay := goodIn_r _ [4, 5] (by decide +kernel) (by decide +kernel)
set_option maxRecDepth 20000 in
theorem gX5_isRowOfDays_X5_isDay : GoodIn wsX5_isRowOfDays (va_wsS RX5 148 yX5_isDay wsX5_isDay) := goodIn_app (goodIn_of _ (by decide +kernel)) ggX5_isRowOfDays_X5_isDay
theorem dX5_isRowOfDays_0 : decode cX5_isRowOfDays 0 = .ok (.iload_n 0, 1) := by decide +kernel
theorem dX5_isRowOfDays_1 : decode cX5_isRowOfDays 1 = .ok (.invokestatic 148, 3) := by decide +kernel
theorem dX5_isRowOfDays_4 : decode cX5_isRowOfDays 4 = .ok (.ifCond .eq 19, 3) := by decide +kernel
theorem dX5_isRowOfDays_7 : decode cX5_isRowOfDays 7 = .ok (.iload_n 1, 1) := by decide +kernel
theorem dX5_isRowOfDays_8 : decode cX5_isRowOfDays 8 = .ok (.invokestatic 148, 3) := by decide +kernel
theorem dX5_isRowOfDays_11 : decode cX5_isRowOfDays 11 = .ok (.ifCond .eq 12, 3) := by decide +kernel
theorem dX5_isRowOfDays_14 : decode cX5_isRowOfDays 14 = .ok (.iload_n 0, 1) := by decide +kernel
theorem dX5_isRowOfDays_15 : decode cX5_isRowOfDays 15 = .ok (.iload_n 1, 1) := by decide +kernel
theorem dX5_isRowOfDays_16 : decode cX5_isRowOfDays 16 = .ok (.if_icmp .gt 7, 3) := by decide +kernel
theorem dX5_isRowOfDays_19 : decode cX5_isRowOfDays 19 = .ok (.iconst 1, 1) := by decide +kernel
theorem dX5_isRowOfDays_20 : decode cX5_isRowOfDays 20 = .ok (.goto 4, 3) := by decide +kernel
theorem dX5_isRowOfDays_23 : decode cX5_isRowOfDays 23 = .ok (.iconst 0, 1) := by decide +kernel
theorem dX5_isRowOfDays_24 : decode cX5_isRowOfDays 24 = .ok (.ireturn, 1) := by decide +kernel
theorem dX5_isEvent_0 : decode cX5_isEvent 0 = .ok (.iload_n 1, 1) := by decide +kernel
theorem dX5_isEvent_1 : decode cX5_isEvent 1 = .ok (.ifCond .lt 15, 3) := by decide +kernel
theorem dX5_isEvent_4 : decode cX5_isEvent 4 = .ok (.iload_n 1, 1) := by decide +kernel
theorem dX5_isEvent_5 : decode cX5_isEvent 5 = .ok (.aload_n 0, 1) := by decide +kernel
theorem dX5_isEvent_6 : decode cX5_isEvent 6 = .ok (.getfield 71, 3) := by decide +kernel
theorem dX5_isEvent_9 : decode cX5_isEvent 9 = .ok (.if_icmp .ge 7, 3) := by decide +kernel
theorem dX5_isEvent_12 : decode cX5_isEvent 12 = .ok (.iconst 1, 1) := by decide +kernel
theorem dX5_isEvent_13 : decode cX5_isEvent 13 = .ok (.goto 4, 3) := by decide +kernel
theorem dX5_isEvent_16 : decode cX5_isEvent 16 = .ok (.iconst 0, 1) := by decide +kernel
theorem dX5_isEvent_17 : decode cX5_isEvent 17 = .ok (.ireturn, 1) := by decide +kernel
theorem dX5_isSaying_0 : decode cX5_isSaying 0 = .ok (.iload_n 1, 1) := by decide +kernel
theorem dX5_isSaying_1 : decode cX5_isSaying 1 = .ok (.ifCond .lt 15, 3) := by decide +kernel
theorem dX5_isSaying_4 : decode cX5_isSaying 4 = .ok (.iload_n 1, 1) := by decide +kernel
theorem dX5_isSaying_5 : decode cX5_isSaying 5 = .ok (.aload_n 0, 1) := by decide +kernel
theorem dX5_isSaying_6 : decode cX5_isSaying 6 = .ok (.getfield 74, 3) := by decide +kernel
theorem dX5_isSaying_9 : decode cX5_isSaying 9 = .ok (.if_icmp .ge 7, 3) := by decide +kernel
theorem dX5_isSaying_12 : decode cX5_isSaying 12 = .ok (.iconst 1, 1) := by decide +kernel
theorem dX5_isSaying_13 : decode cX5_isSaying 13 = .ok (.goto 4, 3) := by decide +kernel
theorem dX5_isSaying_16 : decode cX5_isSaying 16 = .ok (.iconst 0, 1) := by decide +kernel
theorem dX5_isSaying_17 : decode cX5_isSaying 17 = .ok (.ireturn, 1) := by decide +kernel
set_option maxRecDepth 20000 in
theorem ggX5_isBehind_X5_isEvent : GoodIn wsX5_isBehind wsX5_isEvent := goodIn_r _ [7, 8, 9, 10, 11, 12, 13, 14, 15, 16, 17, 18, 19] (by decide +kernel) (by decide +kernel)
set_option maxRecDepth 20000 in
theorem gX5_isBehind_X5_isEvent : GoodIn wsX5_isBehind (wsV RX5 77 RX5 yX5_isEvent wsX5_isEvent) := goodIn_app (goodIn_of _ (by decide +kernel)) ggX5_isBehind_X5_isEvent
theorem dX5_isBehind_0 : decode cX5_isBehind 0 = .ok (.aload_n 0, 1) := by decide +kernel
theorem dX5_isBehind_1 : decode cX5_isBehind 1 = .ok (.iload 4, 2) := by decide +kernel
theorem dX5_isBehind_3 : decode cX5_isBehind 3 = .ok (.invokevirtual 77, 3) := by decide +kernel
theorem dX5_isBehind_6 : decode cX5_isBehind 6 = .ok (.ifCond .eq 30, 3) := by decide +kernel
theorem dX5_isBehind_9 : decode cX5_isBehind 9 = .ok (.iload 4, 2) := by decide +kernel
theorem dX5_isBehind_11 : decode cX5_isBehind 11 = .ok (.iload_n 1, 1) := by decide +kernel
theorem dX5_isBehind_12 : decode cX5_isBehind 12 = .ok (.if_icmp .eq 24, 3) := by decide +kernel
theorem dX5_isBehind_15 : decode cX5_isBehind 15 = .ok (.iload_n 2, 1) := by decide +kernel
theorem dX5_isBehind_16 : decode cX5_isBehind 16 = .ok (.iload_n 3, 1) := by decide +kernel
theorem dX5_isBehind_17 : decode cX5_isBehind 17 = .ok (.if_icmp .gt 19, 3) := by decide +kernel
theorem dX5_isBehind_20 : decode cX5_isBehind 20 = .ok (.iload_n 2, 1) := by decide +kernel
theorem dX5_isBehind_21 : decode cX5_isBehind 21 = .ok (.ldc 226, 2) := by decide +kernel
theorem dX5_isBehind_23 : decode cX5_isBehind 23 = .ok (.if_icmp .lt 13, 3) := by decide +kernel
theorem dX5_isBehind_26 : decode cX5_isBehind 26 = .ok (.iload_n 3, 1) := by decide +kernel
theorem dX5_isBehind_27 : decode cX5_isBehind 27 = .ok (.ldc 227, 2) := by decide +kernel
theorem dX5_isBehind_29 : decode cX5_isBehind 29 = .ok (.if_icmp .gt 7, 3) := by decide +kernel
theorem dX5_isBehind_32 : decode cX5_isBehind 32 = .ok (.iconst 1, 1) := by decide +kernel
theorem dX5_isBehind_33 : decode cX5_isBehind 33 = .ok (.goto 4, 3) := by decide +kernel
theorem dX5_isBehind_36 : decode cX5_isBehind 36 = .ok (.iconst 0, 1) := by decide +kernel
theorem dX5_isBehind_37 : decode cX5_isBehind 37 = .ok (.ireturn, 1) := by decide +kernel
set_option maxRecDepth 20000 in
theorem ggX5_fillSpans_X5_isRowOfDays : GoodIn wsX5_fillSpans wsX5_isRowOfDays := goodIn_r _ [4, 5, 6, 3, 7, 8] (by decide +kernel) (by decide +kernel)
set_option maxRecDepth 20000 in
theorem gX5_fillSpans_X5_isRowOfDays : GoodIn wsX5_fillSpans (va_wsS RX5 67 yX5_isRowOfDays wsX5_isRowOfDays) := goodIn_app (goodIn_of _ (by decide +kernel)) ggX5_fillSpans_X5_isRowOfDays
set_option maxRecDepth 20000 in
theorem ggX5_fillSpans_X4_add : GoodIn wsX5_fillSpans wsX4_add := goodIn_r _ [13, 14, 15, 16, 17, 18, 19, 20, 21, 22, 23, 24, 80, 81, 82] (by decide +kernel) (by decide +kernel)
set_option maxRecDepth 20000 in
theorem gX5_fillSpans_X4_add : GoodIn wsX5_fillSpans (wsV RX5 228 RX4 yX4_add wsX4_add) := goodIn_app (goodIn_of _ (by decide +kernel)) ggX5_fillSpans_X4_add
set_option maxRecDepth 20000 in
theorem ggX5_fillSpans_X5_addDate : GoodIn wsX5_fillSpans wsX5_addDate := goodIn_r _ [27, 28, 29, 30, 31, 32, 33, 34, 35, 36, 37, 38, 39, 40, 41, 42, 43, 44, 45, 46, 47, 48, 49, 50, 51, 52, 53, 54, 55, 56, 6, 3, 7, 8, 9, 10, 11, 12, 13, 14, 15, 16, 17, 18, 19, 20, 21, 22, 23, 24, 80, 81, 82] (by decide +kernel) (by decide +kernel)
set_option maxRecDepth 20000 in
theorem gX5_fillSpans_X5_addDate : GoodIn wsX5_fillSpans (va_wsS RX5 231 yX5_addDate wsX5_addDate) := goodIn_app (goodIn_of _ (by decide +kernel)) ggX5_fillSpans_X5_addDate
set_option maxRecDepth 20000 in
theorem ggX5_fillSpans_X0_isMonth : GoodIn wsX5_fillSpans wsX0_isMonth := goodIn_r _ [34, 35, 36, 30, 37, 38, 39, 40, 41, 42, 43] (by decide +kernel) (by decide +kernel)
set_option maxRecDepth 20000 in
theorem gX5_fillSpans_X0_isMonth : GoodIn wsX5_fillSpans (va_wsS RX5 235 yX0_isMonth wsX0_isMonth) := goodIn_app (goodIn_of _ (by decide +kernel)) ggX5_fillSpans_X0_isMonth
set_option maxRecDepth 20000 in
theorem ggX5_fillSpans_X0_monthStart : GoodIn wsX5_fillSpans wsX0_monthStart := goodIn_r _ [53, 54, 55, 30, 56, 44, 45, 46, 47, 48, 49, 50] (by decide +kernel) (by decide +kernel)
set_option maxRecDepth 20000 in
theorem gX5_fillSpans_X0_monthStart : GoodIn wsX5_fillSpans (va_wsS RX5 239 yX0_monthStart wsX0_monthStart) := goodIn_app (goodIn_of _ (by decide +kernel)) ggX5_fillSpans_X0_monthStart
set_option maxRecDepth 20000 in
theorem ggX5_fillSpans_X0_monthDays : GoodIn wsX5_fillSpans wsX0_monthDays := goodIn_r _ [46, 47, 48, 49, 30, 50] (by decide +kernel) (by decide +kernel)
set_option maxRecDepth 20000 in
theorem gX5_fillSpans_X0_monthDays : GoodIn wsX5_fillSpans (va_wsS RX5 242 yX0_monthDays wsX0_monthDays) := goodIn_app (goodIn_of _ (by decide +kernel)) ggX5_fillSpans_X0_monthDays
set_option maxRecDepth 20000 in
theorem ggX5_fillSpans_X0_isYear : GoodIn wsX5_fillSpans wsX0_isYear := goodIn_r _ [37, 38, 39, 30, 40] (by decide +kernel) (by decide +kernel)
set_option maxRecDepth 20000 in
theorem gX5_fillSpans_X0_isYear : GoodIn wsX5_fillSpans (va_wsS RX5 245 yX0_isYear wsX0_isYear) := goodIn_app (goodIn_of _ (by decide +kernel)) ggX5_fillSpans_X0_isYear
set_option maxRecDepth 20000 in
theorem ggX5_fillSpans_X0_yearStart : GoodIn wsX5_fillSpans wsX0_yearStart := goodIn_r _ [56] (by decide +kernel) (by decide +kernel)
set_option maxRecDepth 20000 in
theorem gX5_fillSpans_X0_yearStart : GoodIn wsX5_fillSpans (va_wsS RX5 248 yX0_yearStart wsX0_yearStart) := goodIn_app (goodIn_of _ (by decide +kernel)) ggX5_fillSpans_X0_yearStart
set_option maxRecDepth 20000 in
theorem ggX5_fillSpans_X5_addReign : GoodIn wsX5_fillSpans wsX5_addReign := goodIn_r _ [65, 66, 67, 68, 69, 70, 71, 30, 72, 73, 74, 75, 38, 39, 40, 6, 3, 7, 8, 76, 77, 78, 54, 55, 56, 41, 42, 43, 44, 45, 46, 47, 48, 49, 50, 79, 29, 31, 32, 33, 34, 35, 36, 37, 51, 52, 53, 9, 10, 11, 12, 13, 14, 15, 16, 17, 18, 19, 20, 21, 22, 23, 24, 83, 84, 85, 86, 87, 88, 89, 90, 91, 92, 93, 80, 81, 82] (by decide +kernel) (by decide +kernel)
set_option maxRecDepth 20000 in
theorem gX5_fillSpans_X5_addReign : GoodIn wsX5_fillSpans (wsV RX5 251 RX5 yX5_addReign wsX5_addReign) := goodIn_app (goodIn_of _ (by decide +kernel)) ggX5_fillSpans_X5_addReign
theorem dX5_fillSpans_0 : decode cX5_fillSpans 0 = .ok (.iload_n 2, 1) := by decide +kernel
theorem dX5_fillSpans_1 : decode cX5_fillSpans 1 = .ok (.tableswitch 187 0 5 #[39, 58, 70, 113, 145, 156], 39) := by decide +kernel
theorem dX5_fillSpans_40 : decode cX5_fillSpans 40 = .ok (.iload_n 3, 1) := by decide +kernel
theorem dX5_fillSpans_41 : decode cX5_fillSpans 41 = .ok (.iload 4, 2) := by decide +kernel
theorem dX5_fillSpans_43 : decode cX5_fillSpans 43 = .ok (.invokestatic 67, 3) := by decide +kernel
theorem dX5_fillSpans_46 : decode cX5_fillSpans 46 = .ok (.ifCond .eq 142, 3) := by decide +kernel
theorem dX5_fillSpans_49 : decode cX5_fillSpans 49 = .ok (.aload_n 1, 1) := by decide +kernel
theorem dX5_fillSpans_50 : decode cX5_fillSpans 50 = .ok (.iload_n 3, 1) := by decide +kernel
theorem dX5_fillSpans_51 : decode cX5_fillSpans 51 = .ok (.iload 4, 2) := by decide +kernel
theorem dX5_fillSpans_53 : decode cX5_fillSpans 53 = .ok (.invokevirtual 228, 3) := by decide +kernel
theorem dX5_fillSpans_56 : decode cX5_fillSpans 56 = .ok (.goto 132, 3) := by decide +kernel
theorem dX5_fillSpans_59 : decode cX5_fillSpans 59 = .ok (.aload_n 1, 1) := by decide +kernel
theorem dX5_fillSpans_60 : decode cX5_fillSpans 60 = .ok (.iload_n 3, 1) := by decide +kernel
theorem dX5_fillSpans_61 : decode cX5_fillSpans 61 = .ok (.iload 4, 2) := by decide +kernel
theorem dX5_fillSpans_63 : decode cX5_fillSpans 63 = .ok (.iload 5, 2) := by decide +kernel
theorem dX5_fillSpans_65 : decode cX5_fillSpans 65 = .ok (.invokestatic 231, 3) := by decide +kernel
theorem dX5_fillSpans_68 : decode cX5_fillSpans 68 = .ok (.goto 120, 3) := by decide +kernel
theorem dX5_fillSpans_71 : decode cX5_fillSpans 71 = .ok (.iload_n 3, 1) := by decide +kernel
theorem dX5_fillSpans_72 : decode cX5_fillSpans 72 = .ok (.iload 4, 2) := by decide +kernel
theorem dX5_fillSpans_74 : decode cX5_fillSpans 74 = .ok (.iload 5, 2) := by decide +kernel
theorem dX5_fillSpans_76 : decode cX5_fillSpans 76 = .ok (.invokestatic 235, 3) := by decide +kernel
theorem dX5_fillSpans_79 : decode cX5_fillSpans 79 = .ok (.ifCond .eq 109, 3) := by decide +kernel
theorem dX5_fillSpans_82 : decode cX5_fillSpans 82 = .ok (.iload_n 3, 1) := by decide +kernel
theorem dX5_fillSpans_83 : decode cX5_fillSpans 83 = .ok (.iload 4, 2) := by decide +kernel
theorem dX5_fillSpans_85 : decode cX5_fillSpans 85 = .ok (.iload 5, 2) := by decide +kernel
theorem dX5_fillSpans_87 : decode cX5_fillSpans 87 = .ok (.invokestatic 239, 3) := by decide +kernel
theorem dX5_fillSpans_90 : decode cX5_fillSpans 90 = .ok (.istore 6, 2) := by decide +kernel
theorem dX5_fillSpans_92 : decode cX5_fillSpans 92 = .ok (.aload_n 1, 1) := by decide +kernel
theorem dX5_fillSpans_93 : decode cX5_fillSpans 93 = .ok (.iload 6, 2) := by decide +kernel
theorem dX5_fillSpans_95 : decode cX5_fillSpans 95 = .ok (.iload 6, 2) := by decide +kernel
theorem dX5_fillSpans_97 : decode cX5_fillSpans 97 = .ok (.iload_n 3, 1) := by decide +kernel
theorem dX5_fillSpans_98 : decode cX5_fillSpans 98 = .ok (.iload 4, 2) := by decide +kernel
theorem dX5_fillSpans_100 : decode cX5_fillSpans 100 = .ok (.iload 5, 2) := by decide +kernel
theorem dX5_fillSpans_102 : decode cX5_fillSpans 102 = .ok (.invokestatic 242, 3) := by decide +kernel
theorem dX5_fillSpans_105 : decode cX5_fillSpans 105 = .ok (.iadd, 1) := by decide +kernel
theorem dX5_fillSpans_106 : decode cX5_fillSpans 106 = .ok (.iconst 1, 1) := by decide +kernel
theorem dX5_fillSpans_107 : decode cX5_fillSpans 107 = .ok (.isub, 1) := by decide +kernel
theorem dX5_fillSpans_108 : decode cX5_fillSpans 108 = .ok (.invokevirtual 228, 3) := by decide +kernel
theorem dX5_fillSpans_111 : decode cX5_fillSpans 111 = .ok (.goto 77, 3) := by decide +kernel
theorem dX5_fillSpans_114 : decode cX5_fillSpans 114 = .ok (.iload_n 3, 1) := by decide +kernel
theorem dX5_fillSpans_115 : decode cX5_fillSpans 115 = .ok (.iload 4, 2) := by decide +kernel
theorem dX5_fillSpans_117 : decode cX5_fillSpans 117 = .ok (.invokestatic 245, 3) := by decide +kernel
theorem dX5_fillSpans_120 : decode cX5_fillSpans 120 = .ok (.ifCond .eq 68, 3) := by decide +kernel
theorem dX5_fillSpans_123 : decode cX5_fillSpans 123 = .ok (.aload_n 1, 1) := by decide +kernel
theorem dX5_fillSpans_124 : decode cX5_fillSpans 124 = .ok (.iload_n 3, 1) := by decide +kernel
theorem dX5_fillSpans_125 : decode cX5_fillSpans 125 = .ok (.iload 4, 2) := by decide +kernel
theorem dX5_fillSpans_127 : decode cX5_fillSpans 127 = .ok (.invokestatic 248, 3) := by decide +kernel
theorem dX5_fillSpans_130 : decode cX5_fillSpans 130 = .ok (.iload_n 3, 1) := by decide +kernel
theorem dX5_fillSpans_131 : decode cX5_fillSpans 131 = .ok (.iload 4, 2) := by decide +kernel
theorem dX5_fillSpans_133 : decode cX5_fillSpans 133 = .ok (.iconst 1, 1) := by decide +kernel
theorem dX5_fillSpans_134 : decode cX5_fillSpans 134 = .ok (.iadd, 1) := by decide +kernel
theorem dX5_fillSpans_135 : decode cX5_fillSpans 135 = .ok (.invokestatic 248, 3) := by decide +kernel
theorem dX5_fillSpans_138 : decode cX5_fillSpans 138 = .ok (.iconst 1, 1) := by decide +kernel
theorem dX5_fillSpans_139 : decode cX5_fillSpans 139 = .ok (.isub, 1) := by decide +kernel
theorem dX5_fillSpans_140 : decode cX5_fillSpans 140 = .ok (.invokevirtual 228, 3) := by decide +kernel
theorem dX5_fillSpans_143 : decode cX5_fillSpans 143 = .ok (.goto 45, 3) := by decide +kernel
theorem dX5_fillSpans_146 : decode cX5_fillSpans 146 = .ok (.aload_n 0, 1) := by decide +kernel
theorem dX5_fillSpans_147 : decode cX5_fillSpans 147 = .ok (.aload_n 1, 1) := by decide +kernel
theorem dX5_fillSpans_148 : decode cX5_fillSpans 148 = .ok (.iload_n 3, 1) := by decide +kernel
theorem dX5_fillSpans_149 : decode cX5_fillSpans 149 = .ok (.iload 4, 2) := by decide +kernel
theorem dX5_fillSpans_151 : decode cX5_fillSpans 151 = .ok (.invokevirtual 251, 3) := by decide +kernel
theorem dX5_fillSpans_154 : decode cX5_fillSpans 154 = .ok (.goto 34, 3) := by decide +kernel
theorem dX5_fillSpans_157 : decode cX5_fillSpans 157 = .ok (.iconst 0, 1) := by decide +kernel
theorem dX5_fillSpans_158 : decode cX5_fillSpans 158 = .ok (.istore 6, 2) := by decide +kernel
theorem dX5_fillSpans_160 : decode cX5_fillSpans 160 = .ok (.iload 6, 2) := by decide +kernel
theorem dX5_fillSpans_162 : decode cX5_fillSpans 162 = .ok (.bipush 10, 2) := by decide +kernel
theorem dX5_fillSpans_164 : decode cX5_fillSpans 164 = .ok (.if_icmp .ge 21, 3) := by decide +kernel
theorem dX5_fillSpans_167 : decode cX5_fillSpans 167 = .ok (.aload_n 1, 1) := by decide +kernel
theorem dX5_fillSpans_168 : decode cX5_fillSpans 168 = .ok (.iload_n 3, 1) := by decide +kernel
theorem dX5_fillSpans_169 : decode cX5_fillSpans 169 = .ok (.iload 4, 2) := by decide +kernel
theorem dX5_fillSpans_171 : decode cX5_fillSpans 171 = .ok (.iload 6, 2) := by decide +kernel
theorem dX5_fillSpans_173 : decode cX5_fillSpans 173 = .ok (.iadd, 1) := by decide +kernel
theorem dX5_fillSpans_174 : decode cX5_fillSpans 174 = .ok (.iload 5, 2) := by decide +kernel
theorem dX5_fillSpans_176 : decode cX5_fillSpans 176 = .ok (.invokestatic 231, 3) := by decide +kernel
theorem dX5_fillSpans_179 : decode cX5_fillSpans 179 = .ok (.iinc 6 1, 3) := by decide +kernel
theorem dX5_fillSpans_182 : decode cX5_fillSpans 182 = .ok (.goto (-22), 3) := by decide +kernel
theorem dX5_fillSpans_185 : decode cX5_fillSpans 185 = .ok (.goto 3, 3) := by decide +kernel
theorem dX5_fillSpans_188 : decode cX5_fillSpans 188 = .ok (.return_, 1) := by decide +kernel
set_option maxRecDepth 20000 in
theorem ggX5_addDate_X0_dayOf : GoodIn wsX5_addDate wsX0_dayOf := goodIn_r _ [4, 5, 6, 3, 7, 8, 9, 10, 11, 12, 13, 14, 15, 16, 17, 18, 19, 20, 21, 22, 23, 24, 25, 26, 27, 28, 29, 30, 31, 32, 33] (by decide +kernel) (by decide +kernel)
set_option maxRecDepth 20000 in
theorem gX5_addDate_X0_dayOf : GoodIn wsX5_addDate (va_wsS RX5 46 yX0_dayOf wsX0_dayOf) := goodIn_app (goodIn_of _ (by decide +kernel)) ggX5_addDate_X0_dayOf
set_option maxRecDepth 20000 in
theorem ggX5_addDate_X4_add : GoodIn wsX5_addDate wsX4_add := goodIn_r _ [38, 39, 40, 41, 42, 43, 44, 45, 46, 47, 48, 49, 50, 51, 52] (by decide +kernel) (by decide +kernel)
set_option maxRecDepth 20000 in
theorem gX5_addDate_X4_add : GoodIn wsX5_addDate (wsV RX5 228 RX4 yX4_add wsX4_add) := goodIn_app (goodIn_of _ (by decide +kernel)) ggX5_addDate_X4_add
theorem dX5_addDate_0 : decode cX5_addDate 0 = .ok (.iload_n 1, 1) := by decide +kernel
theorem dX5_addDate_1 : decode cX5_addDate 1 = .ok (.iload_n 2, 1) := by decide +kernel
theorem dX5_addDate_2 : decode cX5_addDate 2 = .ok (.iload_n 3, 1) := by decide +kernel
theorem dX5_addDate_3 : decode cX5_addDate 3 = .ok (.bipush 100, 2) := by decide +kernel
theorem dX5_addDate_5 : decode cX5_addDate 5 = .ok (.idiv, 1) := by decide +kernel
theorem dX5_addDate_6 : decode cX5_addDate 6 = .ok (.iload_n 3, 1) := by decide +kernel
theorem dX5_addDate_7 : decode cX5_addDate 7 = .ok (.bipush 100, 2) := by decide +kernel
theorem dX5_addDate_9 : decode cX5_addDate 9 = .ok (.irem, 1) := by decide +kernel
theorem dX5_addDate_10 : decode cX5_addDate 10 = .ok (.invokestatic 46, 3) := by decide +kernel
theorem dX5_addDate_13 : decode cX5_addDate 13 = .ok (.istore 4, 2) := by decide +kernel
theorem dX5_addDate_15 : decode cX5_addDate 15 = .ok (.iload 4, 2) := by decide +kernel
theorem dX5_addDate_17 : decode cX5_addDate 17 = .ok (.iconst (-1), 1) := by decide +kernel
theorem dX5_addDate_18 : decode cX5_addDate 18 = .ok (.if_icmp .eq 11, 3) := by decide +kernel
theorem dX5_addDate_21 : decode cX5_addDate 21 = .ok (.aload_n 0, 1) := by decide +kernel
theorem dX5_addDate_22 : decode cX5_addDate 22 = .ok (.iload 4, 2) := by decide +kernel
theorem dX5_addDate_24 : decode cX5_addDate 24 = .ok (.iload 4, 2) := by decide +kernel
theorem dX5_addDate_26 : decode cX5_addDate 26 = .ok (.invokevirtual 228, 3) := by decide +kernel
theorem dX5_addDate_29 : decode cX5_addDate 29 = .ok (.return_, 1) := by decide +kernel
set_option maxRecDepth 20000 in
theorem ggX5_addReign_X0_yearsBehind : GoodIn wsX5_addReign wsX0_yearsBehind := goodIn_r _ [8, 9, 10, 7, 11, 12, 13, 14, 15, 16, 17, 18, 19, 20, 21, 22, 23, 24, 25, 26, 27, 28, 29, 30, 31, 32, 33, 34, 35, 36, 37, 38, 39, 40, 41, 42, 43, 44, 45, 46] (by decide +kernel) (by decide +kernel)
set_option maxRecDepth 20000 in
theorem gX5_addReign_X0_yearsBehind : GoodIn wsX5_addReign (va_wsS RX5 56 yX0_yearsBehind wsX0_yearsBehind) := goodIn_app (goodIn_of _ (by decide +kernel)) ggX5_addReign_X0_yearsBehind
set_option maxRecDepth 20000 in
theorem ggX5_addReign_X4_add : GoodIn wsX5_addReign wsX4_add := goodIn_r _ [51, 52, 53, 54, 55, 56, 57, 58, 59, 60, 61, 62, 74, 75, 76] (by decide +kernel) (by decide +kernel)
set_option maxRecDepth 20000 in
theorem gX5_addReign_X4_add : GoodIn wsX5_addReign (wsV RX5 228 RX4 yX4_add wsX4_add) := goodIn_app (goodIn_of _ (by decide +kernel)) ggX5_addReign_X4_add
theorem dX5_addReign_0 : decode cX5_addReign 0 = .ok (.iload_n 2, 1) := by decide +kernel
theorem dX5_addReign_1 : decode cX5_addReign 1 = .ok (.ifCond .lt 22, 3) := by decide +kernel
theorem dX5_addReign_4 : decode cX5_addReign 4 = .ok (.iload_n 2, 1) := by decide +kernel
theorem dX5_addReign_5 : decode cX5_addReign 5 = .ok (.aload_n 0, 1) := by decide +kernel
theorem dX5_addReign_6 : decode cX5_addReign 6 = .ok (.getfield 59, 3) := by decide +kernel
theorem dX5_addReign_9 : decode cX5_addReign 9 = .ok (.if_icmp .ge 14, 3) := by decide +kernel
theorem dX5_addReign_12 : decode cX5_addReign 12 = .ok (.iload_n 3, 1) := by decide +kernel
theorem dX5_addReign_13 : decode cX5_addReign 13 = .ok (.iconst 1, 1) := by decide +kernel
theorem dX5_addReign_14 : decode cX5_addReign 14 = .ok (.if_icmp .lt 9, 3) := by decide +kernel
theorem dX5_addReign_17 : decode cX5_addReign 17 = .ok (.iload_n 3, 1) := by decide +kernel
theorem dX5_addReign_18 : decode cX5_addReign 18 = .ok (.bipush 60, 2) := by decide +kernel
theorem dX5_addReign_20 : decode cX5_addReign 20 = .ok (.if_icmp .le 4, 3) := by decide +kernel
theorem dX5_addReign_23 : decode cX5_addReign 23 = .ok (.return_, 1) := by decide +kernel
theorem dX5_addReign_24 : decode cX5_addReign 24 = .ok (.aload_n 0, 1) := by decide +kernel
theorem dX5_addReign_25 : decode cX5_addReign 25 = .ok (.getfield 9, 3) := by decide +kernel
theorem dX5_addReign_28 : decode cX5_addReign 28 = .ok (.iload_n 2, 1) := by decide +kernel
theorem dX5_addReign_29 : decode cX5_addReign 29 = .ok (.iaload, 1) := by decide +kernel
theorem dX5_addReign_30 : decode cX5_addReign 30 = .ok (.aload_n 0, 1) := by decide +kernel
theorem dX5_addReign_31 : decode cX5_addReign 31 = .ok (.getfield 13, 3) := by decide +kernel
theorem dX5_addReign_34 : decode cX5_addReign 34 = .ok (.iload_n 2, 1) := by decide +kernel
theorem dX5_addReign_35 : decode cX5_addReign 35 = .ok (.iaload, 1) := by decide +kernel
theorem dX5_addReign_36 : decode cX5_addReign 36 = .ok (.iload_n 3, 1) := by decide +kernel
theorem dX5_addReign_37 : decode cX5_addReign 37 = .ok (.iconst 1, 1) := by decide +kernel
theorem dX5_addReign_38 : decode cX5_addReign 38 = .ok (.isub, 1) := by decide +kernel
theorem dX5_addReign_39 : decode cX5_addReign 39 = .ok (.invokestatic 56, 3) := by decide +kernel
theorem dX5_addReign_42 : decode cX5_addReign 42 = .ok (.istore 4, 2) := by decide +kernel
theorem dX5_addReign_44 : decode cX5_addReign 44 = .ok (.aload_n 0, 1) := by decide +kernel
theorem dX5_addReign_45 : decode cX5_addReign 45 = .ok (.getfield 9, 3) := by decide +kernel
theorem dX5_addReign_48 : decode cX5_addReign 48 = .ok (.iload_n 2, 1) := by decide +kernel
theorem dX5_addReign_49 : decode cX5_addReign 49 = .ok (.iaload, 1) := by decide +kernel
theorem dX5_addReign_50 : decode cX5_addReign 50 = .ok (.aload_n 0, 1) := by decide +kernel
theorem dX5_addReign_51 : decode cX5_addReign 51 = .ok (.getfield 16, 3) := by decide +kernel
theorem dX5_addReign_54 : decode cX5_addReign 54 = .ok (.iload_n 2, 1) := by decide +kernel
theorem dX5_addReign_55 : decode cX5_addReign 55 = .ok (.iaload, 1) := by decide +kernel
theorem dX5_addReign_56 : decode cX5_addReign 56 = .ok (.iload_n 3, 1) := by decide +kernel
theorem dX5_addReign_57 : decode cX5_addReign 57 = .ok (.invokestatic 56, 3) := by decide +kernel
theorem dX5_addReign_60 : decode cX5_addReign 60 = .ok (.istore 5, 2) := by decide +kernel
theorem dX5_addReign_62 : decode cX5_addReign 62 = .ok (.iload 4, 2) := by decide +kernel
theorem dX5_addReign_64 : decode cX5_addReign 64 = .ok (.iconst (-1), 1) := by decide +kernel
theorem dX5_addReign_65 : decode cX5_addReign 65 = .ok (.if_icmp .eq 19, 3) := by decide +kernel
theorem dX5_addReign_68 : decode cX5_addReign 68 = .ok (.iload 5, 2) := by decide +kernel
theorem dX5_addReign_70 : decode cX5_addReign 70 = .ok (.iconst (-1), 1) := by decide +kernel
theorem dX5_addReign_71 : decode cX5_addReign 71 = .ok (.if_icmp .eq 13, 3) := by decide +kernel
theorem dX5_addReign_74 : decode cX5_addReign 74 = .ok (.aload_n 1, 1) := by decide +kernel
theorem dX5_addReign_75 : decode cX5_addReign 75 = .ok (.iload 4, 2) := by decide +kernel
theorem dX5_addReign_77 : decode cX5_addReign 77 = .ok (.iload 5, 2) := by decide +kernel
theorem dX5_addReign_79 : decode cX5_addReign 79 = .ok (.iconst 1, 1) := by decide +kernel
theorem dX5_addReign_80 : decode cX5_addReign 80 = .ok (.isub, 1) := by decide +kernel
theorem dX5_addReign_81 : decode cX5_addReign 81 = .ok (.invokevirtual 228, 3) := by decide +kernel
theorem dX5_addReign_84 : decode cX5_addReign 84 = .ok (.return_, 1) := by decide +kernel
theorem dX5_rootOf_0 : decode cX5_rootOf 0 = .ok (.iload_n 1, 1) := by decide +kernel
theorem dX5_rootOf_1 : decode cX5_rootOf 1 = .ok (.istore_n 2, 1) := by decide +kernel
theorem dX5_rootOf_2 : decode cX5_rootOf 2 = .ok (.iconst 0, 1) := by decide +kernel
theorem dX5_rootOf_3 : decode cX5_rootOf 3 = .ok (.istore_n 3, 1) := by decide +kernel
theorem dX5_rootOf_4 : decode cX5_rootOf 4 = .ok (.iload_n 3, 1) := by decide +kernel
theorem dX5_rootOf_5 : decode cX5_rootOf 5 = .ok (.bipush 12, 2) := by decide +kernel
theorem dX5_rootOf_7 : decode cX5_rootOf 7 = .ok (.if_icmp .ge 32, 3) := by decide +kernel
theorem dX5_rootOf_10 : decode cX5_rootOf 10 = .ok (.aload_n 0, 1) := by decide +kernel
theorem dX5_rootOf_11 : decode cX5_rootOf 11 = .ok (.getfield 21, 3) := by decide +kernel
theorem dX5_rootOf_14 : decode cX5_rootOf 14 = .ok (.iload_n 2, 1) := by decide +kernel
theorem dX5_rootOf_15 : decode cX5_rootOf 15 = .ok (.aaload, 1) := by decide +kernel
theorem dX5_rootOf_16 : decode cX5_rootOf 16 = .ok (.getfield 110, 3) := by decide +kernel
theorem dX5_rootOf_19 : decode cX5_rootOf 19 = .ok (.iconst (-1), 1) := by decide +kernel
theorem dX5_rootOf_20 : decode cX5_rootOf 20 = .ok (.if_icmp .eq 19, 3) := by decide +kernel
theorem dX5_rootOf_23 : decode cX5_rootOf 23 = .ok (.aload_n 0, 1) := by decide +kernel
theorem dX5_rootOf_24 : decode cX5_rootOf 24 = .ok (.getfield 21, 3) := by decide +kernel
theorem dX5_rootOf_27 : decode cX5_rootOf 27 = .ok (.iload_n 2, 1) := by decide +kernel
theorem dX5_rootOf_28 : decode cX5_rootOf 28 = .ok (.aaload, 1) := by decide +kernel
theorem dX5_rootOf_29 : decode cX5_rootOf 29 = .ok (.getfield 110, 3) := by decide +kernel
theorem dX5_rootOf_32 : decode cX5_rootOf 32 = .ok (.istore_n 2, 1) := by decide +kernel
theorem dX5_rootOf_33 : decode cX5_rootOf 33 = .ok (.iinc 3 1, 3) := by decide +kernel
theorem dX5_rootOf_36 : decode cX5_rootOf 36 = .ok (.goto (-32), 3) := by decide +kernel
theorem dX5_rootOf_39 : decode cX5_rootOf 39 = .ok (.iload_n 2, 1) := by decide +kernel
theorem dX5_rootOf_40 : decode cX5_rootOf 40 = .ok (.ireturn, 1) := by decide +kernel
theorem dX5_takenSet_0 : decode cX5_takenSet 0 = .ok (.iconst 0, 1) := by decide +kernel
theorem dX5_takenSet_1 : decode cX5_takenSet 1 = .ok (.istore_n 1, 1) := by decide +kernel
theorem dX5_takenSet_2 : decode cX5_takenSet 2 = .ok (.iconst 0, 1) := by decide +kernel
theorem dX5_takenSet_3 : decode cX5_takenSet 3 = .ok (.istore_n 2, 1) := by decide +kernel
theorem dX5_takenSet_4 : decode cX5_takenSet 4 = .ok (.iload_n 2, 1) := by decide +kernel
theorem dX5_takenSet_5 : decode cX5_takenSet 5 = .ok (.aload_n 0, 1) := by decide +kernel
theorem dX5_takenSet_6 : decode cX5_takenSet 6 = .ok (.getfield 74, 3) := by decide +kernel
theorem dX5_takenSet_9 : decode cX5_takenSet 9 = .ok (.if_icmp .ge 27, 3) := by decide +kernel
theorem dX5_takenSet_12 : decode cX5_takenSet 12 = .ok (.aload_n 0, 1) := by decide +kernel
theorem dX5_takenSet_13 : decode cX5_takenSet 13 = .ok (.getfield 21, 3) := by decide +kernel
theorem dX5_takenSet_16 : decode cX5_takenSet 16 = .ok (.iload_n 2, 1) := by decide +kernel
theorem dX5_takenSet_17 : decode cX5_takenSet 17 = .ok (.aaload, 1) := by decide +kernel
theorem dX5_takenSet_18 : decode cX5_takenSet 18 = .ok (.getfield 113, 3) := by decide +kernel
theorem dX5_takenSet_21 : decode cX5_takenSet 21 = .ok (.ifCond .eq 9, 3) := by decide +kernel
theorem dX5_takenSet_24 : decode cX5_takenSet 24 = .ok (.iload_n 1, 1) := by decide +kernel
theorem dX5_takenSet_25 : decode cX5_takenSet 25 = .ok (.iconst 1, 1) := by decide +kernel
theorem dX5_takenSet_26 : decode cX5_takenSet 26 = .ok (.iload_n 2, 1) := by decide +kernel
theorem dX5_takenSet_27 : decode cX5_takenSet 27 = .ok (.ishl, 1) := by decide +kernel
theorem dX5_takenSet_28 : decode cX5_takenSet 28 = .ok (.ior, 1) := by decide +kernel
theorem dX5_takenSet_29 : decode cX5_takenSet 29 = .ok (.istore_n 1, 1) := by decide +kernel
theorem dX5_takenSet_30 : decode cX5_takenSet 30 = .ok (.iinc 2 1, 3) := by decide +kernel
theorem dX5_takenSet_33 : decode cX5_takenSet 33 = .ok (.goto (-29), 3) := by decide +kernel
theorem dX5_takenSet_36 : decode cX5_takenSet 36 = .ok (.iload_n 1, 1) := by decide +kernel
theorem dX5_takenSet_37 : decode cX5_takenSet 37 = .ok (.ireturn, 1) := by decide +kernel
set_option maxRecDepth 20000 in
theorem ggX5_askSet_X2_lay : GoodIn wsX5_askSet wsX2_lay := goodIn_r _ [7, 8, 9, 10, 11, 12, 13, 14, 6, 15, 16, 17, 18, 19, 20, 21, 22, 23, 24, 25, 26, 27, 28, 29, 30, 31, 32, 33, 34, 35, 36, 37, 38, 39, 40, 41, 42, 43, 44, 45, 46, 47, 48, 49, 50, 51, 52, 53, 54, 55, 56, 57, 58, 59, 60, 61, 62, 63, 64, 65, 66, 67, 68, 69, 106, 107, 108, 109, 110, 111, 112, 113, 114, 115, 116, 117, 118, 119, 120, 121, 122, 123, 124, 125, 126, 127, 128, 129, 130, 131] (by decide +kernel) (by decide +kernel)
set_option maxRecDepth 20000 in
theorem gX5_askSet_X2_lay : GoodIn wsX5_askSet (wsV RX5 158 RX2 yX2_lay wsX2_lay) := goodIn_app (goodIn_of _ (by decide +kernel)) ggX5_askSet_X2_lay
set_option maxRecDepth 20000 in
theorem ggX5_askSet_X2_run : GoodIn wsX5_askSet wsX2_run := goodIn_r _ [73, 74, 75, 76, 77, 78, 79, 6, 80, 16, 17, 81, 82, 11, 83, 84, 85, 86, 87, 88, 67, 68, 89, 46, 36, 32, 37, 90, 69, 31, 33, 91, 92, 93, 94, 19, 115, 116, 117, 118, 119, 120, 121, 122, 123, 124, 125, 126, 127, 128, 129, 130, 131] (by decide +kernel) (by decide +kernel)
set_option maxRecDepth 20000 in
theorem gX5_askSet_X2_run : GoodIn wsX5_askSet (wsV RX5 166 RX2 yX2_run wsX2_run) := goodIn_app (goodIn_of _ (by decide +kernel)) ggX5_askSet_X2_run
theorem dX5_askSet_0 : decode cX5_askSet 0 = .ok (.aload_n 0, 1) := by decide +kernel
theorem dX5_askSet_1 : decode cX5_askSet 1 = .ok (.getfield 29, 3) := by decide +kernel
theorem dX5_askSet_4 : decode cX5_askSet 4 = .ok (.aload_n 0, 1) := by decide +kernel
theorem dX5_askSet_5 : decode cX5_askSet 5 = .ok (.getfield 21, 3) := by decide +kernel
theorem dX5_askSet_8 : decode cX5_askSet 8 = .ok (.iload_n 1, 1) := by decide +kernel
theorem dX5_askSet_9 : decode cX5_askSet 9 = .ok (.invokevirtual 158, 3) := by decide +kernel
theorem dX5_askSet_12 : decode cX5_askSet 12 = .ok (.aload_n 0, 1) := by decide +kernel
theorem dX5_askSet_13 : decode cX5_askSet 13 = .ok (.getfield 29, 3) := by decide +kernel
theorem dX5_askSet_16 : decode cX5_askSet 16 = .ok (.iconst 1, 1) := by decide +kernel
theorem dX5_askSet_17 : decode cX5_askSet 17 = .ok (.invokevirtual 166, 3) := by decide +kernel
theorem dX5_askSet_20 : decode cX5_askSet 20 = .ok (.ireturn, 1) := by decide +kernel
set_option maxRecDepth 20000 in
theorem ggX5_askAllWays_X5_isEvent : GoodIn wsX5_askAllWays wsX5_isEvent := goodIn_r _ [8, 2, 111, 112, 113, 114, 115, 116, 117, 118, 119, 120, 121] (by decide +kernel) (by decide +kernel)
set_option maxRecDepth 20000 in
theorem gX5_askAllWays_X5_isEvent : GoodIn wsX5_askAllWays (wsV RX5 77 RX5 yX5_isEvent wsX5_isEvent) := goodIn_app (goodIn_of _ (by decide +kernel)) ggX5_askAllWays_X5_isEvent
set_option maxRecDepth 20000 in
theorem ggX5_askAllWays_X2_begin : GoodIn wsX5_askAllWays wsX2_begin := goodIn_r _ [13, 14, 15, 16, 17, 18, 19, 20, 122, 123, 124, 125, 126, 127, 128, 129, 130, 131, 132, 133, 134, 135] (by decide +kernel) (by decide +kernel)
set_option maxRecDepth 20000 in
theorem gX5_askAllWays_X2_begin : GoodIn wsX5_askAllWays (wsV RX5 151 RX2 yX2_begin wsX2_begin) := goodIn_app (goodIn_of _ (by decide +kernel)) ggX5_askAllWays_X2_begin
set_option maxRecDepth 20000 in
theorem ggX5_askAllWays_X5_takenSet : GoodIn wsX5_askAllWays wsX5_takenSet := goodIn_r _ [24, 25, 3, 26, 111, 112, 113, 114, 115, 116, 117, 118, 119, 120, 121, 136, 137, 138, 139, 140, 141, 142, 143, 144] (by decide +kernel) (by decide +kernel)
set_option maxRecDepth 20000 in
theorem gX5_askAllWays_X5_takenSet : GoodIn wsX5_askAllWays (wsV RX5 154 RX5 yX5_takenSet wsX5_takenSet) := goodIn_app (goodIn_of _ (by decide +kernel)) ggX5_askAllWays_X5_takenSet
set_option maxRecDepth 20000 in
theorem ggX5_askAllWays_X2_lay : GoodIn wsX5_askAllWays wsX2_lay := goodIn_r _ [30, 31, 32, 33, 34, 35, 36, 37, 12, 38, 18, 39, 40, 41, 42, 43, 44, 45, 46, 47, 48, 49, 50, 51, 52, 53, 16, 54, 55, 56, 15, 17, 57, 58, 59, 60, 61, 62, 63, 64, 14, 65, 66, 67, 68, 69, 70, 71, 72, 73, 74, 75, 76, 77, 78, 79, 80, 81, 82, 83, 84, 85, 86, 87, 136, 137, 138, 139, 140, 141, 142, 143, 144, 122, 123, 124, 125, 126, 127, 128, 129, 130, 131, 132, 133, 134, 135, 145, 146, 147] (by decide +kernel) (by decide +kernel)
set_option maxRecDepth 20000 in
theorem gX5_askAllWays_X2_lay : GoodIn wsX5_askAllWays (wsV RX5 158 RX2 yX2_lay wsX2_lay) := goodIn_app (goodIn_of _ (by decide +kernel)) ggX5_askAllWays_X2_lay
set_option maxRecDepth 20000 in
theorem ggX5_askAllWays_X2_run : GoodIn wsX5_askAllWays wsX2_run := goodIn_r _ [91, 92, 93, 20, 94, 95, 96, 12, 97, 18, 39, 98, 19, 34, 99, 100, 101, 102, 103, 104, 85, 86, 105, 14, 15, 16, 17, 106, 87, 53, 54, 107, 108, 109, 110, 41, 122, 123, 124, 125, 126, 127, 128, 129, 130, 131, 132, 133, 134, 135, 145, 146, 147] (by decide +kernel) (by decide +kernel)
set_option maxRecDepth 20000 in
theorem gX5_askAllWays_X2_run : GoodIn wsX5_askAllWays (wsV RX5 166 RX2 yX2_run wsX2_run) := goodIn_app (goodIn_of _ (by decide +kernel)) ggX5_askAllWays_X2_run
theorem dX5_askAllWays_0 : decode cX5_askAllWays 0 = .ok (.aload_n 0, 1) := by decide +kernel
theorem dX5_askAllWays_1 : decode cX5_askAllWays 1 = .ok (.iload_n 1, 1) := by decide +kernel
theorem dX5_askAllWays_2 : decode cX5_askAllWays 2 = .ok (.invokevirtual 77, 3) := by decide +kernel
theorem dX5_askAllWays_5 : decode cX5_askAllWays 5 = .ok (.ifCond .ne 5, 3) := by decide +kernel
theorem dX5_askAllWays_8 : decode cX5_askAllWays 8 = .ok (.iconst (-1), 1) := by decide +kernel
theorem dX5_askAllWays_9 : decode cX5_askAllWays 9 = .ok (.ireturn, 1) := by decide +kernel
theorem dX5_askAllWays_10 : decode cX5_askAllWays 10 = .ok (.aload_n 0, 1) := by decide +kernel
theorem dX5_askAllWays_11 : decode cX5_askAllWays 11 = .ok (.getfield 29, 3) := by decide +kernel
theorem dX5_askAllWays_14 : decode cX5_askAllWays 14 = .ok (.aload_n 0, 1) := by decide +kernel
theorem dX5_askAllWays_15 : decode cX5_askAllWays 15 = .ok (.getfield 71, 3) := by decide +kernel
theorem dX5_askAllWays_18 : decode cX5_askAllWays 18 = .ok (.invokevirtual 151, 3) := by decide +kernel
theorem dX5_askAllWays_21 : decode cX5_askAllWays 21 = .ok (.aload_n 0, 1) := by decide +kernel
theorem dX5_askAllWays_22 : decode cX5_askAllWays 22 = .ok (.getfield 29, 3) := by decide +kernel
theorem dX5_askAllWays_25 : decode cX5_askAllWays 25 = .ok (.aload_n 0, 1) := by decide +kernel
theorem dX5_askAllWays_26 : decode cX5_askAllWays 26 = .ok (.getfield 21, 3) := by decide +kernel
theorem dX5_askAllWays_29 : decode cX5_askAllWays 29 = .ok (.aload_n 0, 1) := by decide +kernel
theorem dX5_askAllWays_30 : decode cX5_askAllWays 30 = .ok (.invokevirtual 154, 3) := by decide +kernel
theorem dX5_askAllWays_33 : decode cX5_askAllWays 33 = .ok (.invokevirtual 158, 3) := by decide +kernel
theorem dX5_askAllWays_36 : decode cX5_askAllWays 36 = .ok (.aload_n 0, 1) := by decide +kernel
theorem dX5_askAllWays_37 : decode cX5_askAllWays 37 = .ok (.getfield 29, 3) := by decide +kernel
theorem dX5_askAllWays_40 : decode cX5_askAllWays 40 = .ok (.iconst 0, 1) := by decide +kernel
theorem dX5_askAllWays_41 : decode cX5_askAllWays 41 = .ok (.invokevirtual 166, 3) := by decide +kernel
theorem dX5_askAllWays_44 : decode cX5_askAllWays 44 = .ok (.istore_n 2, 1) := by decide +kernel
theorem dX5_askAllWays_45 : decode cX5_askAllWays 45 = .ok (.iload_n 2, 1) := by decide +kernel
theorem dX5_askAllWays_46 : decode cX5_askAllWays 46 = .ok (.ifCond .ne 7, 3) := by decide +kernel
theorem dX5_askAllWays_49 : decode cX5_askAllWays 49 = .ok (.iconst (-1), 1) := by decide +kernel
theorem dX5_askAllWays_50 : decode cX5_askAllWays 50 = .ok (.goto 4, 3) := by decide +kernel
theorem dX5_askAllWays_53 : decode cX5_askAllWays 53 = .ok (.iload_n 2, 1) := by decide +kernel
theorem dX5_askAllWays_54 : decode cX5_askAllWays 54 = .ok (.ireturn, 1) := by decide +kernel
set_option maxRecDepth 20000 in
theorem ggX5_askWidth_X2_begin : GoodIn wsX5_askWidth wsX2_begin := goodIn_r _ [10, 11, 12, 13, 14, 15, 16, 17, 125, 126, 127, 128, 129, 130, 131, 132, 133, 134, 135, 136, 137, 138] (by decide +kernel) (by decide +kernel)
set_option maxRecDepth 20000 in
theorem gX5_askWidth_X2_begin : GoodIn wsX5_askWidth (wsV RX5 151 RX2 yX2_begin wsX2_begin) := goodIn_app (goodIn_of _ (by decide +kernel)) ggX5_askWidth_X2_begin
set_option maxRecDepth 20000 in
theorem ggX5_askWidth_X5_takenSet : GoodIn wsX5_askWidth wsX5_takenSet := goodIn_r _ [22, 23, 3, 24, 114, 115, 116, 117, 118, 119, 120, 121, 122, 123, 124, 139, 140, 141, 142, 143, 144, 145, 146, 147] (by decide +kernel) (by decide +kernel)
set_option maxRecDepth 20000 in
theorem gX5_askWidth_X5_takenSet : GoodIn wsX5_askWidth (wsV RX5 154 RX5 yX5_takenSet wsX5_takenSet) := goodIn_app (goodIn_of _ (by decide +kernel)) ggX5_askWidth_X5_takenSet
set_option maxRecDepth 20000 in
theorem ggX5_askWidth_X2_lay : GoodIn wsX5_askWidth wsX2_lay := goodIn_r _ [28, 29, 30, 31, 32, 33, 34, 35, 9, 36, 15, 37, 38, 39, 40, 41, 42, 43, 44, 45, 46, 47, 48, 49, 50, 51, 13, 52, 53, 54, 12, 14, 55, 56, 57, 58, 59, 60, 61, 62, 11, 63, 64, 65, 66, 67, 68, 69, 70, 71, 72, 73, 74, 75, 76, 77, 78, 79, 80, 81, 82, 83, 84, 85, 139, 140, 141, 142, 143, 144, 145, 146, 147, 125, 126, 127, 128, 129, 130, 131, 132, 133, 134, 135, 136, 137, 138, 148, 149, 150] (by decide +kernel) (by decide +kernel)
set_option maxRecDepth 20000 in
theorem gX5_askWidth_X2_lay : GoodIn wsX5_askWidth (wsV RX5 158 RX2 yX2_lay wsX2_lay) := goodIn_app (goodIn_of _ (by decide +kernel)) ggX5_askWidth_X2_lay
set_option maxRecDepth 20000 in
theorem ggX5_askWidth_X2_find : GoodIn wsX5_askWidth wsX2_find := goodIn_r _ [89, 15, 90, 40, 41, 42, 43, 44, 45, 46, 47, 48, 49, 50, 51, 13, 52, 53, 54, 12, 14, 55, 56, 64, 65, 66, 9, 67, 37, 68, 69, 70, 71, 72, 73, 74, 125, 126, 127, 128, 129, 130, 131, 132, 133, 134, 135, 136, 137, 138, 148, 149, 150] (by decide +kernel) (by decide +kernel)
set_option maxRecDepth 20000 in
theorem gX5_askWidth_X2_find : GoodIn wsX5_askWidth (wsV RX5 162 RX2 yX2_find wsX2_find) := goodIn_app (goodIn_of _ (by decide +kernel)) ggX5_askWidth_X2_find
set_option maxRecDepth 20000 in
theorem ggX5_askWidth_X2_run : GoodIn wsX5_askWidth wsX2_run := goodIn_r _ [94, 95, 96, 17, 97, 98, 99, 9, 100, 15, 37, 101, 16, 32, 102, 103, 104, 105, 106, 107, 83, 84, 108, 11, 12, 13, 14, 109, 85, 51, 52, 110, 111, 112, 113, 39, 125, 126, 127, 128, 129, 130, 131, 132, 133, 134, 135, 136, 137, 138, 148, 149, 150] (by decide +kernel) (by decide +kernel)
set_option maxRecDepth 20000 in
theorem gX5_askWidth_X2_run : GoodIn wsX5_askWidth (wsV RX5 166 RX2 yX2_run wsX2_run) := goodIn_app (goodIn_of _ (by decide +kernel)) ggX5_askWidth_X2_run
theorem dX5_askWidth_0 : decode cX5_askWidth 0 = .ok (.aload_n 0, 1) := by decide +kernel
theorem dX5_askWidth_1 : decode cX5_askWidth 1 = .ok (.getfield 29, 3) := by decide +kernel
theorem dX5_askWidth_4 : decode cX5_askWidth 4 = .ok (.aload_n 0, 1) := by decide +kernel
theorem dX5_askWidth_5 : decode cX5_askWidth 5 = .ok (.getfield 71, 3) := by decide +kernel
theorem dX5_askWidth_8 : decode cX5_askWidth 8 = .ok (.invokevirtual 151, 3) := by decide +kernel
theorem dX5_askWidth_11 : decode cX5_askWidth 11 = .ok (.aload_n 0, 1) := by decide +kernel
theorem dX5_askWidth_12 : decode cX5_askWidth 12 = .ok (.getfield 29, 3) := by decide +kernel
theorem dX5_askWidth_15 : decode cX5_askWidth 15 = .ok (.aload_n 0, 1) := by decide +kernel
theorem dX5_askWidth_16 : decode cX5_askWidth 16 = .ok (.getfield 21, 3) := by decide +kernel
theorem dX5_askWidth_19 : decode cX5_askWidth 19 = .ok (.aload_n 0, 1) := by decide +kernel
theorem dX5_askWidth_20 : decode cX5_askWidth 20 = .ok (.invokevirtual 154, 3) := by decide +kernel
theorem dX5_askWidth_23 : decode cX5_askWidth 23 = .ok (.invokevirtual 158, 3) := by decide +kernel
theorem dX5_askWidth_26 : decode cX5_askWidth 26 = .ok (.iload_n 1, 1) := by decide +kernel
theorem dX5_askWidth_27 : decode cX5_askWidth 27 = .ok (.iconst (-1), 1) := by decide +kernel
theorem dX5_askWidth_28 : decode cX5_askWidth 28 = .ok (.if_icmp .eq 12, 3) := by decide +kernel
theorem dX5_askWidth_31 : decode cX5_askWidth 31 = .ok (.aload_n 0, 1) := by decide +kernel
theorem dX5_askWidth_32 : decode cX5_askWidth 32 = .ok (.getfield 29, 3) := by decide +kernel
theorem dX5_askWidth_35 : decode cX5_askWidth 35 = .ok (.iload_n 1, 1) := by decide +kernel
theorem dX5_askWidth_36 : decode cX5_askWidth 36 = .ok (.iload_n 2, 1) := by decide +kernel
theorem dX5_askWidth_37 : decode cX5_askWidth 37 = .ok (.invokevirtual 162, 3) := by decide +kernel
theorem dX5_askWidth_40 : decode cX5_askWidth 40 = .ok (.aload_n 0, 1) := by decide +kernel
theorem dX5_askWidth_41 : decode cX5_askWidth 41 = .ok (.getfield 29, 3) := by decide +kernel
theorem dX5_askWidth_44 : decode cX5_askWidth 44 = .ok (.iconst 0, 1) := by decide +kernel
theorem dX5_askWidth_45 : decode cX5_askWidth 45 = .ok (.invokevirtual 166, 3) := by decide +kernel
theorem dX5_askWidth_48 : decode cX5_askWidth 48 = .ok (.istore_n 3, 1) := by decide +kernel
theorem dX5_askWidth_49 : decode cX5_askWidth 49 = .ok (.iload_n 3, 1) := by decide +kernel
theorem dX5_askWidth_50 : decode cX5_askWidth 50 = .ok (.iconst 1, 1) := by decide +kernel
theorem dX5_askWidth_51 : decode cX5_askWidth 51 = .ok (.if_icmp .eq 14, 3) := by decide +kernel
theorem dX5_askWidth_54 : decode cX5_askWidth 54 = .ok (.iload_n 3, 1) := by decide +kernel
theorem dX5_askWidth_55 : decode cX5_askWidth 55 = .ok (.ifCond .ne 7, 3) := by decide +kernel
theorem dX5_askWidth_58 : decode cX5_askWidth 58 = .ok (.iconst (-1), 1) := by decide +kernel
theorem dX5_askWidth_59 : decode cX5_askWidth 59 = .ok (.goto 5, 3) := by decide +kernel
theorem dX5_askWidth_62 : decode cX5_askWidth 62 = .ok (.bipush (-2), 2) := by decide +kernel
theorem dX5_askWidth_64 : decode cX5_askWidth 64 = .ok (.ireturn, 1) := by decide +kernel
theorem dX5_askWidth_65 : decode cX5_askWidth 65 = .ok (.iconst 0, 1) := by decide +kernel
theorem dX5_askWidth_66 : decode cX5_askWidth 66 = .ok (.istore 4, 2) := by decide +kernel
theorem dX5_askWidth_68 : decode cX5_askWidth 68 = .ok (.iconst 0, 1) := by decide +kernel
theorem dX5_askWidth_69 : decode cX5_askWidth 69 = .ok (.istore 5, 2) := by decide +kernel
theorem dX5_askWidth_71 : decode cX5_askWidth 71 = .ok (.iload 5, 2) := by decide +kernel
theorem dX5_askWidth_73 : decode cX5_askWidth 73 = .ok (.aload_n 0, 1) := by decide +kernel
theorem dX5_askWidth_74 : decode cX5_askWidth 74 = .ok (.getfield 71, 3) := by decide +kernel
theorem dX5_askWidth_77 : decode cX5_askWidth 77 = .ok (.if_icmp .ge 35, 3) := by decide +kernel
theorem dX5_askWidth_80 : decode cX5_askWidth 80 = .ok (.iload 4, 2) := by decide +kernel
theorem dX5_askWidth_82 : decode cX5_askWidth 82 = .ok (.aload_n 0, 1) := by decide +kernel
theorem dX5_askWidth_83 : decode cX5_askWidth 83 = .ok (.getfield 29, 3) := by decide +kernel
theorem dX5_askWidth_86 : decode cX5_askWidth 86 = .ok (.getfield 145, 3) := by decide +kernel
theorem dX5_askWidth_89 : decode cX5_askWidth 89 = .ok (.iload 5, 2) := by decide +kernel
theorem dX5_askWidth_91 : decode cX5_askWidth 91 = .ok (.iaload, 1) := by decide +kernel
theorem dX5_askWidth_92 : decode cX5_askWidth 92 = .ok (.aload_n 0, 1) := by decide +kernel
theorem dX5_askWidth_93 : decode cX5_askWidth 93 = .ok (.getfield 29, 3) := by decide +kernel
theorem dX5_askWidth_96 : decode cX5_askWidth 96 = .ok (.getfield 142, 3) := by decide +kernel
theorem dX5_askWidth_99 : decode cX5_askWidth 99 = .ok (.iload 5, 2) := by decide +kernel
theorem dX5_askWidth_101 : decode cX5_askWidth 101 = .ok (.iaload, 1) := by decide +kernel
theorem dX5_askWidth_102 : decode cX5_askWidth 102 = .ok (.isub, 1) := by decide +kernel
theorem dX5_askWidth_103 : decode cX5_askWidth 103 = .ok (.iadd, 1) := by decide +kernel
theorem dX5_askWidth_104 : decode cX5_askWidth 104 = .ok (.istore 4, 2) := by decide +kernel
theorem dX5_askWidth_106 : decode cX5_askWidth 106 = .ok (.iinc 5 1, 3) := by decide +kernel
theorem dX5_askWidth_109 : decode cX5_askWidth 109 = .ok (.goto (-38), 3) := by decide +kernel
theorem dX5_askWidth_112 : decode cX5_askWidth 112 = .ok (.iload 4, 2) := by decide +kernel
theorem dX5_askWidth_114 : decode cX5_askWidth 114 = .ok (.ireturn, 1) := by decide +kernel
set_option maxRecDepth 20000 in
theorem ggX5_greaterWidth_X5_askWidth : GoodIn wsX5_greaterWidth wsX5_askWidth := goodIn_r _ [11, 12, 13, 14, 15, 16, 17, 18, 19, 20, 21, 22, 23, 5, 24, 25, 26, 27, 28, 29, 30, 10, 31, 32, 33, 34, 35, 36, 37, 38, 39, 40, 41, 42, 43, 44, 45, 46, 47, 48, 49, 50, 51, 52, 53, 54, 55, 56, 57, 58, 59, 4, 6, 60, 61, 62, 63, 64, 65, 66, 67, 68, 69, 70, 71, 72, 73, 74, 75, 76, 77, 78, 79, 80, 81, 82, 83, 84, 85, 86, 87, 88, 89, 90, 91, 92, 93, 94, 95, 96, 97, 98, 99, 100, 101, 102, 103, 104, 105, 106, 107, 108, 109, 110, 111, 112, 113, 114, 115, 116, 117, 118, 119, 120, 121, 122, 123, 124, 125, 126, 127, 128, 129, 130, 131, 132, 133, 134, 135, 136, 137, 138, 139, 140, 141, 142, 143, 144, 145, 146, 147, 148, 149, 150, 151, 152, 153, 154, 155, 156, 157] (by decide +kernel) (by decide +kernel)
set_option maxRecDepth 20000 in
theorem gX5_greaterWidth_X5_askWidth : GoodIn wsX5_greaterWidth (wsV RX5 209 RX5 yX5_askWidth wsX5_askWidth) := goodIn_app (goodIn_of _ (by decide +kernel)) ggX5_greaterWidth_X5_askWidth
theorem dX5_greaterWidth_0 : decode cX5_greaterWidth 0 = .ok (.aload_n 0, 1) := by decide +kernel
theorem dX5_greaterWidth_1 : decode cX5_greaterWidth 1 = .ok (.iload_n 1, 1) := by decide +kernel
theorem dX5_greaterWidth_2 : decode cX5_greaterWidth 2 = .ok (.aload_n 0, 1) := by decide +kernel
theorem dX5_greaterWidth_3 : decode cX5_greaterWidth 3 = .ok (.getfield 40, 3) := by decide +kernel
theorem dX5_greaterWidth_6 : decode cX5_greaterWidth 6 = .ok (.iload_n 1, 1) := by decide +kernel
theorem dX5_greaterWidth_7 : decode cX5_greaterWidth 7 = .ok (.iaload, 1) := by decide +kernel
theorem dX5_greaterWidth_8 : decode cX5_greaterWidth 8 = .ok (.invokevirtual 209, 3) := by decide +kernel
theorem dX5_greaterWidth_11 : decode cX5_greaterWidth 11 = .ok (.istore_n 2, 1) := by decide +kernel
theorem dX5_greaterWidth_12 : decode cX5_greaterWidth 12 = .ok (.iload_n 2, 1) := by decide +kernel
theorem dX5_greaterWidth_13 : decode cX5_greaterWidth 13 = .ok (.bipush (-2), 2) := by decide +kernel
theorem dX5_greaterWidth_15 : decode cX5_greaterWidth 15 = .ok (.if_icmp .ne 6, 3) := by decide +kernel
theorem dX5_greaterWidth_18 : decode cX5_greaterWidth 18 = .ok (.bipush (-2), 2) := by decide +kernel
theorem dX5_greaterWidth_20 : decode cX5_greaterWidth 20 = .ok (.ireturn, 1) := by decide +kernel
theorem dX5_greaterWidth_21 : decode cX5_greaterWidth 21 = .ok (.aload_n 0, 1) := by decide +kernel
theorem dX5_greaterWidth_22 : decode cX5_greaterWidth 22 = .ok (.iload_n 1, 1) := by decide +kernel
theorem dX5_greaterWidth_23 : decode cX5_greaterWidth 23 = .ok (.aload_n 0, 1) := by decide +kernel
theorem dX5_greaterWidth_24 : decode cX5_greaterWidth 24 = .ok (.getfield 43, 3) := by decide +kernel
theorem dX5_greaterWidth_27 : decode cX5_greaterWidth 27 = .ok (.iload_n 1, 1) := by decide +kernel
theorem dX5_greaterWidth_28 : decode cX5_greaterWidth 28 = .ok (.iaload, 1) := by decide +kernel
theorem dX5_greaterWidth_29 : decode cX5_greaterWidth 29 = .ok (.invokevirtual 209, 3) := by decide +kernel
theorem dX5_greaterWidth_32 : decode cX5_greaterWidth 32 = .ok (.istore_n 3, 1) := by decide +kernel
theorem dX5_greaterWidth_33 : decode cX5_greaterWidth 33 = .ok (.iload_n 3, 1) := by decide +kernel
theorem dX5_greaterWidth_34 : decode cX5_greaterWidth 34 = .ok (.bipush (-2), 2) := by decide +kernel
theorem dX5_greaterWidth_36 : decode cX5_greaterWidth 36 = .ok (.if_icmp .ne 8, 3) := by decide +kernel
theorem dX5_greaterWidth_39 : decode cX5_greaterWidth 39 = .ok (.bipush (-2), 2) := by decide +kernel
theorem dX5_greaterWidth_41 : decode cX5_greaterWidth 41 = .ok (.goto 8, 3) := by decide +kernel
theorem dX5_greaterWidth_44 : decode cX5_greaterWidth 44 = .ok (.iload_n 2, 1) := by decide +kernel
theorem dX5_greaterWidth_45 : decode cX5_greaterWidth 45 = .ok (.iload_n 3, 1) := by decide +kernel
theorem dX5_greaterWidth_46 : decode cX5_greaterWidth 46 = .ok (.invokestatic 255, 3) := by decide +kernel
theorem dX5_greaterWidth_49 : decode cX5_greaterWidth 49 = .ok (.ireturn, 1) := by decide +kernel
set_option maxRecDepth 20000 in
theorem ggX5_quarrelWith_X5_askSet : GoodIn wsX5_quarrelWith wsX5_askSet := goodIn_r _ [6, 7, 8, 9, 10, 11, 12, 13, 14, 15, 16, 17, 18, 19, 20, 21, 22, 23, 24, 25, 26, 27, 28, 29, 30, 31, 32, 33, 34, 35, 36, 37, 38, 39, 40, 41, 42, 43, 44, 45, 46, 47, 48, 49, 50, 51, 52, 53, 54, 55, 56, 57, 58, 59, 60, 61, 62, 63, 64, 65, 66, 67, 68, 69, 70, 71, 72, 73, 74, 75, 76, 77, 78, 79, 80, 81, 82, 83, 84, 85, 86, 87, 88, 89, 90, 91, 92, 93, 94, 95, 96, 97, 98, 99, 100, 104, 105, 106, 107, 108, 109, 110, 111, 112, 113, 114, 115, 116, 117, 118, 119, 120, 121, 122, 123, 124, 125, 126, 127, 128, 129, 130, 131, 132, 133, 134, 135, 136, 137, 138, 139, 140] (by decide +kernel) (by decide +kernel)
set_option maxRecDepth 20000 in
theorem gX5_quarrelWith_X5_askSet : GoodIn wsX5_quarrelWith (wsV RX5 170 RX5 yX5_askSet wsX5_askSet) := goodIn_app (goodIn_of _ (by decide +kernel)) ggX5_quarrelWith_X5_askSet
set_option maxRecDepth 20000 in
theorem ggX5_quarrelWith_X5_quarrelWith : GoodIn wsX5_quarrelWith wsX5_quarrelWith := goodIn_r _ [0, 1, 2, 3, 4, 5, 6, 7, 8, 9, 10, 11, 12, 13, 14, 15, 16, 17, 18, 19, 20, 21, 22, 23, 24, 25, 26, 27, 28, 29, 30, 31, 32, 33, 34, 35, 36, 37, 38, 39, 40, 41, 42, 43, 44, 45, 46, 47, 48, 49, 50, 51, 52, 53, 54, 55, 56, 57, 58, 59, 60, 61, 62, 63, 64, 65, 66, 67, 68, 69, 70, 71, 72, 73, 74, 75, 76, 77, 78, 79, 80, 81, 82, 83, 84, 85, 86, 87, 88, 89, 90, 91, 92, 93, 94, 95, 96, 97, 98, 99, 100, 101, 102, 103, 104, 105, 106, 107, 108, 109, 110, 111, 112, 113, 114, 115, 116, 117, 118, 119, 120, 121, 122, 123, 124, 125, 126, 127, 128, 129, 130, 131, 132, 133, 134, 135, 136, 137, 138, 139, 140] (by decide +kernel) (by decide +kernel)
set_option maxRecDepth 20000 in
theorem gX5_quarrelWith_X5_quarrelWith : GoodIn wsX5_quarrelWith (wsV RX5 173 RX5 yX5_quarrelWith wsX5_quarrelWith) := goodIn_app (goodIn_of _ (by decide +kernel)) ggX5_quarrelWith_X5_quarrelWith
theorem dX5_quarrelWith_0 : decode cX5_quarrelWith 0 = .ok (.iload_n 2, 1) := by decide +kernel
theorem dX5_quarrelWith_1 : decode cX5_quarrelWith 1 = .ok (.ifCond .gt 32, 3) := by decide +kernel
theorem dX5_quarrelWith_4 : decode cX5_quarrelWith 4 = .ok (.aload_n 0, 1) := by decide +kernel
theorem dX5_quarrelWith_5 : decode cX5_quarrelWith 5 = .ok (.iload_n 1, 1) := by decide +kernel
theorem dX5_quarrelWith_6 : decode cX5_quarrelWith 6 = .ok (.invokevirtual 170, 3) := by decide +kernel
theorem dX5_quarrelWith_9 : decode cX5_quarrelWith 9 = .ok (.istore 5, 2) := by decide +kernel
theorem dX5_quarrelWith_11 : decode cX5_quarrelWith 11 = .ok (.iload 5, 2) := by decide +kernel
theorem dX5_quarrelWith_13 : decode cX5_quarrelWith 13 = .ok (.bipush (-2), 2) := by decide +kernel
theorem dX5_quarrelWith_15 : decode cX5_quarrelWith 15 = .ok (.if_icmp .ne 6, 3) := by decide +kernel
theorem dX5_quarrelWith_18 : decode cX5_quarrelWith 18 = .ok (.bipush (-2), 2) := by decide +kernel
theorem dX5_quarrelWith_20 : decode cX5_quarrelWith 20 = .ok (.ireturn, 1) := by decide +kernel
theorem dX5_quarrelWith_21 : decode cX5_quarrelWith 21 = .ok (.iload 5, 2) := by decide +kernel
theorem dX5_quarrelWith_23 : decode cX5_quarrelWith 23 = .ok (.iconst 1, 1) := by decide +kernel
theorem dX5_quarrelWith_24 : decode cX5_quarrelWith 24 = .ok (.if_icmp .ne 7, 3) := by decide +kernel
theorem dX5_quarrelWith_27 : decode cX5_quarrelWith 27 = .ok (.iconst 0, 1) := by decide +kernel
theorem dX5_quarrelWith_28 : decode cX5_quarrelWith 28 = .ok (.goto 4, 3) := by decide +kernel
theorem dX5_quarrelWith_31 : decode cX5_quarrelWith 31 = .ok (.iload_n 1, 1) := by decide +kernel
theorem dX5_quarrelWith_32 : decode cX5_quarrelWith 32 = .ok (.ireturn, 1) := by decide +kernel
theorem dX5_quarrelWith_33 : decode cX5_quarrelWith 33 = .ok (.iload_n 3, 1) := by decide +kernel
theorem dX5_quarrelWith_34 : decode cX5_quarrelWith 34 = .ok (.istore 5, 2) := by decide +kernel
theorem dX5_quarrelWith_36 : decode cX5_quarrelWith 36 = .ok (.iload 5, 2) := by decide +kernel
theorem dX5_quarrelWith_38 : decode cX5_quarrelWith 38 = .ok (.aload_n 0, 1) := by decide +kernel
theorem dX5_quarrelWith_39 : decode cX5_quarrelWith 39 = .ok (.getfield 74, 3) := by decide +kernel
theorem dX5_quarrelWith_42 : decode cX5_quarrelWith 42 = .ok (.if_icmp .ge 48, 3) := by decide +kernel
theorem dX5_quarrelWith_45 : decode cX5_quarrelWith 45 = .ok (.iload 4, 2) := by decide +kernel
theorem dX5_quarrelWith_47 : decode cX5_quarrelWith 47 = .ok (.iload 5, 2) := by decide +kernel
theorem dX5_quarrelWith_49 : decode cX5_quarrelWith 49 = .ok (.ishr, 1) := by decide +kernel
theorem dX5_quarrelWith_50 : decode cX5_quarrelWith 50 = .ok (.iconst 1, 1) := by decide +kernel
theorem dX5_quarrelWith_51 : decode cX5_quarrelWith 51 = .ok (.iand, 1) := by decide +kernel
theorem dX5_quarrelWith_52 : decode cX5_quarrelWith 52 = .ok (.ifCond .eq 32, 3) := by decide +kernel
theorem dX5_quarrelWith_55 : decode cX5_quarrelWith 55 = .ok (.aload_n 0, 1) := by decide +kernel
theorem dX5_quarrelWith_56 : decode cX5_quarrelWith 56 = .ok (.iload_n 1, 1) := by decide +kernel
theorem dX5_quarrelWith_57 : decode cX5_quarrelWith 57 = .ok (.iconst 1, 1) := by decide +kernel
theorem dX5_quarrelWith_58 : decode cX5_quarrelWith 58 = .ok (.iload 5, 2) := by decide +kernel
theorem dX5_quarrelWith_60 : decode cX5_quarrelWith 60 = .ok (.ishl, 1) := by decide +kernel
theorem dX5_quarrelWith_61 : decode cX5_quarrelWith 61 = .ok (.ior, 1) := by decide +kernel
theorem dX5_quarrelWith_62 : decode cX5_quarrelWith 62 = .ok (.iload_n 2, 1) := by decide +kernel
theorem dX5_quarrelWith_63 : decode cX5_quarrelWith 63 = .ok (.iconst 1, 1) := by decide +kernel
theorem dX5_quarrelWith_64 : decode cX5_quarrelWith 64 = .ok (.isub, 1) := by decide +kernel
theorem dX5_quarrelWith_65 : decode cX5_quarrelWith 65 = .ok (.iload 5, 2) := by decide +kernel
theorem dX5_quarrelWith_67 : decode cX5_quarrelWith 67 = .ok (.iconst 1, 1) := by decide +kernel
theorem dX5_quarrelWith_68 : decode cX5_quarrelWith 68 = .ok (.iadd, 1) := by decide +kernel
theorem dX5_quarrelWith_69 : decode cX5_quarrelWith 69 = .ok (.iload 4, 2) := by decide +kernel
theorem dX5_quarrelWith_71 : decode cX5_quarrelWith 71 = .ok (.invokevirtual 173, 3) := by decide +kernel
theorem dX5_quarrelWith_74 : decode cX5_quarrelWith 74 = .ok (.istore 6, 2) := by decide +kernel
theorem dX5_quarrelWith_76 : decode cX5_quarrelWith 76 = .ok (.iload 6, 2) := by decide +kernel
theorem dX5_quarrelWith_78 : decode cX5_quarrelWith 78 = .ok (.ifCond .eq 6, 3) := by decide +kernel
theorem dX5_quarrelWith_81 : decode cX5_quarrelWith 81 = .ok (.iload 6, 2) := by decide +kernel
theorem dX5_quarrelWith_83 : decode cX5_quarrelWith 83 = .ok (.ireturn, 1) := by decide +kernel
theorem dX5_quarrelWith_84 : decode cX5_quarrelWith 84 = .ok (.iinc 5 1, 3) := by decide +kernel
theorem dX5_quarrelWith_87 : decode cX5_quarrelWith 87 = .ok (.goto (-51), 3) := by decide +kernel
theorem dX5_quarrelWith_90 : decode cX5_quarrelWith 90 = .ok (.iconst 0, 1) := by decide +kernel
theorem dX5_quarrelWith_91 : decode cX5_quarrelWith 91 = .ok (.ireturn, 1) := by decide +kernel
set_option maxRecDepth 20000 in
theorem ggX5_gatherGroups_X3_begin : GoodIn wsX5_gatherGroups wsX3_begin := goodIn_r _ [9, 10, 11, 12, 46, 47, 48, 49, 50, 51, 52, 53, 54] (by decide +kernel) (by decide +kernel)
set_option maxRecDepth 20000 in
theorem gX5_gatherGroups_X3_begin : GoodIn wsX5_gatherGroups (wsV RX5 260 RX3 yX3_begin wsX3_begin) := goodIn_app (goodIn_of _ (by decide +kernel)) ggX5_gatherGroups_X3_begin
set_option maxRecDepth 20000 in
theorem ggX5_gatherGroups_X5_rootOf : GoodIn wsX5_gatherGroups wsX5_rootOf := goodIn_r _ [17, 3, 18, 26, 27, 28, 29, 30, 31, 32, 33, 34, 35, 36, 37, 38, 39, 40, 41, 42, 43, 44, 45] (by decide +kernel) (by decide +kernel)
set_option maxRecDepth 20000 in
theorem gX5_gatherGroups_X5_rootOf : GoodIn wsX5_gatherGroups (wsV RX5 126 RX5 yX5_rootOf wsX5_rootOf) := goodIn_app (goodIn_of _ (by decide +kernel)) ggX5_gatherGroups_X5_rootOf
set_option maxRecDepth 20000 in
theorem ggX5_gatherGroups_X3_addGroup : GoodIn wsX5_gatherGroups wsX3_addGroup := goodIn_r _ [22, 10, 23, 24, 25, 46, 47, 48, 49, 50, 51, 52, 53, 54] (by decide +kernel) (by decide +kernel)
set_option maxRecDepth 20000 in
theorem gX5_gatherGroups_X3_addGroup : GoodIn wsX5_gatherGroups (wsV RX5 262 RX3 yX3_addGroup wsX3_addGroup) := goodIn_app (goodIn_of _ (by decide +kernel)) ggX5_gatherGroups_X3_addGroup
theorem dX5_gatherGroups_0 : decode cX5_gatherGroups 0 = .ok (.aload_n 0, 1) := by decide +kernel
theorem dX5_gatherGroups_1 : decode cX5_gatherGroups 1 = .ok (.getfield 36, 3) := by decide +kernel
theorem dX5_gatherGroups_4 : decode cX5_gatherGroups 4 = .ok (.invokevirtual 260, 3) := by decide +kernel
theorem dX5_gatherGroups_7 : decode cX5_gatherGroups 7 = .ok (.iconst 0, 1) := by decide +kernel
theorem dX5_gatherGroups_8 : decode cX5_gatherGroups 8 = .ok (.istore_n 2, 1) := by decide +kernel
theorem dX5_gatherGroups_9 : decode cX5_gatherGroups 9 = .ok (.iload_n 2, 1) := by decide +kernel
theorem dX5_gatherGroups_10 : decode cX5_gatherGroups 10 = .ok (.aload_n 0, 1) := by decide +kernel
theorem dX5_gatherGroups_11 : decode cX5_gatherGroups 11 = .ok (.getfield 74, 3) := by decide +kernel
theorem dX5_gatherGroups_14 : decode cX5_gatherGroups 14 = .ok (.if_icmp .ge 70, 3) := by decide +kernel
theorem dX5_gatherGroups_17 : decode cX5_gatherGroups 17 = .ok (.iconst 0, 1) := by decide +kernel
theorem dX5_gatherGroups_18 : decode cX5_gatherGroups 18 = .ok (.istore_n 3, 1) := by decide +kernel
theorem dX5_gatherGroups_19 : decode cX5_gatherGroups 19 = .ok (.iload_n 2, 1) := by decide +kernel
theorem dX5_gatherGroups_20 : decode cX5_gatherGroups 20 = .ok (.istore 4, 2) := by decide +kernel
theorem dX5_gatherGroups_22 : decode cX5_gatherGroups 22 = .ok (.iload 4, 2) := by decide +kernel
theorem dX5_gatherGroups_24 : decode cX5_gatherGroups 24 = .ok (.aload_n 0, 1) := by decide +kernel
theorem dX5_gatherGroups_25 : decode cX5_gatherGroups 25 = .ok (.getfield 74, 3) := by decide +kernel
theorem dX5_gatherGroups_28 : decode cX5_gatherGroups 28 = .ok (.if_icmp .ge 26, 3) := by decide +kernel
theorem dX5_gatherGroups_31 : decode cX5_gatherGroups 31 = .ok (.aload_n 0, 1) := by decide +kernel
theorem dX5_gatherGroups_32 : decode cX5_gatherGroups 32 = .ok (.iload 4, 2) := by decide +kernel
theorem dX5_gatherGroups_34 : decode cX5_gatherGroups 34 = .ok (.invokevirtual 126, 3) := by decide +kernel
theorem dX5_gatherGroups_37 : decode cX5_gatherGroups 37 = .ok (.iload_n 2, 1) := by decide +kernel
theorem dX5_gatherGroups_38 : decode cX5_gatherGroups 38 = .ok (.if_icmp .ne 10, 3) := by decide +kernel
theorem dX5_gatherGroups_41 : decode cX5_gatherGroups 41 = .ok (.iload_n 3, 1) := by decide +kernel
theorem dX5_gatherGroups_42 : decode cX5_gatherGroups 42 = .ok (.iconst 1, 1) := by decide +kernel
theorem dX5_gatherGroups_43 : decode cX5_gatherGroups 43 = .ok (.iload 4, 2) := by decide +kernel
theorem dX5_gatherGroups_45 : decode cX5_gatherGroups 45 = .ok (.ishl, 1) := by decide +kernel
theorem dX5_gatherGroups_46 : decode cX5_gatherGroups 46 = .ok (.ior, 1) := by decide +kernel
theorem dX5_gatherGroups_47 : decode cX5_gatherGroups 47 = .ok (.istore_n 3, 1) := by decide +kernel
theorem dX5_gatherGroups_48 : decode cX5_gatherGroups 48 = .ok (.iinc 4 1, 3) := by decide +kernel
theorem dX5_gatherGroups_51 : decode cX5_gatherGroups 51 = .ok (.goto (-29), 3) := by decide +kernel
theorem dX5_gatherGroups_54 : decode cX5_gatherGroups 54 = .ok (.iload_n 3, 1) := by decide +kernel
theorem dX5_gatherGroups_55 : decode cX5_gatherGroups 55 = .ok (.iload_n 1, 1) := by decide +kernel
theorem dX5_gatherGroups_56 : decode cX5_gatherGroups 56 = .ok (.iand, 1) := by decide +kernel
theorem dX5_gatherGroups_57 : decode cX5_gatherGroups 57 = .ok (.ifCond .eq 21, 3) := by decide +kernel
theorem dX5_gatherGroups_60 : decode cX5_gatherGroups 60 = .ok (.aload_n 0, 1) := by decide +kernel
theorem dX5_gatherGroups_61 : decode cX5_gatherGroups 61 = .ok (.getfield 36, 3) := by decide +kernel
theorem dX5_gatherGroups_64 : decode cX5_gatherGroups 64 = .ok (.iload_n 2, 1) := by decide +kernel
theorem dX5_gatherGroups_65 : decode cX5_gatherGroups 65 = .ok (.iload_n 3, 1) := by decide +kernel
theorem dX5_gatherGroups_66 : decode cX5_gatherGroups 66 = .ok (.aload_n 0, 1) := by decide +kernel
theorem dX5_gatherGroups_67 : decode cX5_gatherGroups 67 = .ok (.getfield 21, 3) := by decide +kernel
theorem dX5_gatherGroups_70 : decode cX5_gatherGroups 70 = .ok (.iload_n 2, 1) := by decide +kernel
theorem dX5_gatherGroups_71 : decode cX5_gatherGroups 71 = .ok (.aaload, 1) := by decide +kernel
theorem dX5_gatherGroups_72 : decode cX5_gatherGroups 72 = .ok (.getfield 123, 3) := by decide +kernel
theorem dX5_gatherGroups_75 : decode cX5_gatherGroups 75 = .ok (.invokevirtual 262, 3) := by decide +kernel
theorem dX5_gatherGroups_78 : decode cX5_gatherGroups 78 = .ok (.iinc 2 1, 3) := by decide +kernel
theorem dX5_gatherGroups_81 : decode cX5_gatherGroups 81 = .ok (.goto (-72), 3) := by decide +kernel
theorem dX5_gatherGroups_84 : decode cX5_gatherGroups 84 = .ok (.return_, 1) := by decide +kernel
