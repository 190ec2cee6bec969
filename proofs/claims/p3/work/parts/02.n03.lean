set_option maxRecDepth 20000 in
theorem ggX5_init_X1_init : GoodIn wsX5_init wsX1_init := goodIn_r _ [23, 24, 2, 3, 25, 26, 27, 28, 29, 30, 31, 4, 32, 33, 99, 100, 101, 67, 68, 69, 70, 71, 72, 73, 74, 75] (by decide +kernel) (by decide +kernel)
set_option maxRecDepth 20000 in
theorem gX5_init_X1_init_n25 : GoodIn wsX5_init (wsX1_init) := ggX5_init_X1_init
set_option maxRecDepth 20000 in
theorem ggX5_init_X2_init : GoodIn wsX5_init wsX2_init := goodIn_r _ [36, 37, 2, 3, 4, 38, 39, 40, 41, 26, 27, 42, 43, 44, 45, 46, 47, 29, 30, 31, 32, 33, 76, 77, 78, 79, 80, 81, 82, 83, 84, 85, 86, 87, 88, 89, 99, 100, 101] (by decide +kernel) (by decide +kernel)
set_option maxRecDepth 20000 in
theorem gX5_init_X2_init : GoodIn wsX5_init (wsX2_init) := ggX5_init_X2_init
set_option maxRecDepth 20000 in
theorem ggX5_init_X3_init : GoodIn wsX5_init wsX3_init := goodIn_r _ [49, 50, 2, 3, 4, 51, 52, 53, 54, 55, 90, 91, 92, 93, 94, 95, 96, 97, 98] (by decide +kernel) (by decide +kernel)
set_option maxRecDepth 20000 in
theorem gX5_init_X3_init_n35 : GoodIn wsX5_init (wsX3_init) := ggX5_init_X3_init
theorem dX5_init_0 : decode cX5_init 0 = .ok (.aload_n 0, 1) := by decide +kernel
theorem dX5_init_1 : decode cX5_init 1 = .ok (.invokespecial 1, 3) := by decide +kernel
theorem dX5_init_4 : decode cX5_init 4 = .ok (.aload_n 0, 1) := by decide +kernel
theorem dX5_init_5 : decode cX5_init 5 = .ok (.bipush 6, 2) := by decide +kernel
theorem dX5_init_7 : decode cX5_init 7 = .ok (.newarray .int, 2) := by decide +kernel
theorem dX5_init_9 : decode cX5_init 9 = .ok (.putfield 9, 3) := by decide +kernel
theorem dX5_init_12 : decode cX5_init 12 = .ok (.aload_n 0, 1) := by decide +kernel
theorem dX5_init_13 : decode cX5_init 13 = .ok (.bipush 6, 2) := by decide +kernel
theorem dX5_init_15 : decode cX5_init 15 = .ok (.newarray .int, 2) := by decide +kernel
theorem dX5_init_17 : decode cX5_init 17 = .ok (.putfield 13, 3) := by decide +kernel
theorem dX5_init_20 : decode cX5_init 20 = .ok (.aload_n 0, 1) := by decide +kernel
theorem dX5_init_21 : decode cX5_init 21 = .ok (.bipush 6, 2) := by decide +kernel
theorem dX5_init_23 : decode cX5_init 23 = .ok (.newarray .int, 2) := by decide +kernel
theorem dX5_init_25 : decode cX5_init 25 = .ok (.putfield 16, 3) := by decide +kernel
theorem dX5_init_28 : decode cX5_init 28 = .ok (.aload_n 0, 1) := by decide +kernel
theorem dX5_init_29 : decode cX5_init 29 = .ok (.bipush 12, 2) := by decide +kernel
theorem dX5_init_31 : decode cX5_init 31 = .ok (.anewarray 19, 3) := by decide +kernel
theorem dX5_init_34 : decode cX5_init 34 = .ok (.putfield 21, 3) := by decide +kernel
theorem dX5_init_37 : decode cX5_init 37 = .ok (.iconst 0, 1) := by decide +kernel
theorem dX5_init_38 : decode cX5_init 38 = .ok (.istore_n 1, 1) := by decide +kernel
theorem dX5_init_39 : decode cX5_init 39 = .ok (.iload_n 1, 1) := by decide +kernel
theorem dX5_init_40 : decode cX5_init 40 = .ok (.bipush 12, 2) := by decide +kernel
theorem dX5_init_42 : decode cX5_init 42 = .ok (.if_icmp .ge 22, 3) := by decide +kernel
theorem dX5_init_45 : decode cX5_init 45 = .ok (.aload_n 0, 1) := by decide +kernel
theorem dX5_init_46 : decode cX5_init 46 = .ok (.getfield 21, 3) := by decide +kernel
theorem dX5_init_49 : decode cX5_init 49 = .ok (.iload_n 1, 1) := by decide +kernel
theorem dX5_init_50 : decode cX5_init 50 = .ok (.new 19, 3) := by decide +kernel
theorem dX5_init_53 : decode cX5_init 53 = .ok (.dup, 1) := by decide +kernel
theorem dX5_init_54 : decode cX5_init 54 = .ok (.invokespecial 25, 3) := by decide +kernel
theorem dX5_init_57 : decode cX5_init 57 = .ok (.aastore, 1) := by decide +kernel
theorem dX5_init_58 : decode cX5_init 58 = .ok (.iinc 1 1, 3) := by decide +kernel
theorem dX5_init_61 : decode cX5_init 61 = .ok (.goto (-22), 3) := by decide +kernel
theorem dX5_init_64 : decode cX5_init 64 = .ok (.aload_n 0, 1) := by decide +kernel
theorem dX5_init_65 : decode cX5_init 65 = .ok (.new 26, 3) := by decide +kernel
theorem dX5_init_68 : decode cX5_init 68 = .ok (.dup, 1) := by decide +kernel
theorem dX5_init_69 : decode cX5_init 69 = .ok (.invokespecial 28, 3) := by decide +kernel
theorem dX5_init_72 : decode cX5_init 72 = .ok (.putfield 29, 3) := by decide +kernel
theorem dX5_init_75 : decode cX5_init 75 = .ok (.aload_n 0, 1) := by decide +kernel
theorem dX5_init_76 : decode cX5_init 76 = .ok (.new 33, 3) := by decide +kernel
theorem dX5_init_79 : decode cX5_init 79 = .ok (.dup, 1) := by decide +kernel
theorem dX5_init_80 : decode cX5_init 80 = .ok (.invokespecial 35, 3) := by decide +kernel
theorem dX5_init_83 : decode cX5_init 83 = .ok (.putfield 36, 3) := by decide +kernel
theorem dX5_init_86 : decode cX5_init 86 = .ok (.aload_n 0, 1) := by decide +kernel
theorem dX5_init_87 : decode cX5_init 87 = .ok (.bipush 6, 2) := by decide +kernel
theorem dX5_init_89 : decode cX5_init 89 = .ok (.newarray .int, 2) := by decide +kernel
theorem dX5_init_91 : decode cX5_init 91 = .ok (.putfield 40, 3) := by decide +kernel
theorem dX5_init_94 : decode cX5_init 94 = .ok (.aload_n 0, 1) := by decide +kernel
theorem dX5_init_95 : decode cX5_init 95 = .ok (.bipush 6, 2) := by decide +kernel
theorem dX5_init_97 : decode cX5_init 97 = .ok (.newarray .int, 2) := by decide +kernel
theorem dX5_init_99 : decode cX5_init 99 = .ok (.putfield 43, 3) := by decide +kernel
theorem dX5_init_102 : decode cX5_init 102 = .ok (.return_, 1) := by decide +kernel
set_option maxRecDepth 20000 in
theorem ggX5_day_X0_dayOf : GoodIn wsX5_day wsX0_dayOf := goodIn_r _ [4, 5, 6, 3, 7, 8, 9, 10, 11, 12, 13, 14, 15, 16, 17, 18, 19, 20, 21, 22, 23, 24, 25, 26, 27, 28, 29, 30, 31, 32, 33] (by decide +kernel) (by decide +kernel)
set_option maxRecDepth 20000 in
theorem gX5_day_X0_dayOf : GoodIn wsX5_day (va_wsS RX5 46 yX0_dayOf wsX0_dayOf) := goodIn_app (goodIn_of _ (by decide +kernel)) ggX5_day_X0_dayOf
theorem dX5_day_0 : decode cX5_day 0 = .ok (.iload_n 1, 1) := by decide +kernel
theorem dX5_day_1 : decode cX5_day 1 = .ok (.iload_n 2, 1) := by decide +kernel
theorem dX5_day_2 : decode cX5_day 2 = .ok (.iload_n 3, 1) := by decide +kernel
theorem dX5_day_3 : decode cX5_day 3 = .ok (.iload 4, 2) := by decide +kernel
theorem dX5_day_5 : decode cX5_day 5 = .ok (.invokestatic 46, 3) := by decide +kernel
theorem dX5_day_8 : decode cX5_day 8 = .ok (.ireturn, 1) := by decide +kernel
set_option maxRecDepth 20000 in
theorem ggX5_date_X0_partOf : GoodIn wsX5_date wsX0_partOf := goodIn_r _ [4, 5, 6, 3, 7, 8, 9, 10, 11, 12, 13, 14, 15, 16, 17, 18, 19, 20, 21, 22, 23, 24, 25, 26, 27] (by decide +kernel) (by decide +kernel)
set_option maxRecDepth 20000 in
theorem gX5_date_X0_partOf : GoodIn wsX5_date (va_wsS RX5 52 yX0_partOf wsX0_partOf) := goodIn_app (goodIn_of _ (by decide +kernel)) ggX5_date_X0_partOf
theorem dX5_date_0 : decode cX5_date 0 = .ok (.iload_n 1, 1) := by decide +kernel
theorem dX5_date_1 : decode cX5_date 1 = .ok (.iload_n 2, 1) := by decide +kernel
theorem dX5_date_2 : decode cX5_date 2 = .ok (.iload_n 3, 1) := by decide +kernel
theorem dX5_date_3 : decode cX5_date 3 = .ok (.invokestatic 52, 3) := by decide +kernel
theorem dX5_date_6 : decode cX5_date 6 = .ok (.ireturn, 1) := by decide +kernel
set_option maxRecDepth 20000 in
theorem ggX5_years_X0_yearsBehind : GoodIn wsX5_years wsX0_yearsBehind := goodIn_r _ [4, 5, 6, 3, 7, 8, 9, 10, 11, 12, 13, 14, 15, 16, 17, 18, 19, 20, 21, 22, 23, 24, 25, 26, 27, 28, 29, 30, 31, 32, 33, 34, 35, 36, 37, 38, 39, 40, 41, 42] (by decide +kernel) (by decide +kernel)
set_option maxRecDepth 20000 in
theorem gX5_years_X0_yearsBehind : GoodIn wsX5_years (va_wsS RX5 56 yX0_yearsBehind wsX0_yearsBehind) := goodIn_app (goodIn_of _ (by decide +kernel)) ggX5_years_X0_yearsBehind
theorem dX5_years_0 : decode cX5_years 0 = .ok (.iload_n 1, 1) := by decide +kernel
theorem dX5_years_1 : decode cX5_years 1 = .ok (.iload_n 2, 1) := by decide +kernel
theorem dX5_years_2 : decode cX5_years 2 = .ok (.iload_n 3, 1) := by decide +kernel
theorem dX5_years_3 : decode cX5_years 3 = .ok (.invokestatic 56, 3) := by decide +kernel
theorem dX5_years_6 : decode cX5_years 6 = .ok (.ireturn, 1) := by decide +kernel
set_option maxRecDepth 20000 in
theorem ggX5_king_X0_isCalendar : GoodIn wsX5_king wsX0_isCalendar := goodIn_r _ [8] (by decide +kernel) (by decide +kernel)
set_option maxRecDepth 20000 in
theorem gX5_king_X0_isCalendar : GoodIn wsX5_king (va_wsS RX5 63 yX0_isCalendar wsX0_isCalendar) := goodIn_app (goodIn_of _ (by decide +kernel)) ggX5_king_X0_isCalendar
set_option maxRecDepth 20000 in
theorem ggX5_king_X5_isRowOfDays : GoodIn wsX5_king wsX5_isRowOfDays := goodIn_r _ [12, 13, 14, 11, 15, 16] (by decide +kernel) (by decide +kernel)
set_option maxRecDepth 20000 in
theorem gX5_king_X5_isRowOfDays : GoodIn wsX5_king (va_wsS RX5 67 yX5_isRowOfDays wsX5_isRowOfDays) := goodIn_app (goodIn_of _ (by decide +kernel)) ggX5_king_X5_isRowOfDays
theorem dX5_king_0 : decode cX5_king 0 = .ok (.aload_n 0, 1) := by decide +kernel
theorem dX5_king_1 : decode cX5_king 1 = .ok (.getfield 59, 3) := by decide +kernel
theorem dX5_king_4 : decode cX5_king 4 = .ok (.bipush 6, 2) := by decide +kernel
theorem dX5_king_6 : decode cX5_king 6 = .ok (.if_icmp .ge 18, 3) := by decide +kernel
theorem dX5_king_9 : decode cX5_king 9 = .ok (.iload_n 1, 1) := by decide +kernel
theorem dX5_king_10 : decode cX5_king 10 = .ok (.invokestatic 63, 3) := by decide +kernel
theorem dX5_king_13 : decode cX5_king 13 = .ok (.ifCond .eq 11, 3) := by decide +kernel
theorem dX5_king_16 : decode cX5_king 16 = .ok (.iload_n 2, 1) := by decide +kernel
theorem dX5_king_17 : decode cX5_king 17 = .ok (.iload_n 3, 1) := by decide +kernel
theorem dX5_king_18 : decode cX5_king 18 = .ok (.invokestatic 67, 3) := by decide +kernel
theorem dX5_king_21 : decode cX5_king 21 = .ok (.ifCond .ne 5, 3) := by decide +kernel
theorem dX5_king_24 : decode cX5_king 24 = .ok (.iconst (-1), 1) := by decide +kernel
theorem dX5_king_25 : decode cX5_king 25 = .ok (.ireturn, 1) := by decide +kernel
theorem dX5_king_26 : decode cX5_king 26 = .ok (.aload_n 0, 1) := by decide +kernel
theorem dX5_king_27 : decode cX5_king 27 = .ok (.getfield 9, 3) := by decide +kernel
theorem dX5_king_30 : decode cX5_king 30 = .ok (.aload_n 0, 1) := by decide +kernel
theorem dX5_king_31 : decode cX5_king 31 = .ok (.getfield 59, 3) := by decide +kernel
theorem dX5_king_34 : decode cX5_king 34 = .ok (.iload_n 1, 1) := by decide +kernel
theorem dX5_king_35 : decode cX5_king 35 = .ok (.iastore, 1) := by decide +kernel
theorem dX5_king_36 : decode cX5_king 36 = .ok (.aload_n 0, 1) := by decide +kernel
theorem dX5_king_37 : decode cX5_king 37 = .ok (.getfield 13, 3) := by decide +kernel
theorem dX5_king_40 : decode cX5_king 40 = .ok (.aload_n 0, 1) := by decide +kernel
theorem dX5_king_41 : decode cX5_king 41 = .ok (.getfield 59, 3) := by decide +kernel
theorem dX5_king_44 : decode cX5_king 44 = .ok (.iload_n 2, 1) := by decide +kernel
theorem dX5_king_45 : decode cX5_king 45 = .ok (.iastore, 1) := by decide +kernel
theorem dX5_king_46 : decode cX5_king 46 = .ok (.aload_n 0, 1) := by decide +kernel
theorem dX5_king_47 : decode cX5_king 47 = .ok (.getfield 16, 3) := by decide +kernel
theorem dX5_king_50 : decode cX5_king 50 = .ok (.aload_n 0, 1) := by decide +kernel
theorem dX5_king_51 : decode cX5_king 51 = .ok (.getfield 59, 3) := by decide +kernel
theorem dX5_king_54 : decode cX5_king 54 = .ok (.iload_n 3, 1) := by decide +kernel
theorem dX5_king_55 : decode cX5_king 55 = .ok (.iastore, 1) := by decide +kernel
theorem dX5_king_56 : decode cX5_king 56 = .ok (.aload_n 0, 1) := by decide +kernel
theorem dX5_king_57 : decode cX5_king 57 = .ok (.dup, 1) := by decide +kernel
theorem dX5_king_58 : decode cX5_king 58 = .ok (.getfield 59, 3) := by decide +kernel
theorem dX5_king_61 : decode cX5_king 61 = .ok (.iconst 1, 1) := by decide +kernel
theorem dX5_king_62 : decode cX5_king 62 = .ok (.iadd, 1) := by decide +kernel
theorem dX5_king_63 : decode cX5_king 63 = .ok (.putfield 59, 3) := by decide +kernel
theorem dX5_king_66 : decode cX5_king 66 = .ok (.aload_n 0, 1) := by decide +kernel
theorem dX5_king_67 : decode cX5_king 67 = .ok (.getfield 59, 3) := by decide +kernel
theorem dX5_king_70 : decode cX5_king 70 = .ok (.iconst 1, 1) := by decide +kernel
theorem dX5_king_71 : decode cX5_king 71 = .ok (.isub, 1) := by decide +kernel
theorem dX5_king_72 : decode cX5_king 72 = .ok (.ireturn, 1) := by decide +kernel
theorem dX5_event_0 : decode cX5_event 0 = .ok (.aload_n 0, 1) := by decide +kernel
theorem dX5_event_1 : decode cX5_event 1 = .ok (.getfield 71, 3) := by decide +kernel
theorem dX5_event_4 : decode cX5_event 4 = .ok (.bipush 6, 2) := by decide +kernel
theorem dX5_event_6 : decode cX5_event 6 = .ok (.if_icmp .lt 5, 3) := by decide +kernel
theorem dX5_event_9 : decode cX5_event 9 = .ok (.iconst (-1), 1) := by decide +kernel
theorem dX5_event_10 : decode cX5_event 10 = .ok (.ireturn, 1) := by decide +kernel
theorem dX5_event_11 : decode cX5_event 11 = .ok (.aload_n 0, 1) := by decide +kernel
theorem dX5_event_12 : decode cX5_event 12 = .ok (.dup, 1) := by decide +kernel
theorem dX5_event_13 : decode cX5_event 13 = .ok (.getfield 71, 3) := by decide +kernel
theorem dX5_event_16 : decode cX5_event 16 = .ok (.iconst 1, 1) := by decide +kernel
theorem dX5_event_17 : decode cX5_event 17 = .ok (.iadd, 1) := by decide +kernel
theorem dX5_event_18 : decode cX5_event 18 = .ok (.putfield 71, 3) := by decide +kernel
theorem dX5_event_21 : decode cX5_event 21 = .ok (.aload_n 0, 1) := by decide +kernel
theorem dX5_event_22 : decode cX5_event 22 = .ok (.getfield 71, 3) := by decide +kernel
theorem dX5_event_25 : decode cX5_event 25 = .ok (.iconst 1, 1) := by decide +kernel
theorem dX5_event_26 : decode cX5_event 26 = .ok (.isub, 1) := by decide +kernel
theorem dX5_event_27 : decode cX5_event 27 = .ok (.ireturn, 1) := by decide +kernel
set_option maxRecDepth 20000 in
theorem ggX5_say_X5_isEvent : GoodIn wsX5_say wsX5_isEvent := goodIn_r _ [9, 10, 120, 121, 122, 123, 124, 125, 126, 127, 128, 129, 130] (by decide +kernel) (by decide +kernel)
set_option maxRecDepth 20000 in
theorem gX5_say_X5_isEvent : GoodIn wsX5_say (wsV RX5 77 RX5 yX5_isEvent wsX5_isEvent) := goodIn_app (goodIn_of _ (by decide +kernel)) ggX5_say_X5_isEvent
set_option maxRecDepth 20000 in
theorem ggX5_say_X4_clear : GoodIn wsX5_say wsX4_clear := goodIn_r _ [15, 16, 140, 141, 142] (by decide +kernel) (by decide +kernel)
set_option maxRecDepth 20000 in
theorem gX5_say_X4_clear : GoodIn wsX5_say (wsV RX5 84 RX4 yX4_clear wsX4_clear) := goodIn_app (goodIn_of _ (by decide +kernel)) ggX5_say_X4_clear
set_option maxRecDepth 20000 in
theorem ggX5_say_X5_isBehind : GoodIn wsX5_say wsX5_isBehind := goodIn_r _ [20, 21, 22, 5, 6, 7, 8, 9, 10, 120, 121, 122, 123, 124, 125, 126, 127, 128, 129, 130] (by decide +kernel) (by decide +kernel)
set_option maxRecDepth 20000 in
theorem gX5_say_X5_isBehind : GoodIn wsX5_say (wsV RX5 89 RX5 yX5_isBehind wsX5_isBehind) := goodIn_app (goodIn_of _ (by decide +kernel)) ggX5_say_X5_isBehind
set_option maxRecDepth 20000 in
theorem ggX5_say_X1_setBehind : GoodIn wsX5_say wsX1_setBehind := goodIn_r _ [27, 28, 29, 30, 131, 132, 133, 134, 135, 136, 137, 138, 139] (by decide +kernel) (by decide +kernel)
set_option maxRecDepth 20000 in
theorem gX5_say_X1_setBehind : GoodIn wsX5_say (wsV RX5 93 RX1 yX1_setBehind wsX1_setBehind) := goodIn_app (goodIn_of _ (by decide +kernel)) ggX5_say_X1_setBehind
set_option maxRecDepth 20000 in
theorem ggX5_say_X5_fillSpans : GoodIn wsX5_say wsX5_fillSpans := goodIn_r _ [34, 35, 36, 8, 37, 38, 39, 40, 41, 42, 43, 44, 14, 45, 46, 47, 48, 49, 50, 51, 52, 53, 16, 54, 55, 56, 57, 58, 59, 60, 61, 62, 63, 64, 65, 66, 67, 68, 69, 70, 71, 72, 73, 74, 75, 76, 77, 78, 79, 80, 81, 82, 83, 84, 85, 86, 87, 88, 89, 90, 91, 92, 93, 94, 95, 96, 97, 98, 99, 100, 101, 102, 103, 104, 105, 106, 107, 108, 109, 110, 140, 141, 142, 120, 121, 122, 123, 124, 125, 126, 127, 128, 129, 130] (by decide +kernel) (by decide +kernel)
set_option maxRecDepth 20000 in
theorem gX5_say_X5_fillSpans : GoodIn wsX5_say (wsV RX5 97 RX5 yX5_fillSpans wsX5_fillSpans) := goodIn_app (goodIn_of _ (by decide +kernel)) ggX5_say_X5_fillSpans
set_option maxRecDepth 20000 in
theorem ggX5_say_X1_begin : GoodIn wsX5_say wsX1_begin := goodIn_r _ [114, 115, 116, 117, 118, 119, 131, 132, 133, 134, 135, 136, 137, 138, 139] (by decide +kernel) (by decide +kernel)
set_option maxRecDepth 20000 in
theorem gX5_say_X1_begin : GoodIn wsX5_say (wsV RX5 104 RX1 yX1_begin wsX1_begin) := goodIn_app (goodIn_of _ (by decide +kernel)) ggX5_say_X1_begin
theorem dX5_say_0 : decode cX5_say 0 = .ok (.aload_n 0, 1) := by decide +kernel
theorem dX5_say_1 : decode cX5_say 1 = .ok (.getfield 74, 3) := by decide +kernel
theorem dX5_say_4 : decode cX5_say 4 = .ok (.bipush 12, 2) := by decide +kernel
theorem dX5_say_6 : decode cX5_say 6 = .ok (.if_icmp .ge 24, 3) := by decide +kernel
theorem dX5_say_9 : decode cX5_say 9 = .ok (.aload_n 0, 1) := by decide +kernel
theorem dX5_say_10 : decode cX5_say 10 = .ok (.iload_n 1, 1) := by decide +kernel
theorem dX5_say_11 : decode cX5_say 11 = .ok (.invokevirtual 77, 3) := by decide +kernel
theorem dX5_say_14 : decode cX5_say 14 = .ok (.ifCond .eq 16, 3) := by decide +kernel
theorem dX5_say_17 : decode cX5_say 17 = .ok (.iload 6, 2) := by decide +kernel
theorem dX5_say_19 : decode cX5_say 19 = .ok (.iconst 1, 1) := by decide +kernel
theorem dX5_say_20 : decode cX5_say 20 = .ok (.if_icmp .lt 10, 3) := by decide +kernel
theorem dX5_say_23 : decode cX5_say 23 = .ok (.iload 6, 2) := by decide +kernel
theorem dX5_say_25 : decode cX5_say 25 = .ok (.bipush 100, 2) := by decide +kernel
theorem dX5_say_27 : decode cX5_say 27 = .ok (.if_icmp .le 5, 3) := by decide +kernel
theorem dX5_say_30 : decode cX5_say 30 = .ok (.iconst (-1), 1) := by decide +kernel
theorem dX5_say_31 : decode cX5_say 31 = .ok (.ireturn, 1) := by decide +kernel
theorem dX5_say_32 : decode cX5_say 32 = .ok (.aload_n 0, 1) := by decide +kernel
theorem dX5_say_33 : decode cX5_say 33 = .ok (.getfield 21, 3) := by decide +kernel
theorem dX5_say_36 : decode cX5_say 36 = .ok (.aload_n 0, 1) := by decide +kernel
theorem dX5_say_37 : decode cX5_say 37 = .ok (.getfield 74, 3) := by decide +kernel
theorem dX5_say_40 : decode cX5_say 40 = .ok (.aaload, 1) := by decide +kernel
theorem dX5_say_41 : decode cX5_say 41 = .ok (.astore 7, 2) := by decide +kernel
theorem dX5_say_43 : decode cX5_say 43 = .ok (.aload 7, 2) := by decide +kernel
theorem dX5_say_45 : decode cX5_say 45 = .ok (.getfield 80, 3) := by decide +kernel
theorem dX5_say_48 : decode cX5_say 48 = .ok (.invokevirtual 84, 3) := by decide +kernel
theorem dX5_say_51 : decode cX5_say 51 = .ok (.iload_n 2, 1) := by decide +kernel
theorem dX5_say_52 : decode cX5_say 52 = .ok (.bipush 6, 2) := by decide +kernel
theorem dX5_say_54 : decode cX5_say 54 = .ok (.if_icmp .ne 31, 3) := by decide +kernel
theorem dX5_say_57 : decode cX5_say 57 = .ok (.aload_n 0, 1) := by decide +kernel
theorem dX5_say_58 : decode cX5_say 58 = .ok (.iload_n 1, 1) := by decide +kernel
theorem dX5_say_59 : decode cX5_say 59 = .ok (.iload_n 3, 1) := by decide +kernel
theorem dX5_say_60 : decode cX5_say 60 = .ok (.iload 4, 2) := by decide +kernel
theorem dX5_say_62 : decode cX5_say 62 = .ok (.iload 5, 2) := by decide +kernel
theorem dX5_say_64 : decode cX5_say 64 = .ok (.invokevirtual 89, 3) := by decide +kernel
theorem dX5_say_67 : decode cX5_say 67 = .ok (.ifCond .ne 5, 3) := by decide +kernel
theorem dX5_say_70 : decode cX5_say 70 = .ok (.iconst (-1), 1) := by decide +kernel
theorem dX5_say_71 : decode cX5_say 71 = .ok (.ireturn, 1) := by decide +kernel
theorem dX5_say_72 : decode cX5_say 72 = .ok (.aload 7, 2) := by decide +kernel
theorem dX5_say_74 : decode cX5_say 74 = .ok (.iload_n 3, 1) := by decide +kernel
theorem dX5_say_75 : decode cX5_say 75 = .ok (.iload 4, 2) := by decide +kernel
theorem dX5_say_77 : decode cX5_say 77 = .ok (.iload 5, 2) := by decide +kernel
theorem dX5_say_79 : decode cX5_say 79 = .ok (.invokevirtual 93, 3) := by decide +kernel
theorem dX5_say_82 : decode cX5_say 82 = .ok (.goto 31, 3) := by decide +kernel
theorem dX5_say_85 : decode cX5_say 85 = .ok (.aload_n 0, 1) := by decide +kernel
theorem dX5_say_86 : decode cX5_say 86 = .ok (.aload 7, 2) := by decide +kernel
theorem dX5_say_88 : decode cX5_say 88 = .ok (.getfield 80, 3) := by decide +kernel
theorem dX5_say_91 : decode cX5_say 91 = .ok (.iload_n 2, 1) := by decide +kernel
theorem dX5_say_92 : decode cX5_say 92 = .ok (.iload_n 3, 1) := by decide +kernel
theorem dX5_say_93 : decode cX5_say 93 = .ok (.iload 4, 2) := by decide +kernel
theorem dX5_say_95 : decode cX5_say 95 = .ok (.iload 5, 2) := by decide +kernel
theorem dX5_say_97 : decode cX5_say 97 = .ok (.invokevirtual 97, 3) := by decide +kernel
theorem dX5_say_100 : decode cX5_say 100 = .ok (.aload 7, 2) := by decide +kernel
theorem dX5_say_102 : decode cX5_say 102 = .ok (.getfield 80, 3) := by decide +kernel
theorem dX5_say_105 : decode cX5_say 105 = .ok (.getfield 101, 3) := by decide +kernel
theorem dX5_say_108 : decode cX5_say 108 = .ok (.ifCond .ne 5, 3) := by decide +kernel
theorem dX5_say_111 : decode cX5_say 111 = .ok (.iconst (-1), 1) := by decide +kernel
theorem dX5_say_112 : decode cX5_say 112 = .ok (.ireturn, 1) := by decide +kernel
theorem dX5_say_113 : decode cX5_say 113 = .ok (.aload 7, 2) := by decide +kernel
theorem dX5_say_115 : decode cX5_say 115 = .ok (.iload_n 1, 1) := by decide +kernel
theorem dX5_say_116 : decode cX5_say 116 = .ok (.iload_n 2, 1) := by decide +kernel
theorem dX5_say_117 : decode cX5_say 117 = .ok (.iload 6, 2) := by decide +kernel
theorem dX5_say_119 : decode cX5_say 119 = .ok (.invokevirtual 104, 3) := by decide +kernel
theorem dX5_say_122 : decode cX5_say 122 = .ok (.aload_n 0, 1) := by decide +kernel
theorem dX5_say_123 : decode cX5_say 123 = .ok (.dup, 1) := by decide +kernel
theorem dX5_say_124 : decode cX5_say 124 = .ok (.getfield 74, 3) := by decide +kernel
theorem dX5_say_127 : decode cX5_say 127 = .ok (.iconst 1, 1) := by decide +kernel
theorem dX5_say_128 : decode cX5_say 128 = .ok (.iadd, 1) := by decide +kernel
theorem dX5_say_129 : decode cX5_say 129 = .ok (.putfield 74, 3) := by decide +kernel
theorem dX5_say_132 : decode cX5_say 132 = .ok (.aload_n 0, 1) := by decide +kernel
theorem dX5_say_133 : decode cX5_say 133 = .ok (.getfield 74, 3) := by decide +kernel
theorem dX5_say_136 : decode cX5_say 136 = .ok (.iconst 1, 1) := by decide +kernel
theorem dX5_say_137 : decode cX5_say 137 = .ok (.isub, 1) := by decide +kernel
theorem dX5_say_138 : decode cX5_say 138 = .ok (.ireturn, 1) := by decide +kernel
set_option maxRecDepth 20000 in
theorem ggX5_copy_X5_isSaying : GoodIn wsX5_copy wsX5_isSaying := goodIn_r _ [7, 8, 9, 10, 11, 12, 13, 14, 15, 16, 17, 18, 19] (by decide +kernel) (by decide +kernel)
set_option maxRecDepth 20000 in
theorem gX5_copy_X5_isSaying : GoodIn wsX5_copy (wsV RX5 107 RX5 yX5_isSaying wsX5_isSaying) := goodIn_app (goodIn_of _ (by decide +kernel)) ggX5_copy_X5_isSaying
theorem dX5_copy_0 : decode cX5_copy 0 = .ok (.aload_n 0, 1) := by decide +kernel
theorem dX5_copy_1 : decode cX5_copy 1 = .ok (.iload_n 1, 1) := by decide +kernel
theorem dX5_copy_2 : decode cX5_copy 2 = .ok (.invokevirtual 107, 3) := by decide +kernel
theorem dX5_copy_5 : decode cX5_copy 5 = .ok (.ifCond .eq 29, 3) := by decide +kernel
theorem dX5_copy_8 : decode cX5_copy 8 = .ok (.aload_n 0, 1) := by decide +kernel
theorem dX5_copy_9 : decode cX5_copy 9 = .ok (.iload_n 2, 1) := by decide +kernel
theorem dX5_copy_10 : decode cX5_copy 10 = .ok (.invokevirtual 107, 3) := by decide +kernel
theorem dX5_copy_13 : decode cX5_copy 13 = .ok (.ifCond .eq 21, 3) := by decide +kernel
theorem dX5_copy_16 : decode cX5_copy 16 = .ok (.iload_n 2, 1) := by decide +kernel
theorem dX5_copy_17 : decode cX5_copy 17 = .ok (.iload_n 1, 1) := by decide +kernel
theorem dX5_copy_18 : decode cX5_copy 18 = .ok (.if_icmp .ge 16, 3) := by decide +kernel
theorem dX5_copy_21 : decode cX5_copy 21 = .ok (.aload_n 0, 1) := by decide +kernel
theorem dX5_copy_22 : decode cX5_copy 22 = .ok (.getfield 21, 3) := by decide +kernel
theorem dX5_copy_25 : decode cX5_copy 25 = .ok (.iload_n 1, 1) := by decide +kernel
theorem dX5_copy_26 : decode cX5_copy 26 = .ok (.aaload, 1) := by decide +kernel
theorem dX5_copy_27 : decode cX5_copy 27 = .ok (.getfield 110, 3) := by decide +kernel
theorem dX5_copy_30 : decode cX5_copy 30 = .ok (.iconst (-1), 1) := by decide +kernel
theorem dX5_copy_31 : decode cX5_copy 31 = .ok (.if_icmp .eq 5, 3) := by decide +kernel
theorem dX5_copy_34 : decode cX5_copy 34 = .ok (.iconst 0, 1) := by decide +kernel
theorem dX5_copy_35 : decode cX5_copy 35 = .ok (.ireturn, 1) := by decide +kernel
theorem dX5_copy_36 : decode cX5_copy 36 = .ok (.aload_n 0, 1) := by decide +kernel
theorem dX5_copy_37 : decode cX5_copy 37 = .ok (.getfield 21, 3) := by decide +kernel
theorem dX5_copy_40 : decode cX5_copy 40 = .ok (.iload_n 1, 1) := by decide +kernel
theorem dX5_copy_41 : decode cX5_copy 41 = .ok (.aaload, 1) := by decide +kernel
theorem dX5_copy_42 : decode cX5_copy 42 = .ok (.iload_n 2, 1) := by decide +kernel
theorem dX5_copy_43 : decode cX5_copy 43 = .ok (.putfield 110, 3) := by decide +kernel
theorem dX5_copy_46 : decode cX5_copy 46 = .ok (.iconst 1, 1) := by decide +kernel
theorem dX5_copy_47 : decode cX5_copy 47 = .ok (.ireturn, 1) := by decide +kernel
set_option maxRecDepth 20000 in
theorem ggX5_take_X5_isSaying : GoodIn wsX5_take wsX5_isSaying := goodIn_r _ [7, 8, 9, 10, 11, 12, 13, 14, 15, 16, 17, 18, 19] (by decide +kernel) (by decide +kernel)
set_option maxRecDepth 20000 in
theorem gX5_take_X5_isSaying : GoodIn wsX5_take (wsV RX5 107 RX5 yX5_isSaying wsX5_isSaying) := goodIn_app (goodIn_of _ (by decide +kernel)) ggX5_take_X5_isSaying
theorem dX5_take_0 : decode cX5_take 0 = .ok (.aload_n 0, 1) := by decide +kernel
theorem dX5_take_1 : decode cX5_take 1 = .ok (.iload_n 1, 1) := by decide +kernel
theorem dX5_take_2 : decode cX5_take 2 = .ok (.invokevirtual 107, 3) := by decide +kernel
theorem dX5_take_5 : decode cX5_take 5 = .ok (.ifCond .eq 16, 3) := by decide +kernel
theorem dX5_take_8 : decode cX5_take 8 = .ok (.aload_n 0, 1) := by decide +kernel
theorem dX5_take_9 : decode cX5_take 9 = .ok (.getfield 21, 3) := by decide +kernel
theorem dX5_take_12 : decode cX5_take 12 = .ok (.iload_n 1, 1) := by decide +kernel
theorem dX5_take_13 : decode cX5_take 13 = .ok (.aaload, 1) := by decide +kernel
theorem dX5_take_14 : decode cX5_take 14 = .ok (.getfield 113, 3) := by decide +kernel
theorem dX5_take_17 : decode cX5_take 17 = .ok (.iload_n 2, 1) := by decide +kernel
theorem dX5_take_18 : decode cX5_take 18 = .ok (.if_icmp .ne 5, 3) := by decide +kernel
theorem dX5_take_21 : decode cX5_take 21 = .ok (.iconst 0, 1) := by decide +kernel
theorem dX5_take_22 : decode cX5_take 22 = .ok (.ireturn, 1) := by decide +kernel
theorem dX5_take_23 : decode cX5_take 23 = .ok (.aload_n 0, 1) := by decide +kernel
theorem dX5_take_24 : decode cX5_take 24 = .ok (.getfield 21, 3) := by decide +kernel
theorem dX5_take_27 : decode cX5_take 27 = .ok (.iload_n 1, 1) := by decide +kernel
theorem dX5_take_28 : decode cX5_take 28 = .ok (.aaload, 1) := by decide +kernel
theorem dX5_take_29 : decode cX5_take 29 = .ok (.iload_n 2, 1) := by decide +kernel
theorem dX5_take_30 : decode cX5_take 30 = .ok (.putfield 113, 3) := by decide +kernel
theorem dX5_take_33 : decode cX5_take 33 = .ok (.iconst 1, 1) := by decide +kernel
theorem dX5_take_34 : decode cX5_take 34 = .ok (.ireturn, 1) := by decide +kernel
set_option maxRecDepth 20000 in
theorem ggX5_look_X5_isSaying : GoodIn wsX5_look wsX5_isSaying := goodIn_r _ [13, 14, 19, 20, 21, 22, 23, 24, 25, 26, 27, 28, 29] (by decide +kernel) (by decide +kernel)
set_option maxRecDepth 20000 in
theorem gX5_look_X5_isSaying : GoodIn wsX5_look (wsV RX5 107 RX5 yX5_isSaying wsX5_isSaying) := goodIn_app (goodIn_of _ (by decide +kernel)) ggX5_look_X5_isSaying
set_option maxRecDepth 20000 in
theorem ggX5_look_X5_rootOf : GoodIn wsX5_look wsX5_rootOf := goodIn_r _ [18, 1, 6, 19, 20, 21, 22, 23, 24, 25, 26, 27, 28, 29, 30, 31, 32, 33, 34, 35, 36, 37, 38] (by decide +kernel) (by decide +kernel)
set_option maxRecDepth 20000 in
theorem gX5_look_X5_rootOf : GoodIn wsX5_look (wsV RX5 126 RX5 yX5_rootOf wsX5_rootOf) := goodIn_app (goodIn_of _ (by decide +kernel)) ggX5_look_X5_rootOf
theorem dX5_look_0 : decode cX5_look 0 = .ok (.aload_n 0, 1) := by decide +kernel
theorem dX5_look_1 : decode cX5_look 1 = .ok (.iload_n 1, 1) := by decide +kernel
theorem dX5_look_2 : decode cX5_look 2 = .ok (.invokevirtual 107, 3) := by decide +kernel
theorem dX5_look_5 : decode cX5_look 5 = .ok (.ifCond .ne 5, 3) := by decide +kernel
theorem dX5_look_8 : decode cX5_look 8 = .ok (.iconst (-1), 1) := by decide +kernel
theorem dX5_look_9 : decode cX5_look 9 = .ok (.ireturn, 1) := by decide +kernel
theorem dX5_look_10 : decode cX5_look 10 = .ok (.aload_n 0, 1) := by decide +kernel
theorem dX5_look_11 : decode cX5_look 11 = .ok (.getfield 21, 3) := by decide +kernel
theorem dX5_look_14 : decode cX5_look 14 = .ok (.iload_n 1, 1) := by decide +kernel
theorem dX5_look_15 : decode cX5_look 15 = .ok (.aaload, 1) := by decide +kernel
theorem dX5_look_16 : decode cX5_look 16 = .ok (.astore_n 3, 1) := by decide +kernel
theorem dX5_look_17 : decode cX5_look 17 = .ok (.iload_n 2, 1) := by decide +kernel
theorem dX5_look_18 : decode cX5_look 18 = .ok (.tableswitch 89 0 6 #[42, 47, 52, 57, 70, 75, 81], 42) := by decide +kernel
theorem dX5_look_60 : decode cX5_look 60 = .ok (.aload_n 3, 1) := by decide +kernel
theorem dX5_look_61 : decode cX5_look 61 = .ok (.getfield 117, 3) := by decide +kernel
theorem dX5_look_64 : decode cX5_look 64 = .ok (.ireturn, 1) := by decide +kernel
theorem dX5_look_65 : decode cX5_look 65 = .ok (.aload_n 3, 1) := by decide +kernel
theorem dX5_look_66 : decode cX5_look 66 = .ok (.getfield 120, 3) := by decide +kernel
theorem dX5_look_69 : decode cX5_look 69 = .ok (.ireturn, 1) := by decide +kernel
theorem dX5_look_70 : decode cX5_look 70 = .ok (.aload_n 3, 1) := by decide +kernel
theorem dX5_look_71 : decode cX5_look 71 = .ok (.getfield 123, 3) := by decide +kernel
theorem dX5_look_74 : decode cX5_look 74 = .ok (.ireturn, 1) := by decide +kernel
theorem dX5_look_75 : decode cX5_look 75 = .ok (.aload_n 3, 1) := by decide +kernel
theorem dX5_look_76 : decode cX5_look 76 = .ok (.getfield 113, 3) := by decide +kernel
theorem dX5_look_79 : decode cX5_look 79 = .ok (.ifCond .eq 7, 3) := by decide +kernel
theorem dX5_look_82 : decode cX5_look 82 = .ok (.iconst 1, 1) := by decide +kernel
theorem dX5_look_83 : decode cX5_look 83 = .ok (.goto 4, 3) := by decide +kernel
theorem dX5_look_86 : decode cX5_look 86 = .ok (.iconst 0, 1) := by decide +kernel
theorem dX5_look_87 : decode cX5_look 87 = .ok (.ireturn, 1) := by decide +kernel
theorem dX5_look_88 : decode cX5_look 88 = .ok (.aload_n 3, 1) := by decide +kernel
theorem dX5_look_89 : decode cX5_look 89 = .ok (.getfield 110, 3) := by decide +kernel
theorem dX5_look_92 : decode cX5_look 92 = .ok (.ireturn, 1) := by decide +kernel
theorem dX5_look_93 : decode cX5_look 93 = .ok (.aload_n 0, 1) := by decide +kernel
theorem dX5_look_94 : decode cX5_look 94 = .ok (.iload_n 1, 1) := by decide +kernel
theorem dX5_look_95 : decode cX5_look 95 = .ok (.invokevirtual 126, 3) := by decide +kernel
theorem dX5_look_98 : decode cX5_look 98 = .ok (.ireturn, 1) := by decide +kernel
theorem dX5_look_99 : decode cX5_look 99 = .ok (.aload_n 3, 1) := by decide +kernel
theorem dX5_look_100 : decode cX5_look 100 = .ok (.getfield 80, 3) := by decide +kernel
theorem dX5_look_103 : decode cX5_look 103 = .ok (.getfield 101, 3) := by decide +kernel
theorem dX5_look_106 : decode cX5_look 106 = .ok (.ireturn, 1) := by decide +kernel
theorem dX5_look_107 : decode cX5_look 107 = .ok (.iconst (-1), 1) := by decide +kernel
theorem dX5_look_108 : decode cX5_look 108 = .ok (.ireturn, 1) := by decide +kernel
set_option maxRecDepth 20000 in
theorem ggX5_span_X5_isSaying : GoodIn wsX5_span wsX5_isSaying := goodIn_r _ [9, 10, 17, 18, 19, 20, 21, 22, 23, 24, 25, 26, 27] (by decide +kernel) (by decide +kernel)
set_option maxRecDepth 20000 in
theorem gX5_span_X5_isSaying : GoodIn wsX5_span (wsV RX5 107 RX5 yX5_isSaying wsX5_isSaying) := goodIn_app (goodIn_of _ (by decide +kernel)) ggX5_span_X5_isSaying
set_option maxRecDepth 20000 in
theorem ggX5_span_X4_has : GoodIn wsX5_span wsX4_has := goodIn_r _ [15, 16, 37, 38, 39] (by decide +kernel) (by decide +kernel)
set_option maxRecDepth 20000 in
theorem gX5_span_X4_has : GoodIn wsX5_span (wsV RX5 130 RX4 yX4_has wsX4_has) := goodIn_app (goodIn_of _ (by decide +kernel)) ggX5_span_X4_has
theorem dX5_span_0 : decode cX5_span 0 = .ok (.aload_n 0, 1) := by decide +kernel
theorem dX5_span_1 : decode cX5_span 1 = .ok (.iload_n 1, 1) := by decide +kernel
theorem dX5_span_2 : decode cX5_span 2 = .ok (.invokevirtual 107, 3) := by decide +kernel
theorem dX5_span_5 : decode cX5_span 5 = .ok (.ifCond .eq 19, 3) := by decide +kernel
theorem dX5_span_8 : decode cX5_span 8 = .ok (.aload_n 0, 1) := by decide +kernel
theorem dX5_span_9 : decode cX5_span 9 = .ok (.getfield 21, 3) := by decide +kernel
theorem dX5_span_12 : decode cX5_span 12 = .ok (.iload_n 1, 1) := by decide +kernel
theorem dX5_span_13 : decode cX5_span 13 = .ok (.aaload, 1) := by decide +kernel
theorem dX5_span_14 : decode cX5_span 14 = .ok (.getfield 80, 3) := by decide +kernel
theorem dX5_span_17 : decode cX5_span 17 = .ok (.iload_n 2, 1) := by decide +kernel
theorem dX5_span_18 : decode cX5_span 18 = .ok (.invokevirtual 130, 3) := by decide +kernel
theorem dX5_span_21 : decode cX5_span 21 = .ok (.ifCond .ne 5, 3) := by decide +kernel
theorem dX5_span_24 : decode cX5_span 24 = .ok (.iconst (-1), 1) := by decide +kernel
theorem dX5_span_25 : decode cX5_span 25 = .ok (.ireturn, 1) := by decide +kernel
theorem dX5_span_26 : decode cX5_span 26 = .ok (.aload_n 0, 1) := by decide +kernel
theorem dX5_span_27 : decode cX5_span 27 = .ok (.getfield 21, 3) := by decide +kernel
theorem dX5_span_30 : decode cX5_span 30 = .ok (.iload_n 1, 1) := by decide +kernel
theorem dX5_span_31 : decode cX5_span 31 = .ok (.aaload, 1) := by decide +kernel
theorem dX5_span_32 : decode cX5_span 32 = .ok (.getfield 80, 3) := by decide +kernel
theorem dX5_span_35 : decode cX5_span 35 = .ok (.astore 4, 2) := by decide +kernel
theorem dX5_span_37 : decode cX5_span 37 = .ok (.iload_n 3, 1) := by decide +kernel
theorem dX5_span_38 : decode cX5_span 38 = .ok (.ifCond .eq 13, 3) := by decide +kernel
theorem dX5_span_41 : decode cX5_span 41 = .ok (.aload 4, 2) := by decide +kernel
theorem dX5_span_43 : decode cX5_span 43 = .ok (.getfield 133, 3) := by decide +kernel
theorem dX5_span_46 : decode cX5_span 46 = .ok (.iload_n 2, 1) := by decide +kernel
theorem dX5_span_47 : decode cX5_span 47 = .ok (.iaload, 1) := by decide +kernel
theorem dX5_span_48 : decode cX5_span 48 = .ok (.goto 10, 3) := by decide +kernel
theorem dX5_span_51 : decode cX5_span 51 = .ok (.aload 4, 2) := by decide +kernel
theorem dX5_span_53 : decode cX5_span 53 = .ok (.getfield 136, 3) := by decide +kernel
theorem dX5_span_56 : decode cX5_span 56 = .ok (.iload_n 2, 1) := by decide +kernel
theorem dX5_span_57 : decode cX5_span 57 = .ok (.iaload, 1) := by decide +kernel
theorem dX5_span_58 : decode cX5_span 58 = .ok (.ireturn, 1) := by decide +kernel
set_option maxRecDepth 20000 in
theorem ggX5_first_X5_askAllWays : GoodIn wsX5_first wsX5_askAllWays := goodIn_r _ [7, 1, 8, 9, 10, 11, 12, 6, 13, 14, 15, 16, 17, 18, 19, 20, 21, 22, 23, 24, 25, 26, 27, 28, 29, 30, 31, 32, 33, 34, 35, 36, 37, 38, 39, 40, 41, 42, 43, 44, 45, 46, 47, 48, 49, 50, 51, 52, 53, 54, 55, 56, 57, 58, 59, 60, 61, 62, 63, 64, 65, 66, 67, 68, 69, 70, 71, 72, 73, 74, 75, 76, 77, 78, 79, 80, 81, 82, 83, 84, 85, 86, 87, 88, 89, 90, 91, 92, 93, 94, 95, 96, 97, 98, 99, 100, 101, 102, 103, 104, 105, 106, 107, 108, 109, 110, 111, 112, 113, 114, 115, 116, 117, 118, 119, 120, 121, 122, 123, 124, 125, 126, 127, 128, 129, 130, 131, 132, 133, 134, 135, 136, 137, 138, 139, 140, 141, 142, 143, 144, 145, 146, 147, 148, 149, 150, 151, 152] (by decide +kernel) (by decide +kernel)
set_option maxRecDepth 20000 in
theorem gX5_first_X5_askAllWays : GoodIn wsX5_first (wsV RX5 139 RX5 yX5_askAllWays wsX5_askAllWays) := goodIn_app (goodIn_of _ (by decide +kernel)) ggX5_first_X5_askAllWays
theorem dX5_first_0 : decode cX5_first 0 = .ok (.aload_n 0, 1) := by decide +kernel
theorem dX5_first_1 : decode cX5_first 1 = .ok (.iload_n 1, 1) := by decide +kernel
theorem dX5_first_2 : decode cX5_first 2 = .ok (.invokevirtual 139, 3) := by decide +kernel
theorem dX5_first_5 : decode cX5_first 5 = .ok (.istore_n 2, 1) := by decide +kernel
theorem dX5_first_6 : decode cX5_first 6 = .ok (.iload_n 2, 1) := by decide +kernel
theorem dX5_first_7 : decode cX5_first 7 = .ok (.iconst 1, 1) := by decide +kernel
theorem dX5_first_8 : decode cX5_first 8 = .ok (.if_icmp .ne 15, 3) := by decide +kernel
theorem dX5_first_11 : decode cX5_first 11 = .ok (.aload_n 0, 1) := by decide +kernel
theorem dX5_first_12 : decode cX5_first 12 = .ok (.getfield 29, 3) := by decide +kernel
theorem dX5_first_15 : decode cX5_first 15 = .ok (.getfield 142, 3) := by decide +kernel
theorem dX5_first_18 : decode cX5_first 18 = .ok (.iload_n 1, 1) := by decide +kernel
theorem dX5_first_19 : decode cX5_first 19 = .ok (.iaload, 1) := by decide +kernel
theorem dX5_first_20 : decode cX5_first 20 = .ok (.goto 4, 3) := by decide +kernel
theorem dX5_first_23 : decode cX5_first 23 = .ok (.iload_n 2, 1) := by decide +kernel
theorem dX5_first_24 : decode cX5_first 24 = .ok (.ireturn, 1) := by decide +kernel
set_option maxRecDepth 20000 in
theorem ggX5_last_X5_askAllWays : GoodIn wsX5_last wsX5_askAllWays := goodIn_r _ [7, 1, 8, 9, 10, 11, 12, 6, 13, 14, 15, 16, 17, 18, 19, 20, 21, 22, 23, 24, 25, 26, 27, 28, 29, 30, 31, 32, 33, 34, 35, 36, 37, 38, 39, 40, 41, 42, 43, 44, 45, 46, 47, 48, 49, 50, 51, 52, 53, 54, 55, 56, 57, 58, 59, 60, 61, 62, 63, 64, 65, 66, 67, 68, 69, 70, 71, 72, 73, 74, 75, 76, 77, 78, 79, 80, 81, 82, 83, 84, 85, 86, 87, 88, 89, 90, 91, 92, 93, 94, 95, 96, 97, 98, 99, 100, 101, 102, 103, 104, 105, 106, 107, 108, 109, 110, 111, 112, 113, 114, 115, 116, 117, 118, 119, 120, 121, 122, 123, 124, 125, 126, 127, 128, 129, 130, 131, 132, 133, 134, 135, 136, 137, 138, 139, 140, 141, 142, 143, 144, 145, 146, 147, 148, 149, 150, 151, 152] (by decide +kernel) (by decide +kernel)
set_option maxRecDepth 20000 in
theorem gX5_last_X5_askAllWays : GoodIn wsX5_last (wsV RX5 139 RX5 yX5_askAllWays wsX5_askAllWays) := goodIn_app (goodIn_of _ (by decide +kernel)) ggX5_last_X5_askAllWays
theorem dX5_last_0 : decode cX5_last 0 = .ok (.aload_n 0, 1) := by decide +kernel
theorem dX5_last_1 : decode cX5_last 1 = .ok (.iload_n 1, 1) := by decide +kernel
theorem dX5_last_2 : decode cX5_last 2 = .ok (.invokevirtual 139, 3) := by decide +kernel
theorem dX5_last_5 : decode cX5_last 5 = .ok (.istore_n 2, 1) := by decide +kernel
theorem dX5_last_6 : decode cX5_last 6 = .ok (.iload_n 2, 1) := by decide +kernel
theorem dX5_last_7 : decode cX5_last 7 = .ok (.iconst 1, 1) := by decide +kernel
theorem dX5_last_8 : decode cX5_last 8 = .ok (.if_icmp .ne 15, 3) := by decide +kernel
theorem dX5_last_11 : decode cX5_last 11 = .ok (.aload_n 0, 1) := by decide +kernel
theorem dX5_last_12 : decode cX5_last 12 = .ok (.getfield 29, 3) := by decide +kernel
theorem dX5_last_15 : decode cX5_last 15 = .ok (.getfield 145, 3) := by decide +kernel
theorem dX5_last_18 : decode cX5_last 18 = .ok (.iload_n 1, 1) := by decide +kernel
theorem dX5_last_19 : decode cX5_last 19 = .ok (.iaload, 1) := by decide +kernel
theorem dX5_last_20 : decode cX5_last 20 = .ok (.goto 4, 3) := by decide +kernel
theorem dX5_last_23 : decode cX5_last 23 = .ok (.iload_n 2, 1) := by decide +kernel
theorem dX5_last_24 : decode cX5_last 24 = .ok (.ireturn, 1) := by decide +kernel
set_option maxRecDepth 20000 in
theorem ggX5_can_X5_isEvent : GoodIn wsX5_can wsX5_isEvent := goodIn_r _ [8, 2, 120, 121, 122, 123, 124, 125, 126, 127, 128, 129, 130] (by decide +kernel) (by decide +kernel)
set_option maxRecDepth 20000 in
theorem gX5_can_X5_isEvent : GoodIn wsX5_can (wsV RX5 77 RX5 yX5_isEvent wsX5_isEvent) := goodIn_app (goodIn_of _ (by decide +kernel)) ggX5_can_X5_isEvent
set_option maxRecDepth 20000 in
theorem ggX5_can_X5_isDay : GoodIn wsX5_can wsX5_isDay := goodIn_r _ [11, 12] (by decide +kernel) (by decide +kernel)
set_option maxRecDepth 20000 in
theorem gX5_can_X5_isDay : GoodIn wsX5_can (va_wsS RX5 148 yX5_isDay wsX5_isDay) := goodIn_app (goodIn_of _ (by decide +kernel)) ggX5_can_X5_isDay
set_option maxRecDepth 20000 in
theorem ggX5_can_X2_begin : GoodIn wsX5_can wsX2_begin := goodIn_r _ [17, 18, 19, 20, 21, 22, 23, 24, 131, 132, 133, 134, 135, 136, 137, 138, 139, 140, 141, 142, 143, 144] (by decide +kernel) (by decide +kernel)
set_option maxRecDepth 20000 in
theorem gX5_can_X2_begin : GoodIn wsX5_can (wsV RX5 151 RX2 yX2_begin wsX2_begin) := goodIn_app (goodIn_of _ (by decide +kernel)) ggX5_can_X2_begin
set_option maxRecDepth 20000 in
theorem ggX5_can_X5_takenSet : GoodIn wsX5_can wsX5_takenSet := goodIn_r _ [28, 29, 3, 30, 120, 121, 122, 123, 124, 125, 126, 127, 128, 129, 130, 145, 146, 147, 148, 149, 150, 151, 152, 153] (by decide +kernel) (by decide +kernel)
set_option maxRecDepth 20000 in
theorem gX5_can_X5_takenSet : GoodIn wsX5_can (wsV RX5 154 RX5 yX5_takenSet wsX5_takenSet) := goodIn_app (goodIn_of _ (by decide +kernel)) ggX5_can_X5_takenSet
set_option maxRecDepth 20000 in
theorem ggX5_can_X2_lay : GoodIn wsX5_can wsX2_lay := goodIn_r _ [34, 35, 36, 37, 38, 39, 40, 41, 16, 42, 22, 43, 44, 45, 46, 47, 48, 49, 50, 51, 52, 53, 54, 55, 56, 57, 20, 58, 59, 60, 19, 21, 61, 62, 63, 64, 65, 66, 67, 68, 18, 69, 70, 71, 72, 73, 74, 75, 76, 77, 78, 79, 80, 81, 82, 83, 84, 85, 86, 87, 88, 89, 90, 91, 145, 146, 147, 148, 149, 150, 151, 152, 153, 131, 132, 133, 134, 135, 136, 137, 138, 139, 140, 141, 142, 143, 144, 154, 155, 156] (by decide +kernel) (by decide +kernel)
set_option maxRecDepth 20000 in
theorem gX5_can_X2_lay : GoodIn wsX5_can (wsV RX5 158 RX2 yX2_lay wsX2_lay) := goodIn_app (goodIn_of _ (by decide +kernel)) ggX5_can_X2_lay
set_option maxRecDepth 20000 in
theorem ggX5_can_X2_find : GoodIn wsX5_can wsX2_find := goodIn_r _ [95, 22, 96, 46, 47, 48, 49, 50, 51, 52, 53, 54, 55, 56, 57, 20, 58, 59, 60, 19, 21, 61, 62, 70, 71, 72, 16, 73, 43, 74, 75, 76, 77, 78, 79, 80, 131, 132, 133, 134, 135, 136, 137, 138, 139, 140, 141, 142, 143, 144, 154, 155, 156] (by decide +kernel) (by decide +kernel)
set_option maxRecDepth 20000 in
theorem gX5_can_X2_find : GoodIn wsX5_can (wsV RX5 162 RX2 yX2_find wsX2_find) := goodIn_app (goodIn_of _ (by decide +kernel)) ggX5_can_X2_find
set_option maxRecDepth 20000 in
theorem ggX5_can_X2_run : GoodIn wsX5_can wsX2_run := goodIn_r _ [100, 101, 102, 24, 103, 104, 105, 16, 106, 22, 43, 107, 23, 38, 108, 109, 110, 111, 112, 113, 89, 90, 114, 18, 19, 20, 21, 115, 91, 57, 58, 116, 117, 118, 119, 45, 131, 132, 133, 134, 135, 136, 137, 138, 139, 140, 141, 142, 143, 144, 154, 155, 156] (by decide +kernel) (by decide +kernel)
set_option maxRecDepth 20000 in
theorem gX5_can_X2_run : GoodIn wsX5_can (wsV RX5 166 RX2 yX2_run wsX2_run) := goodIn_app (goodIn_of _ (by decide +kernel)) ggX5_can_X2_run
theorem dX5_can_0 : decode cX5_can 0 = .ok (.aload_n 0, 1) := by decide +kernel
theorem dX5_can_1 : decode cX5_can 1 = .ok (.iload_n 1, 1) := by decide +kernel
theorem dX5_can_2 : decode cX5_can 2 = .ok (.invokevirtual 77, 3) := by decide +kernel
theorem dX5_can_5 : decode cX5_can 5 = .ok (.ifCond .eq 10, 3) := by decide +kernel
theorem dX5_can_8 : decode cX5_can 8 = .ok (.iload_n 2, 1) := by decide +kernel
theorem dX5_can_9 : decode cX5_can 9 = .ok (.invokestatic 148, 3) := by decide +kernel
theorem dX5_can_12 : decode cX5_can 12 = .ok (.ifCond .ne 5, 3) := by decide +kernel
theorem dX5_can_15 : decode cX5_can 15 = .ok (.iconst (-1), 1) := by decide +kernel
theorem dX5_can_16 : decode cX5_can 16 = .ok (.ireturn, 1) := by decide +kernel
theorem dX5_can_17 : decode cX5_can 17 = .ok (.aload_n 0, 1) := by decide +kernel
theorem dX5_can_18 : decode cX5_can 18 = .ok (.getfield 29, 3) := by decide +kernel
theorem dX5_can_21 : decode cX5_can 21 = .ok (.aload_n 0, 1) := by decide +kernel
theorem dX5_can_22 : decode cX5_can 22 = .ok (.getfield 71, 3) := by decide +kernel
theorem dX5_can_25 : decode cX5_can 25 = .ok (.invokevirtual 151, 3) := by decide +kernel
theorem dX5_can_28 : decode cX5_can 28 = .ok (.aload_n 0, 1) := by decide +kernel
theorem dX5_can_29 : decode cX5_can 29 = .ok (.getfield 29, 3) := by decide +kernel
theorem dX5_can_32 : decode cX5_can 32 = .ok (.aload_n 0, 1) := by decide +kernel
theorem dX5_can_33 : decode cX5_can 33 = .ok (.getfield 21, 3) := by decide +kernel
theorem dX5_can_36 : decode cX5_can 36 = .ok (.aload_n 0, 1) := by decide +kernel
theorem dX5_can_37 : decode cX5_can 37 = .ok (.invokevirtual 154, 3) := by decide +kernel
theorem dX5_can_40 : decode cX5_can 40 = .ok (.invokevirtual 158, 3) := by decide +kernel
theorem dX5_can_43 : decode cX5_can 43 = .ok (.aload_n 0, 1) := by decide +kernel
theorem dX5_can_44 : decode cX5_can 44 = .ok (.getfield 29, 3) := by decide +kernel
theorem dX5_can_47 : decode cX5_can 47 = .ok (.iload_n 1, 1) := by decide +kernel
theorem dX5_can_48 : decode cX5_can 48 = .ok (.iload_n 2, 1) := by decide +kernel
theorem dX5_can_49 : decode cX5_can 49 = .ok (.invokevirtual 162, 3) := by decide +kernel
theorem dX5_can_52 : decode cX5_can 52 = .ok (.aload_n 0, 1) := by decide +kernel
theorem dX5_can_53 : decode cX5_can 53 = .ok (.getfield 29, 3) := by decide +kernel
theorem dX5_can_56 : decode cX5_can 56 = .ok (.iconst 1, 1) := by decide +kernel
theorem dX5_can_57 : decode cX5_can 57 = .ok (.invokevirtual 166, 3) := by decide +kernel
theorem dX5_can_60 : decode cX5_can 60 = .ok (.ireturn, 1) := by decide +kernel
set_option maxRecDepth 20000 in
theorem ggX5_agrees_X2_begin : GoodIn wsX5_agrees wsX2_begin := goodIn_r _ [7, 8, 9, 10, 11, 12, 13, 14, 122, 123, 124, 125, 126, 127, 128, 129, 130, 131, 132, 133, 134, 135] (by decide +kernel) (by decide +kernel)
set_option maxRecDepth 20000 in
theorem gX5_agrees_X2_begin : GoodIn wsX5_agrees (wsV RX5 151 RX2 yX2_begin wsX2_begin) := goodIn_app (goodIn_of _ (by decide +kernel)) ggX5_agrees_X2_begin
set_option maxRecDepth 20000 in
theorem ggX5_agrees_X5_takenSet : GoodIn wsX5_agrees wsX5_takenSet := goodIn_r _ [19, 20, 21, 22, 111, 112, 113, 114, 115, 116, 117, 118, 119, 120, 121, 136, 137, 138, 139, 140, 141, 142, 143, 144] (by decide +kernel) (by decide +kernel)
set_option maxRecDepth 20000 in
theorem gX5_agrees_X5_takenSet : GoodIn wsX5_agrees (wsV RX5 154 RX5 yX5_takenSet wsX5_takenSet) := goodIn_app (goodIn_of _ (by decide +kernel)) ggX5_agrees_X5_takenSet
set_option maxRecDepth 20000 in
theorem ggX5_agrees_X5_askSet : GoodIn wsX5_agrees wsX5_askSet := goodIn_r _ [26, 1, 21, 27, 28, 29, 6, 30, 31, 32, 33, 34, 35, 36, 37, 38, 12, 39, 40, 41, 42, 43, 44, 45, 46, 47, 48, 49, 50, 51, 52, 53, 10, 54, 55, 56, 9, 11, 57, 58, 59, 60, 61, 62, 63, 64, 8, 65, 66, 67, 68, 69, 70, 71, 72, 73, 74, 75, 76, 77, 78, 79, 80, 81, 82, 83, 84, 85, 86, 87, 88, 89, 90, 91, 92, 93, 14, 94, 95, 96, 97, 98, 13, 99, 100, 101, 102, 103, 104, 105, 106, 107, 108, 109, 110, 111, 112, 113, 114, 115, 116, 117, 118, 119, 120, 121, 136, 137, 138, 139, 140, 141, 142, 143, 144, 122, 123, 124, 125, 126, 127, 128, 129, 130, 131, 132, 133, 134, 135, 145, 146, 147] (by decide +kernel) (by decide +kernel)
set_option maxRecDepth 20000 in
theorem gX5_agrees_X5_askSet : GoodIn wsX5_agrees (wsV RX5 170 RX5 yX5_askSet wsX5_askSet) := goodIn_app (goodIn_of _ (by decide +kernel)) ggX5_agrees_X5_askSet
theorem dX5_agrees_0 : decode cX5_agrees 0 = .ok (.aload_n 0, 1) := by decide +kernel
theorem dX5_agrees_1 : decode cX5_agrees 1 = .ok (.getfield 29, 3) := by decide +kernel
theorem dX5_agrees_4 : decode cX5_agrees 4 = .ok (.aload_n 0, 1) := by decide +kernel
theorem dX5_agrees_5 : decode cX5_agrees 5 = .ok (.getfield 71, 3) := by decide +kernel
theorem dX5_agrees_8 : decode cX5_agrees 8 = .ok (.invokevirtual 151, 3) := by decide +kernel
theorem dX5_agrees_11 : decode cX5_agrees 11 = .ok (.aload_n 0, 1) := by decide +kernel
theorem dX5_agrees_12 : decode cX5_agrees 12 = .ok (.aload_n 0, 1) := by decide +kernel
theorem dX5_agrees_13 : decode cX5_agrees 13 = .ok (.invokevirtual 154, 3) := by decide +kernel
theorem dX5_agrees_16 : decode cX5_agrees 16 = .ok (.invokevirtual 170, 3) := by decide +kernel
theorem dX5_agrees_19 : decode cX5_agrees 19 = .ok (.ireturn, 1) := by decide +kernel
set_option maxRecDepth 20000 in
theorem ggX5_quarrel_X5_takenSet : GoodIn wsX5_quarrel wsX5_takenSet := goodIn_r _ [8, 3, 9, 10, 115, 116, 117, 118, 119, 120, 121, 122, 123, 124, 125, 126, 127, 128, 129, 130, 131, 132, 133, 134] (by decide +kernel) (by decide +kernel)
set_option maxRecDepth 20000 in
theorem gX5_quarrel_X5_takenSet : GoodIn wsX5_quarrel (wsV RX5 154 RX5 yX5_takenSet wsX5_takenSet) := goodIn_app (goodIn_of _ (by decide +kernel)) ggX5_quarrel_X5_takenSet
set_option maxRecDepth 20000 in
theorem ggX5_quarrel_X2_begin : GoodIn wsX5_quarrel wsX2_begin := goodIn_r _ [15, 16, 17, 18, 19, 20, 21, 22, 135, 136, 137, 138, 139, 140, 141, 142, 143, 144, 145, 146, 147, 148] (by decide +kernel) (by decide +kernel)
set_option maxRecDepth 20000 in
theorem gX5_quarrel_X2_begin : GoodIn wsX5_quarrel (wsV RX5 151 RX2 yX2_begin wsX2_begin) := goodIn_app (goodIn_of _ (by decide +kernel)) ggX5_quarrel_X2_begin
set_option maxRecDepth 20000 in
theorem ggX5_quarrel_X5_askSet : GoodIn wsX5_quarrel wsX5_askSet := goodIn_r _ [26, 1, 9, 27, 28, 29, 14, 30, 31, 32, 33, 34, 35, 36, 37, 38, 20, 39, 40, 41, 42, 43, 44, 45, 46, 47, 48, 49, 50, 51, 52, 53, 18, 54, 55, 56, 17, 19, 57, 58, 59, 60, 61, 62, 63, 64, 16, 65, 66, 67, 68, 69, 70, 71, 72, 73, 74, 75, 76, 77, 78, 79, 80, 81, 82, 83, 84, 85, 86, 87, 88, 89, 90, 91, 92, 93, 22, 94, 95, 96, 97, 98, 21, 99, 100, 101, 102, 103, 104, 105, 106, 107, 108, 109, 110, 115, 116, 117, 118, 119, 120, 121, 122, 123, 124, 125, 126, 127, 128, 129, 130, 131, 132, 133, 134, 135, 136, 137, 138, 139, 140, 141, 142, 143, 144, 145, 146, 147, 148, 149, 150, 151] (by decide +kernel) (by decide +kernel)
set_option maxRecDepth 20000 in
theorem gX5_quarrel_X5_askSet : GoodIn wsX5_quarrel (wsV RX5 170 RX5 yX5_askSet wsX5_askSet) := goodIn_app (goodIn_of _ (by decide +kernel)) ggX5_quarrel_X5_askSet
set_option maxRecDepth 20000 in
theorem ggX5_quarrel_X5_quarrelWith : GoodIn wsX5_quarrel wsX5_quarrelWith := goodIn_r _ [114, 3, 23, 24, 25, 7, 26, 1, 9, 27, 28, 29, 14, 30, 31, 32, 33, 34, 35, 36, 37, 38, 20, 39, 40, 41, 42, 43, 44, 45, 46, 47, 48, 49, 50, 51, 52, 53, 18, 54, 55, 56, 17, 19, 57, 58, 59, 60, 61, 62, 63, 64, 16, 65, 66, 67, 68, 69, 70, 71, 72, 73, 74, 75, 76, 77, 78, 79, 80, 81, 82, 83, 84, 85, 86, 87, 88, 89, 90, 91, 92, 93, 22, 94, 95, 96, 97, 98, 21, 99, 100, 101, 102, 103, 104, 105, 106, 107, 108, 109, 110, 111, 112, 113, 115, 116, 117, 118, 119, 120, 121, 122, 123, 124, 125, 126, 127, 128, 129, 130, 131, 132, 133, 134, 135, 136, 137, 138, 139, 140, 141, 142, 143, 144, 145, 146, 147, 148, 149, 150, 151] (by decide +kernel) (by decide +kernel)
set_option maxRecDepth 20000 in
theorem gX5_quarrel_X5_quarrelWith : GoodIn wsX5_quarrel (wsV RX5 173 RX5 yX5_quarrelWith wsX5_quarrelWith) := goodIn_app (goodIn_of _ (by decide +kernel)) ggX5_quarrel_X5_quarrelWith
theorem dX5_quarrel_0 : decode cX5_quarrel 0 = .ok (.aload_n 0, 1) := by decide +kernel
theorem dX5_quarrel_1 : decode cX5_quarrel 1 = .ok (.invokevirtual 154, 3) := by decide +kernel
theorem dX5_quarrel_4 : decode cX5_quarrel 4 = .ok (.istore_n 1, 1) := by decide +kernel
theorem dX5_quarrel_5 : decode cX5_quarrel 5 = .ok (.aload_n 0, 1) := by decide +kernel
theorem dX5_quarrel_6 : decode cX5_quarrel 6 = .ok (.getfield 29, 3) := by decide +kernel
theorem dX5_quarrel_9 : decode cX5_quarrel 9 = .ok (.aload_n 0, 1) := by decide +kernel
theorem dX5_quarrel_10 : decode cX5_quarrel 10 = .ok (.getfield 71, 3) := by decide +kernel
theorem dX5_quarrel_13 : decode cX5_quarrel 13 = .ok (.invokevirtual 151, 3) := by decide +kernel
theorem dX5_quarrel_16 : decode cX5_quarrel 16 = .ok (.aload_n 0, 1) := by decide +kernel
theorem dX5_quarrel_17 : decode cX5_quarrel 17 = .ok (.iload_n 1, 1) := by decide +kernel
theorem dX5_quarrel_18 : decode cX5_quarrel 18 = .ok (.invokevirtual 170, 3) := by decide +kernel
theorem dX5_quarrel_21 : decode cX5_quarrel 21 = .ok (.istore_n 2, 1) := by decide +kernel
theorem dX5_quarrel_22 : decode cX5_quarrel 22 = .ok (.iload_n 2, 1) := by decide +kernel
theorem dX5_quarrel_23 : decode cX5_quarrel 23 = .ok (.ifCond .eq 15, 3) := by decide +kernel
theorem dX5_quarrel_26 : decode cX5_quarrel 26 = .ok (.iload_n 2, 1) := by decide +kernel
theorem dX5_quarrel_27 : decode cX5_quarrel 27 = .ok (.iconst 1, 1) := by decide +kernel
theorem dX5_quarrel_28 : decode cX5_quarrel 28 = .ok (.if_icmp .ne 7, 3) := by decide +kernel
theorem dX5_quarrel_31 : decode cX5_quarrel 31 = .ok (.iconst 0, 1) := by decide +kernel
theorem dX5_quarrel_32 : decode cX5_quarrel 32 = .ok (.goto 5, 3) := by decide +kernel
theorem dX5_quarrel_35 : decode cX5_quarrel 35 = .ok (.bipush (-2), 2) := by decide +kernel
theorem dX5_quarrel_37 : decode cX5_quarrel 37 = .ok (.ireturn, 1) := by decide +kernel
theorem dX5_quarrel_38 : decode cX5_quarrel 38 = .ok (.iconst 1, 1) := by decide +kernel
theorem dX5_quarrel_39 : decode cX5_quarrel 39 = .ok (.istore_n 3, 1) := by decide +kernel
theorem dX5_quarrel_40 : decode cX5_quarrel 40 = .ok (.iload_n 3, 1) := by decide +kernel
theorem dX5_quarrel_41 : decode cX5_quarrel 41 = .ok (.aload_n 0, 1) := by decide +kernel
theorem dX5_quarrel_42 : decode cX5_quarrel 42 = .ok (.getfield 74, 3) := by decide +kernel
theorem dX5_quarrel_45 : decode cX5_quarrel 45 = .ok (.if_icmp .gt 27, 3) := by decide +kernel
theorem dX5_quarrel_48 : decode cX5_quarrel 48 = .ok (.aload_n 0, 1) := by decide +kernel
theorem dX5_quarrel_49 : decode cX5_quarrel 49 = .ok (.iconst 0, 1) := by decide +kernel
theorem dX5_quarrel_50 : decode cX5_quarrel 50 = .ok (.iload_n 3, 1) := by decide +kernel
theorem dX5_quarrel_51 : decode cX5_quarrel 51 = .ok (.iconst 0, 1) := by decide +kernel
theorem dX5_quarrel_52 : decode cX5_quarrel 52 = .ok (.iload_n 1, 1) := by decide +kernel
theorem dX5_quarrel_53 : decode cX5_quarrel 53 = .ok (.invokevirtual 173, 3) := by decide +kernel
theorem dX5_quarrel_56 : decode cX5_quarrel 56 = .ok (.istore 4, 2) := by decide +kernel
theorem dX5_quarrel_58 : decode cX5_quarrel 58 = .ok (.iload 4, 2) := by decide +kernel
theorem dX5_quarrel_60 : decode cX5_quarrel 60 = .ok (.ifCond .eq 6, 3) := by decide +kernel
theorem dX5_quarrel_63 : decode cX5_quarrel 63 = .ok (.iload 4, 2) := by decide +kernel
theorem dX5_quarrel_65 : decode cX5_quarrel 65 = .ok (.ireturn, 1) := by decide +kernel
theorem dX5_quarrel_66 : decode cX5_quarrel 66 = .ok (.iinc 3 1, 3) := by decide +kernel
theorem dX5_quarrel_69 : decode cX5_quarrel 69 = .ok (.goto (-29), 3) := by decide +kernel
theorem dX5_quarrel_72 : decode cX5_quarrel 72 = .ok (.iconst 0, 1) := by decide +kernel
theorem dX5_quarrel_73 : decode cX5_quarrel 73 = .ok (.ireturn, 1) := by decide +kernel
set_option maxRecDepth 20000 in
theorem ggX5_slips_X5_takenSet : GoodIn wsX5_slips wsX5_takenSet := goodIn_r _ [10, 11, 12, 13, 170, 171, 172, 173, 174, 175, 176, 177, 178, 179, 180, 190, 191, 192, 193, 194, 195, 196, 197, 198] (by decide +kernel) (by decide +kernel)
set_option maxRecDepth 20000 in
theorem gX5_slips_X5_takenSet : GoodIn wsX5_slips (wsV RX5 154 RX5 yX5_takenSet wsX5_takenSet) := goodIn_app (goodIn_of _ (by decide +kernel)) ggX5_slips_X5_takenSet
set_option maxRecDepth 20000 in
theorem ggX5_slips_X2_begin : GoodIn wsX5_slips wsX2_begin := goodIn_r _ [18, 19, 20, 21, 22, 23, 24, 25, 199, 200, 201, 202, 203, 204, 205, 206, 207, 208, 209, 210, 211, 212] (by decide +kernel) (by decide +kernel)
set_option maxRecDepth 20000 in
theorem gX5_slips_X2_begin : GoodIn wsX5_slips (wsV RX5 151 RX2 yX2_begin wsX2_begin) := goodIn_app (goodIn_of _ (by decide +kernel)) ggX5_slips_X2_begin
set_option maxRecDepth 20000 in
theorem ggX5_slips_X5_gatherGroups : GoodIn wsX5_slips wsX5_gatherGroups := goodIn_r _ [29, 3, 11, 12, 30, 31, 32, 33, 34, 35, 36, 37, 38, 39, 40, 41, 9, 42, 43, 44, 45, 46, 47, 48, 49, 50, 170, 171, 172, 173, 174, 175, 176, 177, 178, 179, 180, 190, 191, 192, 193, 194, 195, 196, 197, 198, 181, 182, 183, 184, 185, 186, 187, 188, 189] (by decide +kernel) (by decide +kernel)
set_option maxRecDepth 20000 in
theorem gX5_slips_X5_gatherGroups : GoodIn wsX5_slips (wsV RX5 176 RX5 yX5_gatherGroups wsX5_gatherGroups) := goodIn_app (goodIn_of _ (by decide +kernel)) ggX5_slips_X5_gatherGroups
set_option maxRecDepth 20000 in
theorem ggX5_slips_X3_weightOf : GoodIn wsX5_slips wsX3_weightOf := goodIn_r _ [54, 36, 50, 181, 182, 183, 184, 185, 186, 187, 188, 189] (by decide +kernel) (by decide +kernel)
set_option maxRecDepth 20000 in
theorem gX5_slips_X3_weightOf : GoodIn wsX5_slips (wsV RX5 182 RX3 yX3_weightOf wsX3_weightOf) := goodIn_app (goodIn_of _ (by decide +kernel)) ggX5_slips_X3_weightOf
set_option maxRecDepth 20000 in
theorem ggX5_slips_X3_tooHeavy : GoodIn wsX5_slips wsX3_tooHeavy := goodIn_r _ [58, 37, 38, 181, 182, 183, 184, 185, 186, 187, 188, 189] (by decide +kernel) (by decide +kernel)
set_option maxRecDepth 20000 in
theorem gX5_slips_X3_tooHeavy : GoodIn wsX5_slips (wsV RX5 185 RX3 yX3_tooHeavy wsX3_tooHeavy) := goodIn_app (goodIn_of _ (by decide +kernel)) ggX5_slips_X3_tooHeavy
set_option maxRecDepth 20000 in
theorem ggX5_slips_X3_sayingsOf : GoodIn wsX5_slips wsX3_sayingsOf := goodIn_r _ [62, 36, 49, 181, 182, 183, 184, 185, 186, 187, 188, 189] (by decide +kernel) (by decide +kernel)
set_option maxRecDepth 20000 in
theorem gX5_slips_X3_sayingsOf : GoodIn wsX5_slips (wsV RX5 188 RX3 yX3_sayingsOf wsX3_sayingsOf) := goodIn_app (goodIn_of _ (by decide +kernel)) ggX5_slips_X3_sayingsOf
set_option maxRecDepth 20000 in
theorem ggX5_slips_X5_askSet : GoodIn wsX5_slips wsX5_askSet := goodIn_r _ [66, 1, 12, 67, 68, 69, 17, 70, 71, 72, 73, 74, 75, 76, 77, 78, 23, 79, 80, 81, 82, 83, 84, 85, 86, 87, 88, 89, 90, 91, 92, 93, 21, 94, 95, 96, 20, 22, 97, 98, 99, 100, 101, 102, 103, 104, 19, 105, 106, 107, 108, 109, 110, 111, 112, 113, 114, 115, 116, 117, 118, 119, 120, 121, 122, 123, 124, 125, 126, 127, 128, 129, 130, 131, 132, 133, 25, 134, 135, 136, 137, 138, 24, 139, 140, 141, 142, 143, 144, 145, 146, 147, 148, 149, 150, 170, 171, 172, 173, 174, 175, 176, 177, 178, 179, 180, 190, 191, 192, 193, 194, 195, 196, 197, 198, 199, 200, 201, 202, 203, 204, 205, 206, 207, 208, 209, 210, 211, 212, 213, 214, 215] (by decide +kernel) (by decide +kernel)
set_option maxRecDepth 20000 in
theorem gX5_slips_X5_askSet : GoodIn wsX5_slips (wsV RX5 170 RX5 yX5_askSet wsX5_askSet) := goodIn_app (goodIn_of _ (by decide +kernel)) ggX5_slips_X5_askSet
set_option maxRecDepth 20000 in
theorem ggX5_slips_X3_rootsOf : GoodIn wsX5_slips wsX3_rootsOf := goodIn_r _ [154, 36, 48, 181, 182, 183, 184, 185, 186, 187, 188, 189] (by decide +kernel) (by decide +kernel)
set_option maxRecDepth 20000 in
theorem gX5_slips_X3_rootsOf : GoodIn wsX5_slips (wsV RX5 191 RX3 yX3_rootsOf wsX3_rootsOf) := goodIn_app (goodIn_of _ (by decide +kernel)) ggX5_slips_X3_rootsOf
set_option maxRecDepth 20000 in
theorem ggX5_slips_X3_note : GoodIn wsX5_slips wsX3_note := goodIn_r _ [158, 37, 38, 159, 181, 182, 183, 184, 185, 186, 187, 188, 189] (by decide +kernel) (by decide +kernel)
set_option maxRecDepth 20000 in
theorem gX5_slips_X3_note : GoodIn wsX5_slips (wsV RX5 194 RX3 yX3_note wsX3_note) := goodIn_app (goodIn_of _ (by decide +kernel)) ggX5_slips_X3_note
set_option maxRecDepth 20000 in
theorem ggX5_slips_X3_tell : GoodIn wsX5_slips wsX3_tell := goodIn_r _ [163, 159, 164, 37, 165, 166, 167, 168, 169, 181, 182, 183, 184, 185, 186, 187, 188, 189] (by decide +kernel) (by decide +kernel)
set_option maxRecDepth 20000 in
theorem gX5_slips_X3_tell : GoodIn wsX5_slips (wsV RX5 197 RX3 yX3_tell wsX3_tell) := goodIn_app (goodIn_of _ (by decide +kernel)) ggX5_slips_X3_tell
theorem dX5_slips_0 : decode cX5_slips 0 = .ok (.aload_n 0, 1) := by decide +kernel
theorem dX5_slips_1 : decode cX5_slips 1 = .ok (.invokevirtual 154, 3) := by decide +kernel
theorem dX5_slips_4 : decode cX5_slips 4 = .ok (.istore_n 1, 1) := by decide +kernel
theorem dX5_slips_5 : decode cX5_slips 5 = .ok (.aload_n 0, 1) := by decide +kernel
theorem dX5_slips_6 : decode cX5_slips 6 = .ok (.getfield 29, 3) := by decide +kernel
theorem dX5_slips_9 : decode cX5_slips 9 = .ok (.aload_n 0, 1) := by decide +kernel
theorem dX5_slips_10 : decode cX5_slips 10 = .ok (.getfield 71, 3) := by decide +kernel
theorem dX5_slips_13 : decode cX5_slips 13 = .ok (.invokevirtual 151, 3) := by decide +kernel
theorem dX5_slips_16 : decode cX5_slips 16 = .ok (.aload_n 0, 1) := by decide +kernel
theorem dX5_slips_17 : decode cX5_slips 17 = .ok (.iload_n 1, 1) := by decide +kernel
theorem dX5_slips_18 : decode cX5_slips 18 = .ok (.invokevirtual 176, 3) := by decide +kernel
theorem dX5_slips_21 : decode cX5_slips 21 = .ok (.iconst 1, 1) := by decide +kernel
theorem dX5_slips_22 : decode cX5_slips 22 = .ok (.aload_n 0, 1) := by decide +kernel
theorem dX5_slips_23 : decode cX5_slips 23 = .ok (.getfield 36, 3) := by decide +kernel
theorem dX5_slips_26 : decode cX5_slips 26 = .ok (.getfield 179, 3) := by decide +kernel
theorem dX5_slips_29 : decode cX5_slips 29 = .ok (.ishl, 1) := by decide +kernel
theorem dX5_slips_30 : decode cX5_slips 30 = .ok (.istore_n 2, 1) := by decide +kernel
theorem dX5_slips_31 : decode cX5_slips 31 = .ok (.iconst 0, 1) := by decide +kernel
theorem dX5_slips_32 : decode cX5_slips 32 = .ok (.istore_n 3, 1) := by decide +kernel
theorem dX5_slips_33 : decode cX5_slips 33 = .ok (.iload_n 3, 1) := by decide +kernel
theorem dX5_slips_34 : decode cX5_slips 34 = .ok (.iload_n 2, 1) := by decide +kernel
theorem dX5_slips_35 : decode cX5_slips 35 = .ok (.if_icmp .ge 82, 3) := by decide +kernel
theorem dX5_slips_38 : decode cX5_slips 38 = .ok (.aload_n 0, 1) := by decide +kernel
theorem dX5_slips_39 : decode cX5_slips 39 = .ok (.getfield 36, 3) := by decide +kernel
theorem dX5_slips_42 : decode cX5_slips 42 = .ok (.iload_n 3, 1) := by decide +kernel
theorem dX5_slips_43 : decode cX5_slips 43 = .ok (.invokevirtual 182, 3) := by decide +kernel
theorem dX5_slips_46 : decode cX5_slips 46 = .ok (.istore 4, 2) := by decide +kernel
theorem dX5_slips_48 : decode cX5_slips 48 = .ok (.aload_n 0, 1) := by decide +kernel
theorem dX5_slips_49 : decode cX5_slips 49 = .ok (.getfield 36, 3) := by decide +kernel
theorem dX5_slips_52 : decode cX5_slips 52 = .ok (.iload 4, 2) := by decide +kernel
theorem dX5_slips_54 : decode cX5_slips 54 = .ok (.invokevirtual 185, 3) := by decide +kernel
theorem dX5_slips_57 : decode cX5_slips 57 = .ok (.ifCond .ne 54, 3) := by decide +kernel
theorem dX5_slips_60 : decode cX5_slips 60 = .ok (.aload_n 0, 1) := by decide +kernel
theorem dX5_slips_61 : decode cX5_slips 61 = .ok (.iload_n 1, 1) := by decide +kernel
theorem dX5_slips_62 : decode cX5_slips 62 = .ok (.aload_n 0, 1) := by decide +kernel
theorem dX5_slips_63 : decode cX5_slips 63 = .ok (.getfield 36, 3) := by decide +kernel
theorem dX5_slips_66 : decode cX5_slips 66 = .ok (.iload_n 3, 1) := by decide +kernel
theorem dX5_slips_67 : decode cX5_slips 67 = .ok (.invokevirtual 188, 3) := by decide +kernel
theorem dX5_slips_70 : decode cX5_slips 70 = .ok (.iconst (-1), 1) := by decide +kernel
theorem dX5_slips_71 : decode cX5_slips 71 = .ok (.ixor, 1) := by decide +kernel
theorem dX5_slips_72 : decode cX5_slips 72 = .ok (.iand, 1) := by decide +kernel
theorem dX5_slips_73 : decode cX5_slips 73 = .ok (.invokevirtual 170, 3) := by decide +kernel
theorem dX5_slips_76 : decode cX5_slips 76 = .ok (.istore 5, 2) := by decide +kernel
theorem dX5_slips_78 : decode cX5_slips 78 = .ok (.iload 5, 2) := by decide +kernel
theorem dX5_slips_80 : decode cX5_slips 80 = .ok (.bipush (-2), 2) := by decide +kernel
theorem dX5_slips_82 : decode cX5_slips 82 = .ok (.if_icmp .ne 6, 3) := by decide +kernel
theorem dX5_slips_85 : decode cX5_slips 85 = .ok (.bipush (-2), 2) := by decide +kernel
theorem dX5_slips_87 : decode cX5_slips 87 = .ok (.ireturn, 1) := by decide +kernel
theorem dX5_slips_88 : decode cX5_slips 88 = .ok (.iload 5, 2) := by decide +kernel
theorem dX5_slips_90 : decode cX5_slips 90 = .ok (.iconst 1, 1) := by decide +kernel
theorem dX5_slips_91 : decode cX5_slips 91 = .ok (.if_icmp .ne 20, 3) := by decide +kernel
theorem dX5_slips_94 : decode cX5_slips 94 = .ok (.aload_n 0, 1) := by decide +kernel
theorem dX5_slips_95 : decode cX5_slips 95 = .ok (.getfield 36, 3) := by decide +kernel
theorem dX5_slips_98 : decode cX5_slips 98 = .ok (.iload 4, 2) := by decide +kernel
theorem dX5_slips_100 : decode cX5_slips 100 = .ok (.aload_n 0, 1) := by decide +kernel
theorem dX5_slips_101 : decode cX5_slips 101 = .ok (.getfield 36, 3) := by decide +kernel
theorem dX5_slips_104 : decode cX5_slips 104 = .ok (.iload_n 3, 1) := by decide +kernel
theorem dX5_slips_105 : decode cX5_slips 105 = .ok (.invokevirtual 191, 3) := by decide +kernel
theorem dX5_slips_108 : decode cX5_slips 108 = .ok (.invokevirtual 194, 3) := by decide +kernel
theorem dX5_slips_111 : decode cX5_slips 111 = .ok (.iinc 3 1, 3) := by decide +kernel
theorem dX5_slips_114 : decode cX5_slips 114 = .ok (.goto (-81), 3) := by decide +kernel
theorem dX5_slips_117 : decode cX5_slips 117 = .ok (.aload_n 0, 1) := by decide +kernel
theorem dX5_slips_118 : decode cX5_slips 118 = .ok (.getfield 36, 3) := by decide +kernel
theorem dX5_slips_121 : decode cX5_slips 121 = .ok (.invokevirtual 197, 3) := by decide +kernel
theorem dX5_slips_124 : decode cX5_slips 124 = .ok (.aload_n 0, 1) := by decide +kernel
theorem dX5_slips_125 : decode cX5_slips 125 = .ok (.getfield 36, 3) := by decide +kernel
theorem dX5_slips_128 : decode cX5_slips 128 = .ok (.getfield 200, 3) := by decide +kernel
theorem dX5_slips_131 : decode cX5_slips 131 = .ok (.ireturn, 1) := by decide +kernel
theorem dX5_slipped_0 : decode cX5_slipped 0 = .ok (.iload_n 1, 1) := by decide +kernel
theorem dX5_slipped_1 : decode cX5_slipped 1 = .ok (.iconst (-1), 1) := by decide +kernel
theorem dX5_slipped_2 : decode cX5_slipped 2 = .ok (.if_icmp .ne 11, 3) := by decide +kernel
theorem dX5_slipped_5 : decode cX5_slipped 5 = .ok (.aload_n 0, 1) := by decide +kernel
theorem dX5_slipped_6 : decode cX5_slipped 6 = .ok (.getfield 36, 3) := by decide +kernel
theorem dX5_slipped_9 : decode cX5_slipped 9 = .ok (.getfield 203, 3) := by decide +kernel
theorem dX5_slipped_12 : decode cX5_slipped 12 = .ok (.ireturn, 1) := by decide +kernel
theorem dX5_slipped_13 : decode cX5_slipped 13 = .ok (.iload_n 1, 1) := by decide +kernel
theorem dX5_slipped_14 : decode cX5_slipped 14 = .ok (.ifCond .lt 26, 3) := by decide +kernel
theorem dX5_slipped_17 : decode cX5_slipped 17 = .ok (.iload_n 1, 1) := by decide +kernel
theorem dX5_slipped_18 : decode cX5_slipped 18 = .ok (.aload_n 0, 1) := by decide +kernel
theorem dX5_slipped_19 : decode cX5_slipped 19 = .ok (.getfield 36, 3) := by decide +kernel
theorem dX5_slipped_22 : decode cX5_slipped 22 = .ok (.getfield 203, 3) := by decide +kernel
theorem dX5_slipped_25 : decode cX5_slipped 25 = .ok (.if_icmp .ge 15, 3) := by decide +kernel
theorem dX5_slipped_28 : decode cX5_slipped 28 = .ok (.aload_n 0, 1) := by decide +kernel
theorem dX5_slipped_29 : decode cX5_slipped 29 = .ok (.getfield 36, 3) := by decide +kernel
theorem dX5_slipped_32 : decode cX5_slipped 32 = .ok (.getfield 206, 3) := by decide +kernel
theorem dX5_slipped_35 : decode cX5_slipped 35 = .ok (.iload_n 1, 1) := by decide +kernel
theorem dX5_slipped_36 : decode cX5_slipped 36 = .ok (.iaload, 1) := by decide +kernel
theorem dX5_slipped_37 : decode cX5_slipped 37 = .ok (.goto 4, 3) := by decide +kernel
theorem dX5_slipped_40 : decode cX5_slipped 40 = .ok (.iconst (-1), 1) := by decide +kernel
theorem dX5_slipped_41 : decode cX5_slipped 41 = .ok (.ireturn, 1) := by decide +kernel
set_option maxRecDepth 20000 in
theorem ggX5_width_X5_isEvent : GoodIn wsX5_width wsX5_isEvent := goodIn_r _ [5, 6, 126, 127, 128, 129, 130, 131, 132, 133, 134, 135, 136] (by decide +kernel) (by decide +kernel)
set_option maxRecDepth 20000 in
theorem gX5_width_X5_isEvent : GoodIn wsX5_width (wsV RX5 77 RX5 yX5_isEvent wsX5_isEvent) := goodIn_app (goodIn_of _ (by decide +kernel)) ggX5_width_X5_isEvent
set_option maxRecDepth 20000 in
theorem ggX5_width_X5_isDay : GoodIn wsX5_width wsX5_isDay := goodIn_r _ [9, 10] (by decide +kernel) (by decide +kernel)
set_option maxRecDepth 20000 in
theorem gX5_width_X5_isDay : GoodIn wsX5_width (va_wsS RX5 148 yX5_isDay wsX5_isDay) := goodIn_app (goodIn_of _ (by decide +kernel)) ggX5_width_X5_isDay
set_option maxRecDepth 20000 in
theorem ggX5_width_X5_askWidth : GoodIn wsX5_width wsX5_askWidth := goodIn_r _ [14, 15, 6, 16, 17, 18, 19, 20, 21, 22, 23, 24, 25, 26, 27, 28, 29, 30, 31, 32, 33, 4, 34, 35, 36, 37, 38, 39, 40, 41, 42, 43, 44, 45, 46, 47, 48, 49, 50, 51, 52, 53, 54, 55, 56, 57, 58, 59, 60, 61, 62, 63, 64, 65, 66, 67, 68, 69, 70, 71, 72, 73, 74, 75, 76, 77, 78, 79, 80, 81, 82, 83, 84, 85, 86, 87, 88, 89, 90, 91, 92, 93, 94, 95, 96, 97, 98, 99, 100, 101, 102, 103, 104, 105, 106, 107, 108, 109, 110, 111, 112, 113, 114, 115, 116, 117, 118, 119, 120, 121, 122, 123, 124, 125, 126, 127, 128, 129, 130, 131, 132, 133, 134, 135, 136, 137, 138, 139, 140, 141, 142, 143, 144, 145, 146, 147, 148, 149, 150, 151, 152, 153, 154, 155, 156, 157, 158, 159, 160, 161, 162] (by decide +kernel) (by decide +kernel)
set_option maxRecDepth 20000 in
theorem gX5_width_X5_askWidth : GoodIn wsX5_width (wsV RX5 209 RX5 yX5_askWidth wsX5_askWidth) := goodIn_app (goodIn_of _ (by decide +kernel)) ggX5_width_X5_askWidth
theorem dX5_width_0 : decode cX5_width 0 = .ok (.iload_n 1, 1) := by decide +kernel
theorem dX5_width_1 : decode cX5_width 1 = .ok (.iconst (-1), 1) := by decide +kernel
theorem dX5_width_2 : decode cX5_width 2 = .ok (.if_icmp .ne 12, 3) := by decide +kernel
theorem dX5_width_5 : decode cX5_width 5 = .ok (.iload_n 2, 1) := by decide +kernel
theorem dX5_width_6 : decode cX5_width 6 = .ok (.iconst (-1), 1) := by decide +kernel
theorem dX5_width_7 : decode cX5_width 7 = .ok (.if_icmp .ne 7, 3) := by decide +kernel
theorem dX5_width_10 : decode cX5_width 10 = .ok (.iconst 1, 1) := by decide +kernel
theorem dX5_width_11 : decode cX5_width 11 = .ok (.goto 4, 3) := by decide +kernel
theorem dX5_width_14 : decode cX5_width 14 = .ok (.iconst 0, 1) := by decide +kernel
theorem dX5_width_15 : decode cX5_width 15 = .ok (.istore_n 3, 1) := by decide +kernel
theorem dX5_width_16 : decode cX5_width 16 = .ok (.iload_n 3, 1) := by decide +kernel
theorem dX5_width_17 : decode cX5_width 17 = .ok (.ifCond .ne 20, 3) := by decide +kernel
theorem dX5_width_20 : decode cX5_width 20 = .ok (.aload_n 0, 1) := by decide +kernel
theorem dX5_width_21 : decode cX5_width 21 = .ok (.iload_n 1, 1) := by decide +kernel
theorem dX5_width_22 : decode cX5_width 22 = .ok (.invokevirtual 77, 3) := by decide +kernel
theorem dX5_width_25 : decode cX5_width 25 = .ok (.ifCond .eq 10, 3) := by decide +kernel
theorem dX5_width_28 : decode cX5_width 28 = .ok (.iload_n 2, 1) := by decide +kernel
theorem dX5_width_29 : decode cX5_width 29 = .ok (.invokestatic 148, 3) := by decide +kernel
theorem dX5_width_32 : decode cX5_width 32 = .ok (.ifCond .ne 5, 3) := by decide +kernel
theorem dX5_width_35 : decode cX5_width 35 = .ok (.iconst (-1), 1) := by decide +kernel
theorem dX5_width_36 : decode cX5_width 36 = .ok (.ireturn, 1) := by decide +kernel
theorem dX5_width_37 : decode cX5_width 37 = .ok (.aload_n 0, 1) := by decide +kernel
theorem dX5_width_38 : decode cX5_width 38 = .ok (.iload_n 1, 1) := by decide +kernel
theorem dX5_width_39 : decode cX5_width 39 = .ok (.iload_n 2, 1) := by decide +kernel
theorem dX5_width_40 : decode cX5_width 40 = .ok (.invokevirtual 209, 3) := by decide +kernel
theorem dX5_width_43 : decode cX5_width 43 = .ok (.ireturn, 1) := by decide +kernel
set_option maxRecDepth 20000 in
theorem ggX5_settles_X5_askWidth : GoodIn wsX5_settles wsX5_askWidth := goodIn_r _ [15, 1, 10, 16, 8, 2, 17, 18, 19, 20, 21, 22, 23, 24, 25, 26, 27, 28, 29, 30, 31, 14, 32, 33, 34, 35, 36, 37, 38, 39, 40, 41, 42, 43, 44, 45, 46, 47, 48, 49, 50, 51, 52, 53, 54, 55, 56, 57, 58, 59, 60, 61, 62, 63, 64, 65, 66, 67, 68, 69, 70, 71, 72, 73, 74, 75, 76, 77, 78, 79, 80, 81, 82, 83, 84, 85, 86, 87, 88, 89, 90, 91, 92, 93, 94, 95, 96, 97, 98, 99, 100, 101, 102, 103, 104, 105, 106, 107, 108, 109, 110, 111, 112, 113, 114, 115, 116, 117, 118, 119, 120, 121, 122, 123, 129, 130, 131, 132, 133, 134, 135, 136, 137, 138, 139, 140, 141, 142, 143, 144, 145, 146, 147, 148, 149, 150, 151, 152, 153, 154, 155, 156, 157, 158, 159, 160, 161, 162, 163, 164, 165] (by decide +kernel) (by decide +kernel)
set_option maxRecDepth 20000 in
theorem gX5_settles_X5_askWidth : GoodIn wsX5_settles (wsV RX5 209 RX5 yX5_askWidth wsX5_askWidth) := goodIn_app (goodIn_of _ (by decide +kernel)) ggX5_settles_X5_askWidth
set_option maxRecDepth 20000 in
theorem ggX5_settles_X5_greaterWidth : GoodIn wsX5_settles wsX5_greaterWidth := goodIn_r _ [127, 3, 9, 128, 61, 24, 62, 11, 12, 13, 14, 15, 1, 10, 16, 8, 2, 17, 18, 19, 20, 21, 22, 23, 25, 26, 27, 28, 29, 30, 31, 32, 33, 34, 35, 36, 37, 38, 39, 40, 41, 42, 43, 44, 45, 46, 47, 48, 49, 50, 51, 52, 53, 54, 55, 56, 57, 58, 59, 60, 63, 64, 65, 66, 67, 68, 69, 70, 71, 72, 73, 74, 75, 76, 77, 78, 79, 80, 81, 82, 83, 84, 85, 86, 87, 88, 89, 90, 91, 92, 93, 94, 95, 96, 97, 98, 99, 100, 101, 102, 103, 104, 105, 106, 107, 108, 109, 110, 111, 112, 113, 114, 115, 116, 117, 118, 119, 120, 121, 122, 123, 129, 130, 131, 132, 133, 134, 135, 136, 137, 138, 139, 140, 141, 142, 143, 144, 145, 146, 147, 148, 149, 150, 151, 152, 153, 154, 155, 156, 157, 158, 159, 160, 161, 162, 163, 164, 165] (by decide +kernel) (by decide +kernel)
set_option maxRecDepth 20000 in
theorem gX5_settles_X5_greaterWidth : GoodIn wsX5_settles (wsV RX5 219 RX5 yX5_greaterWidth wsX5_greaterWidth) := goodIn_app (goodIn_of _ (by decide +kernel)) ggX5_settles_X5_greaterWidth
theorem dX5_settles_0 : decode cX5_settles 0 = .ok (.aload_n 0, 1) := by decide +kernel
theorem dX5_settles_1 : decode cX5_settles 1 = .ok (.iconst (-1), 1) := by decide +kernel
theorem dX5_settles_2 : decode cX5_settles 2 = .ok (.iconst (-1), 1) := by decide +kernel
theorem dX5_settles_3 : decode cX5_settles 3 = .ok (.invokevirtual 209, 3) := by decide +kernel
theorem dX5_settles_6 : decode cX5_settles 6 = .ok (.istore_n 1, 1) := by decide +kernel
theorem dX5_settles_7 : decode cX5_settles 7 = .ok (.iload_n 1, 1) := by decide +kernel
theorem dX5_settles_8 : decode cX5_settles 8 = .ok (.ifCond .ge 5, 3) := by decide +kernel
theorem dX5_settles_11 : decode cX5_settles 11 = .ok (.iload_n 1, 1) := by decide +kernel
theorem dX5_settles_12 : decode cX5_settles 12 = .ok (.ireturn, 1) := by decide +kernel
theorem dX5_settles_13 : decode cX5_settles 13 = .ok (.aload_n 0, 1) := by decide +kernel
theorem dX5_settles_14 : decode cX5_settles 14 = .ok (.getfield 29, 3) := by decide +kernel
theorem dX5_settles_17 : decode cX5_settles 17 = .ok (.getfield 142, 3) := by decide +kernel
theorem dX5_settles_20 : decode cX5_settles 20 = .ok (.iconst 0, 1) := by decide +kernel
theorem dX5_settles_21 : decode cX5_settles 21 = .ok (.aload_n 0, 1) := by decide +kernel
theorem dX5_settles_22 : decode cX5_settles 22 = .ok (.getfield 40, 3) := by decide +kernel
theorem dX5_settles_25 : decode cX5_settles 25 = .ok (.iconst 0, 1) := by decide +kernel
theorem dX5_settles_26 : decode cX5_settles 26 = .ok (.bipush 6, 2) := by decide +kernel
theorem dX5_settles_28 : decode cX5_settles 28 = .ok (.invokestatic 213, 3) := by decide +kernel
theorem dX5_settles_31 : decode cX5_settles 31 = .ok (.aload_n 0, 1) := by decide +kernel
theorem dX5_settles_32 : decode cX5_settles 32 = .ok (.getfield 29, 3) := by decide +kernel
theorem dX5_settles_35 : decode cX5_settles 35 = .ok (.getfield 145, 3) := by decide +kernel
theorem dX5_settles_38 : decode cX5_settles 38 = .ok (.iconst 0, 1) := by decide +kernel
theorem dX5_settles_39 : decode cX5_settles 39 = .ok (.aload_n 0, 1) := by decide +kernel
theorem dX5_settles_40 : decode cX5_settles 40 = .ok (.getfield 43, 3) := by decide +kernel
theorem dX5_settles_43 : decode cX5_settles 43 = .ok (.iconst 0, 1) := by decide +kernel
theorem dX5_settles_44 : decode cX5_settles 44 = .ok (.bipush 6, 2) := by decide +kernel
theorem dX5_settles_46 : decode cX5_settles 46 = .ok (.invokestatic 213, 3) := by decide +kernel
theorem dX5_settles_49 : decode cX5_settles 49 = .ok (.iconst (-1), 1) := by decide +kernel
theorem dX5_settles_50 : decode cX5_settles 50 = .ok (.istore_n 2, 1) := by decide +kernel
theorem dX5_settles_51 : decode cX5_settles 51 = .ok (.iconst 0, 1) := by decide +kernel
theorem dX5_settles_52 : decode cX5_settles 52 = .ok (.istore_n 3, 1) := by decide +kernel
theorem dX5_settles_53 : decode cX5_settles 53 = .ok (.iconst 0, 1) := by decide +kernel
theorem dX5_settles_54 : decode cX5_settles 54 = .ok (.istore 4, 2) := by decide +kernel
theorem dX5_settles_56 : decode cX5_settles 56 = .ok (.iload 4, 2) := by decide +kernel
theorem dX5_settles_58 : decode cX5_settles 58 = .ok (.aload_n 0, 1) := by decide +kernel
theorem dX5_settles_59 : decode cX5_settles 59 = .ok (.getfield 71, 3) := by decide +kernel
theorem dX5_settles_62 : decode cX5_settles 62 = .ok (.if_icmp .ge 61, 3) := by decide +kernel
theorem dX5_settles_65 : decode cX5_settles 65 = .ok (.aload_n 0, 1) := by decide +kernel
theorem dX5_settles_66 : decode cX5_settles 66 = .ok (.getfield 40, 3) := by decide +kernel
theorem dX5_settles_69 : decode cX5_settles 69 = .ok (.iload 4, 2) := by decide +kernel
theorem dX5_settles_71 : decode cX5_settles 71 = .ok (.iaload, 1) := by decide +kernel
theorem dX5_settles_72 : decode cX5_settles 72 = .ok (.aload_n 0, 1) := by decide +kernel
theorem dX5_settles_73 : decode cX5_settles 73 = .ok (.getfield 43, 3) := by decide +kernel
theorem dX5_settles_76 : decode cX5_settles 76 = .ok (.iload 4, 2) := by decide +kernel
theorem dX5_settles_78 : decode cX5_settles 78 = .ok (.iaload, 1) := by decide +kernel
theorem dX5_settles_79 : decode cX5_settles 79 = .ok (.if_icmp .eq 38, 3) := by decide +kernel
theorem dX5_settles_82 : decode cX5_settles 82 = .ok (.aload_n 0, 1) := by decide +kernel
theorem dX5_settles_83 : decode cX5_settles 83 = .ok (.iload 4, 2) := by decide +kernel
theorem dX5_settles_85 : decode cX5_settles 85 = .ok (.invokevirtual 219, 3) := by decide +kernel
theorem dX5_settles_88 : decode cX5_settles 88 = .ok (.istore 5, 2) := by decide +kernel
theorem dX5_settles_90 : decode cX5_settles 90 = .ok (.iload 5, 2) := by decide +kernel
theorem dX5_settles_92 : decode cX5_settles 92 = .ok (.bipush (-2), 2) := by decide +kernel
theorem dX5_settles_94 : decode cX5_settles 94 = .ok (.if_icmp .ne 6, 3) := by decide +kernel
theorem dX5_settles_97 : decode cX5_settles 97 = .ok (.bipush (-2), 2) := by decide +kernel
theorem dX5_settles_99 : decode cX5_settles 99 = .ok (.ireturn, 1) := by decide +kernel
theorem dX5_settles_100 : decode cX5_settles 100 = .ok (.iload_n 2, 1) := by decide +kernel
theorem dX5_settles_101 : decode cX5_settles 101 = .ok (.iconst (-1), 1) := by decide +kernel
theorem dX5_settles_102 : decode cX5_settles 102 = .ok (.if_icmp .eq 9, 3) := by decide +kernel
theorem dX5_settles_105 : decode cX5_settles 105 = .ok (.iload 5, 2) := by decide +kernel
theorem dX5_settles_107 : decode cX5_settles 107 = .ok (.iload_n 3, 1) := by decide +kernel
theorem dX5_settles_108 : decode cX5_settles 108 = .ok (.if_icmp .ge 9, 3) := by decide +kernel
theorem dX5_settles_111 : decode cX5_settles 111 = .ok (.iload 4, 2) := by decide +kernel
theorem dX5_settles_113 : decode cX5_settles 113 = .ok (.istore_n 2, 1) := by decide +kernel
theorem dX5_settles_114 : decode cX5_settles 114 = .ok (.iload 5, 2) := by decide +kernel
theorem dX5_settles_116 : decode cX5_settles 116 = .ok (.istore_n 3, 1) := by decide +kernel
theorem dX5_settles_117 : decode cX5_settles 117 = .ok (.iinc 4 1, 3) := by decide +kernel
theorem dX5_settles_120 : decode cX5_settles 120 = .ok (.goto (-64), 3) := by decide +kernel
theorem dX5_settles_123 : decode cX5_settles 123 = .ok (.iload_n 2, 1) := by decide +kernel
theorem dX5_settles_124 : decode cX5_settles 124 = .ok (.ireturn, 1) := by decide +kernel
