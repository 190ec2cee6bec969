theorem dX0_isCalendar_0 : decode cX0_isCalendar 0 = .ok (.iload_n 0, 1) := by decide +kernel
theorem dX0_isCalendar_1 : decode cX0_isCalendar 1 = .ok (.ifCond .lt 12, 3) := by decide +kernel
theorem dX0_isCalendar_4 : decode cX0_isCalendar 4 = .ok (.iload_n 0, 1) := by decide +kernel
theorem dX0_isCalendar_5 : decode cX0_isCalendar 5 = .ok (.iconst 2, 1) := by decide +kernel
theorem dX0_isCalendar_6 : decode cX0_isCalendar 6 = .ok (.if_icmp .gt 7, 3) := by decide +kernel
theorem dX0_isCalendar_9 : decode cX0_isCalendar 9 = .ok (.iconst 1, 1) := by decide +kernel
theorem dX0_isCalendar_10 : decode cX0_isCalendar 10 = .ok (.goto 4, 3) := by decide +kernel
theorem dX0_isCalendar_13 : decode cX0_isCalendar 13 = .ok (.iconst 0, 1) := by decide +kernel
theorem dX0_isCalendar_14 : decode cX0_isCalendar 14 = .ok (.ireturn, 1) := by decide +kernel
set_option maxRecDepth 20000 in
theorem ggX0_isYear_X0_isCalendar : GoodIn wsX0_isYear wsX0_isCalendar := goodIn_r _ [4] (by decide +kernel) (by decide +kernel)
set_option maxRecDepth 20000 in
theorem gX0_isYear_X0_isCalendar : GoodIn wsX0_isYear (va_wsS RX0 11 yX0_isCalendar wsX0_isCalendar) := goodIn_app (goodIn_of _ (by decide +kernel)) ggX0_isYear_X0_isCalendar
theorem dX0_isYear_0 : decode cX0_isYear 0 = .ok (.iload_n 0, 1) := by decide +kernel
theorem dX0_isYear_1 : decode cX0_isYear 1 = .ok (.invokestatic 11, 3) := by decide +kernel
theorem dX0_isYear_4 : decode cX0_isYear 4 = .ok (.ifCond .eq 19, 3) := by decide +kernel
theorem dX0_isYear_7 : decode cX0_isYear 7 = .ok (.iload_n 1, 1) := by decide +kernel
theorem dX0_isYear_8 : decode cX0_isYear 8 = .ok (.iconst 1, 1) := by decide +kernel
theorem dX0_isYear_9 : decode cX0_isYear 9 = .ok (.if_icmp .lt 14, 3) := by decide +kernel
theorem dX0_isYear_12 : decode cX0_isYear 12 = .ok (.iload_n 1, 1) := by decide +kernel
theorem dX0_isYear_13 : decode cX0_isYear 13 = .ok (.sipush 2699, 3) := by decide +kernel
theorem dX0_isYear_16 : decode cX0_isYear 16 = .ok (.if_icmp .gt 7, 3) := by decide +kernel
theorem dX0_isYear_19 : decode cX0_isYear 19 = .ok (.iconst 1, 1) := by decide +kernel
theorem dX0_isYear_20 : decode cX0_isYear 20 = .ok (.goto 4, 3) := by decide +kernel
theorem dX0_isYear_23 : decode cX0_isYear 23 = .ok (.iconst 0, 1) := by decide +kernel
theorem dX0_isYear_24 : decode cX0_isYear 24 = .ok (.ireturn, 1) := by decide +kernel
set_option maxRecDepth 20000 in
theorem ggX0_isMonth_X0_isYear : GoodIn wsX0_isMonth wsX0_isYear := goodIn_r _ [4, 5, 6, 3, 7] (by decide +kernel) (by decide +kernel)
set_option maxRecDepth 20000 in
theorem gX0_isMonth_X0_isYear : GoodIn wsX0_isMonth (va_wsS RX0 15 yX0_isYear wsX0_isYear) := goodIn_app (goodIn_of _ (by decide +kernel)) ggX0_isMonth_X0_isYear
set_option maxRecDepth 20000 in
theorem ggX0_isMonth_X0_months : GoodIn wsX0_isMonth wsX0_months := goodIn_r _ [10] (by decide +kernel) (by decide +kernel)
set_option maxRecDepth 20000 in
theorem gX0_isMonth_X0_months : GoodIn wsX0_isMonth (va_wsS RX0 19 yX0_months wsX0_months) := goodIn_app (goodIn_of _ (by decide +kernel)) ggX0_isMonth_X0_months
theorem dX0_isMonth_0 : decode cX0_isMonth 0 = .ok (.iload_n 0, 1) := by decide +kernel
theorem dX0_isMonth_1 : decode cX0_isMonth 1 = .ok (.iload_n 1, 1) := by decide +kernel
theorem dX0_isMonth_2 : decode cX0_isMonth 2 = .ok (.invokestatic 15, 3) := by decide +kernel
theorem dX0_isMonth_5 : decode cX0_isMonth 5 = .ok (.ifCond .eq 20, 3) := by decide +kernel
theorem dX0_isMonth_8 : decode cX0_isMonth 8 = .ok (.iload_n 2, 1) := by decide +kernel
theorem dX0_isMonth_9 : decode cX0_isMonth 9 = .ok (.iconst 1, 1) := by decide +kernel
theorem dX0_isMonth_10 : decode cX0_isMonth 10 = .ok (.if_icmp .lt 15, 3) := by decide +kernel
theorem dX0_isMonth_13 : decode cX0_isMonth 13 = .ok (.iload_n 2, 1) := by decide +kernel
theorem dX0_isMonth_14 : decode cX0_isMonth 14 = .ok (.iload_n 0, 1) := by decide +kernel
theorem dX0_isMonth_15 : decode cX0_isMonth 15 = .ok (.invokestatic 19, 3) := by decide +kernel
theorem dX0_isMonth_18 : decode cX0_isMonth 18 = .ok (.if_icmp .gt 7, 3) := by decide +kernel
theorem dX0_isMonth_21 : decode cX0_isMonth 21 = .ok (.iconst 1, 1) := by decide +kernel
theorem dX0_isMonth_22 : decode cX0_isMonth 22 = .ok (.goto 4, 3) := by decide +kernel
theorem dX0_isMonth_25 : decode cX0_isMonth 25 = .ok (.iconst 0, 1) := by decide +kernel
theorem dX0_isMonth_26 : decode cX0_isMonth 26 = .ok (.ireturn, 1) := by decide +kernel
theorem dX0_months_0 : decode cX0_months 0 = .ok (.iload_n 0, 1) := by decide +kernel
theorem dX0_months_1 : decode cX0_months 1 = .ok (.iconst 2, 1) := by decide +kernel
theorem dX0_months_2 : decode cX0_months 2 = .ok (.if_icmp .ne 8, 3) := by decide +kernel
theorem dX0_months_5 : decode cX0_months 5 = .ok (.bipush 13, 2) := by decide +kernel
theorem dX0_months_7 : decode cX0_months 7 = .ok (.goto 5, 3) := by decide +kernel
theorem dX0_months_10 : decode cX0_months 10 = .ok (.bipush 12, 2) := by decide +kernel
theorem dX0_months_12 : decode cX0_months 12 = .ok (.ireturn, 1) := by decide +kernel
theorem dX0_isLeap_0 : decode cX0_isLeap 0 = .ok (.iload_n 0, 1) := by decide +kernel
theorem dX0_isLeap_1 : decode cX0_isLeap 1 = .ok (.iconst 2, 1) := by decide +kernel
theorem dX0_isLeap_2 : decode cX0_isLeap 2 = .ok (.if_icmp .eq 9, 3) := by decide +kernel
theorem dX0_isLeap_5 : decode cX0_isLeap 5 = .ok (.iload_n 1, 1) := by decide +kernel
theorem dX0_isLeap_6 : decode cX0_isLeap 6 = .ok (.iconst 4, 1) := by decide +kernel
theorem dX0_isLeap_7 : decode cX0_isLeap 7 = .ok (.irem, 1) := by decide +kernel
theorem dX0_isLeap_8 : decode cX0_isLeap 8 = .ok (.ifCond .eq 5, 3) := by decide +kernel
theorem dX0_isLeap_11 : decode cX0_isLeap 11 = .ok (.iconst 0, 1) := by decide +kernel
theorem dX0_isLeap_12 : decode cX0_isLeap 12 = .ok (.ireturn, 1) := by decide +kernel
theorem dX0_isLeap_13 : decode cX0_isLeap 13 = .ok (.iload_n 0, 1) := by decide +kernel
theorem dX0_isLeap_14 : decode cX0_isLeap 14 = .ok (.iconst 1, 1) := by decide +kernel
theorem dX0_isLeap_15 : decode cX0_isLeap 15 = .ok (.if_icmp .eq 18, 3) := by decide +kernel
theorem dX0_isLeap_18 : decode cX0_isLeap 18 = .ok (.iload_n 1, 1) := by decide +kernel
theorem dX0_isLeap_19 : decode cX0_isLeap 19 = .ok (.bipush 100, 2) := by decide +kernel
theorem dX0_isLeap_21 : decode cX0_isLeap 21 = .ok (.irem, 1) := by decide +kernel
theorem dX0_isLeap_22 : decode cX0_isLeap 22 = .ok (.ifCond .ne 11, 3) := by decide +kernel
theorem dX0_isLeap_25 : decode cX0_isLeap 25 = .ok (.iload_n 1, 1) := by decide +kernel
theorem dX0_isLeap_26 : decode cX0_isLeap 26 = .ok (.sipush 400, 3) := by decide +kernel
theorem dX0_isLeap_29 : decode cX0_isLeap 29 = .ok (.irem, 1) := by decide +kernel
theorem dX0_isLeap_30 : decode cX0_isLeap 30 = .ok (.ifCond .ne 7, 3) := by decide +kernel
theorem dX0_isLeap_33 : decode cX0_isLeap 33 = .ok (.iconst 1, 1) := by decide +kernel
theorem dX0_isLeap_34 : decode cX0_isLeap 34 = .ok (.goto 4, 3) := by decide +kernel
theorem dX0_isLeap_37 : decode cX0_isLeap 37 = .ok (.iconst 0, 1) := by decide +kernel
theorem dX0_isLeap_38 : decode cX0_isLeap 38 = .ok (.ireturn, 1) := by decide +kernel
set_option maxRecDepth 20000 in
theorem ggX0_monthDays_X0_isLeap : GoodIn wsX0_monthDays wsX0_isLeap := goodIn_r _ [5] (by decide +kernel) (by decide +kernel)
set_option maxRecDepth 20000 in
theorem gX0_monthDays_X0_isLeap : GoodIn wsX0_monthDays (va_wsS RX0 27 yX0_isLeap wsX0_isLeap) := goodIn_app (goodIn_of _ (by decide +kernel)) ggX0_monthDays_X0_isLeap
theorem dX0_monthDays_0 : decode cX0_monthDays 0 = .ok (.iload_n 0, 1) := by decide +kernel
theorem dX0_monthDays_1 : decode cX0_monthDays 1 = .ok (.iconst 2, 1) := by decide +kernel
theorem dX0_monthDays_2 : decode cX0_monthDays 2 = .ok (.if_icmp .ne 16, 3) := by decide +kernel
theorem dX0_monthDays_5 : decode cX0_monthDays 5 = .ok (.iload_n 2, 1) := by decide +kernel
theorem dX0_monthDays_6 : decode cX0_monthDays 6 = .ok (.bipush 13, 2) := by decide +kernel
theorem dX0_monthDays_8 : decode cX0_monthDays 8 = .ok (.if_icmp .ne 7, 3) := by decide +kernel
theorem dX0_monthDays_11 : decode cX0_monthDays 11 = .ok (.iconst 5, 1) := by decide +kernel
theorem dX0_monthDays_12 : decode cX0_monthDays 12 = .ok (.goto 5, 3) := by decide +kernel
theorem dX0_monthDays_15 : decode cX0_monthDays 15 = .ok (.bipush 30, 2) := by decide +kernel
theorem dX0_monthDays_17 : decode cX0_monthDays 17 = .ok (.ireturn, 1) := by decide +kernel
theorem dX0_monthDays_18 : decode cX0_monthDays 18 = .ok (.iload_n 2, 1) := by decide +kernel
theorem dX0_monthDays_19 : decode cX0_monthDays 19 = .ok (.iconst 1, 1) := by decide +kernel
theorem dX0_monthDays_20 : decode cX0_monthDays 20 = .ok (.if_icmp .lt 11, 3) := by decide +kernel
theorem dX0_monthDays_23 : decode cX0_monthDays 23 = .ok (.iload_n 2, 1) := by decide +kernel
theorem dX0_monthDays_24 : decode cX0_monthDays 24 = .ok (.getstatic 23, 3) := by decide +kernel
theorem dX0_monthDays_27 : decode cX0_monthDays 27 = .ok (.arraylength, 1) := by decide +kernel
theorem dX0_monthDays_28 : decode cX0_monthDays 28 = .ok (.if_icmp .le 5, 3) := by decide +kernel
theorem dX0_monthDays_31 : decode cX0_monthDays 31 = .ok (.iconst 0, 1) := by decide +kernel
theorem dX0_monthDays_32 : decode cX0_monthDays 32 = .ok (.ireturn, 1) := by decide +kernel
theorem dX0_monthDays_33 : decode cX0_monthDays 33 = .ok (.iload_n 2, 1) := by decide +kernel
theorem dX0_monthDays_34 : decode cX0_monthDays 34 = .ok (.iconst 2, 1) := by decide +kernel
theorem dX0_monthDays_35 : decode cX0_monthDays 35 = .ok (.if_icmp .ne 16, 3) := by decide +kernel
theorem dX0_monthDays_38 : decode cX0_monthDays 38 = .ok (.iload_n 0, 1) := by decide +kernel
theorem dX0_monthDays_39 : decode cX0_monthDays 39 = .ok (.iload_n 1, 1) := by decide +kernel
theorem dX0_monthDays_40 : decode cX0_monthDays 40 = .ok (.invokestatic 27, 3) := by decide +kernel
theorem dX0_monthDays_43 : decode cX0_monthDays 43 = .ok (.ifCond .eq 8, 3) := by decide +kernel
theorem dX0_monthDays_46 : decode cX0_monthDays 46 = .ok (.bipush 29, 2) := by decide +kernel
theorem dX0_monthDays_48 : decode cX0_monthDays 48 = .ok (.goto 10, 3) := by decide +kernel
theorem dX0_monthDays_51 : decode cX0_monthDays 51 = .ok (.getstatic 23, 3) := by decide +kernel
theorem dX0_monthDays_54 : decode cX0_monthDays 54 = .ok (.iload_n 2, 1) := by decide +kernel
theorem dX0_monthDays_55 : decode cX0_monthDays 55 = .ok (.iconst 1, 1) := by decide +kernel
theorem dX0_monthDays_56 : decode cX0_monthDays 56 = .ok (.isub, 1) := by decide +kernel
theorem dX0_monthDays_57 : decode cX0_monthDays 57 = .ok (.iaload, 1) := by decide +kernel
theorem dX0_monthDays_58 : decode cX0_monthDays 58 = .ok (.ireturn, 1) := by decide +kernel
theorem dX0_yearStart_0 : decode cX0_yearStart 0 = .ok (.iload_n 1, 1) := by decide +kernel
theorem dX0_yearStart_1 : decode cX0_yearStart 1 = .ok (.iconst 1, 1) := by decide +kernel
theorem dX0_yearStart_2 : decode cX0_yearStart 2 = .ok (.isub, 1) := by decide +kernel
theorem dX0_yearStart_3 : decode cX0_yearStart 3 = .ok (.istore_n 2, 1) := by decide +kernel
theorem dX0_yearStart_4 : decode cX0_yearStart 4 = .ok (.sipush 365, 3) := by decide +kernel
theorem dX0_yearStart_7 : decode cX0_yearStart 7 = .ok (.iload_n 2, 1) := by decide +kernel
theorem dX0_yearStart_8 : decode cX0_yearStart 8 = .ok (.imul, 1) := by decide +kernel
theorem dX0_yearStart_9 : decode cX0_yearStart 9 = .ok (.istore_n 3, 1) := by decide +kernel
theorem dX0_yearStart_10 : decode cX0_yearStart 10 = .ok (.iload_n 0, 1) := by decide +kernel
theorem dX0_yearStart_11 : decode cX0_yearStart 11 = .ok (.ifCond .ne 20, 3) := by decide +kernel
theorem dX0_yearStart_14 : decode cX0_yearStart 14 = .ok (.iload_n 3, 1) := by decide +kernel
theorem dX0_yearStart_15 : decode cX0_yearStart 15 = .ok (.iload_n 2, 1) := by decide +kernel
theorem dX0_yearStart_16 : decode cX0_yearStart 16 = .ok (.iconst 4, 1) := by decide +kernel
theorem dX0_yearStart_17 : decode cX0_yearStart 17 = .ok (.idiv, 1) := by decide +kernel
theorem dX0_yearStart_18 : decode cX0_yearStart 18 = .ok (.iadd, 1) := by decide +kernel
theorem dX0_yearStart_19 : decode cX0_yearStart 19 = .ok (.iload_n 2, 1) := by decide +kernel
theorem dX0_yearStart_20 : decode cX0_yearStart 20 = .ok (.bipush 100, 2) := by decide +kernel
theorem dX0_yearStart_22 : decode cX0_yearStart 22 = .ok (.idiv, 1) := by decide +kernel
theorem dX0_yearStart_23 : decode cX0_yearStart 23 = .ok (.isub, 1) := by decide +kernel
theorem dX0_yearStart_24 : decode cX0_yearStart 24 = .ok (.iload_n 2, 1) := by decide +kernel
theorem dX0_yearStart_25 : decode cX0_yearStart 25 = .ok (.sipush 400, 3) := by decide +kernel
theorem dX0_yearStart_28 : decode cX0_yearStart 28 = .ok (.idiv, 1) := by decide +kernel
theorem dX0_yearStart_29 : decode cX0_yearStart 29 = .ok (.iadd, 1) := by decide +kernel
theorem dX0_yearStart_30 : decode cX0_yearStart 30 = .ok (.ireturn, 1) := by decide +kernel
theorem dX0_yearStart_31 : decode cX0_yearStart 31 = .ok (.iload_n 0, 1) := by decide +kernel
theorem dX0_yearStart_32 : decode cX0_yearStart 32 = .ok (.iconst 1, 1) := by decide +kernel
theorem dX0_yearStart_33 : decode cX0_yearStart 33 = .ok (.if_icmp .ne 13, 3) := by decide +kernel
theorem dX0_yearStart_36 : decode cX0_yearStart 36 = .ok (.iload_n 3, 1) := by decide +kernel
theorem dX0_yearStart_37 : decode cX0_yearStart 37 = .ok (.iload_n 2, 1) := by decide +kernel
theorem dX0_yearStart_38 : decode cX0_yearStart 38 = .ok (.iconst 4, 1) := by decide +kernel
theorem dX0_yearStart_39 : decode cX0_yearStart 39 = .ok (.idiv, 1) := by decide +kernel
theorem dX0_yearStart_40 : decode cX0_yearStart 40 = .ok (.iadd, 1) := by decide +kernel
theorem dX0_yearStart_41 : decode cX0_yearStart 41 = .ok (.iconst 2, 1) := by decide +kernel
theorem dX0_yearStart_42 : decode cX0_yearStart 42 = .ok (.isub, 1) := by decide +kernel
theorem dX0_yearStart_43 : decode cX0_yearStart 43 = .ok (.goto 4, 3) := by decide +kernel
theorem dX0_yearStart_46 : decode cX0_yearStart 46 = .ok (.iload_n 3, 1) := by decide +kernel
theorem dX0_yearStart_47 : decode cX0_yearStart 47 = .ok (.ireturn, 1) := by decide +kernel
set_option maxRecDepth 20000 in
theorem ggX0_monthStart_X0_yearStart : GoodIn wsX0_monthStart wsX0_yearStart := goodIn_r _ [4] (by decide +kernel) (by decide +kernel)
set_option maxRecDepth 20000 in
theorem gX0_monthStart_X0_yearStart : GoodIn wsX0_monthStart (va_wsS RX0 30 yX0_yearStart wsX0_yearStart) := goodIn_app (goodIn_of _ (by decide +kernel)) ggX0_monthStart_X0_yearStart
set_option maxRecDepth 20000 in
theorem ggX0_monthStart_X0_monthDays : GoodIn wsX0_monthStart wsX0_monthDays := goodIn_r _ [7, 8, 9, 10, 3, 11] (by decide +kernel) (by decide +kernel)
set_option maxRecDepth 20000 in
theorem gX0_monthStart_X0_monthDays : GoodIn wsX0_monthStart (va_wsS RX0 34 yX0_monthDays wsX0_monthDays) := goodIn_app (goodIn_of _ (by decide +kernel)) ggX0_monthStart_X0_monthDays
theorem dX0_monthStart_0 : decode cX0_monthStart 0 = .ok (.iload_n 0, 1) := by decide +kernel
theorem dX0_monthStart_1 : decode cX0_monthStart 1 = .ok (.iload_n 1, 1) := by decide +kernel
theorem dX0_monthStart_2 : decode cX0_monthStart 2 = .ok (.invokestatic 30, 3) := by decide +kernel
theorem dX0_monthStart_5 : decode cX0_monthStart 5 = .ok (.istore_n 3, 1) := by decide +kernel
theorem dX0_monthStart_6 : decode cX0_monthStart 6 = .ok (.iconst 1, 1) := by decide +kernel
theorem dX0_monthStart_7 : decode cX0_monthStart 7 = .ok (.istore 4, 2) := by decide +kernel
theorem dX0_monthStart_9 : decode cX0_monthStart 9 = .ok (.iload 4, 2) := by decide +kernel
theorem dX0_monthStart_11 : decode cX0_monthStart 11 = .ok (.iload_n 2, 1) := by decide +kernel
theorem dX0_monthStart_12 : decode cX0_monthStart 12 = .ok (.if_icmp .ge 19, 3) := by decide +kernel
theorem dX0_monthStart_15 : decode cX0_monthStart 15 = .ok (.iload_n 3, 1) := by decide +kernel
theorem dX0_monthStart_16 : decode cX0_monthStart 16 = .ok (.iload_n 0, 1) := by decide +kernel
theorem dX0_monthStart_17 : decode cX0_monthStart 17 = .ok (.iload_n 1, 1) := by decide +kernel
theorem dX0_monthStart_18 : decode cX0_monthStart 18 = .ok (.iload 4, 2) := by decide +kernel
theorem dX0_monthStart_20 : decode cX0_monthStart 20 = .ok (.invokestatic 34, 3) := by decide +kernel
theorem dX0_monthStart_23 : decode cX0_monthStart 23 = .ok (.iadd, 1) := by decide +kernel
theorem dX0_monthStart_24 : decode cX0_monthStart 24 = .ok (.istore_n 3, 1) := by decide +kernel
theorem dX0_monthStart_25 : decode cX0_monthStart 25 = .ok (.iinc 4 1, 3) := by decide +kernel
theorem dX0_monthStart_28 : decode cX0_monthStart 28 = .ok (.goto (-19), 3) := by decide +kernel
theorem dX0_monthStart_31 : decode cX0_monthStart 31 = .ok (.iload_n 3, 1) := by decide +kernel
theorem dX0_monthStart_32 : decode cX0_monthStart 32 = .ok (.ireturn, 1) := by decide +kernel
set_option maxRecDepth 20000 in
theorem ggX0_dayOf_X0_isMonth : GoodIn wsX0_dayOf wsX0_isMonth := goodIn_r _ [4, 5, 6, 3, 7, 8, 9, 10, 11, 12, 13] (by decide +kernel) (by decide +kernel)
set_option maxRecDepth 20000 in
theorem gX0_dayOf_X0_isMonth : GoodIn wsX0_dayOf (va_wsS RX0 38 yX0_isMonth wsX0_isMonth) := goodIn_app (goodIn_of _ (by decide +kernel)) ggX0_dayOf_X0_isMonth
set_option maxRecDepth 20000 in
theorem ggX0_dayOf_X0_monthDays : GoodIn wsX0_dayOf wsX0_monthDays := goodIn_r _ [16, 17, 18, 19, 3, 20] (by decide +kernel) (by decide +kernel)
set_option maxRecDepth 20000 in
theorem gX0_dayOf_X0_monthDays : GoodIn wsX0_dayOf (va_wsS RX0 34 yX0_monthDays wsX0_monthDays) := goodIn_app (goodIn_of _ (by decide +kernel)) ggX0_dayOf_X0_monthDays
set_option maxRecDepth 20000 in
theorem ggX0_dayOf_X0_monthStart : GoodIn wsX0_dayOf wsX0_monthStart := goodIn_r _ [23, 24, 25, 3, 26, 14, 15, 16, 17, 18, 19, 20] (by decide +kernel) (by decide +kernel)
set_option maxRecDepth 20000 in
theorem gX0_dayOf_X0_monthStart : GoodIn wsX0_dayOf (va_wsS RX0 42 yX0_monthStart wsX0_monthStart) := goodIn_app (goodIn_of _ (by decide +kernel)) ggX0_dayOf_X0_monthStart
set_option maxRecDepth 20000 in
theorem ggX0_dayOf_X5_isDay : GoodIn wsX0_dayOf wsX5_isDay := goodIn_r _ [29, 30] (by decide +kernel) (by decide +kernel)
set_option maxRecDepth 20000 in
theorem gX0_dayOf_X5_isDay_n45 : GoodIn wsX0_dayOf (wsX5_isDay) := ggX0_dayOf_X5_isDay
theorem dX0_dayOf_0 : decode cX0_dayOf 0 = .ok (.iload_n 0, 1) := by decide +kernel
theorem dX0_dayOf_1 : decode cX0_dayOf 1 = .ok (.iload_n 1, 1) := by decide +kernel
theorem dX0_dayOf_2 : decode cX0_dayOf 2 = .ok (.iload_n 2, 1) := by decide +kernel
theorem dX0_dayOf_3 : decode cX0_dayOf 3 = .ok (.invokestatic 38, 3) := by decide +kernel
theorem dX0_dayOf_6 : decode cX0_dayOf 6 = .ok (.ifCond .eq 18, 3) := by decide +kernel
theorem dX0_dayOf_9 : decode cX0_dayOf 9 = .ok (.iload_n 3, 1) := by decide +kernel
theorem dX0_dayOf_10 : decode cX0_dayOf 10 = .ok (.iconst 1, 1) := by decide +kernel
theorem dX0_dayOf_11 : decode cX0_dayOf 11 = .ok (.if_icmp .lt 13, 3) := by decide +kernel
theorem dX0_dayOf_14 : decode cX0_dayOf 14 = .ok (.iload_n 3, 1) := by decide +kernel
theorem dX0_dayOf_15 : decode cX0_dayOf 15 = .ok (.iload_n 0, 1) := by decide +kernel
theorem dX0_dayOf_16 : decode cX0_dayOf 16 = .ok (.iload_n 1, 1) := by decide +kernel
theorem dX0_dayOf_17 : decode cX0_dayOf 17 = .ok (.iload_n 2, 1) := by decide +kernel
theorem dX0_dayOf_18 : decode cX0_dayOf 18 = .ok (.invokestatic 34, 3) := by decide +kernel
theorem dX0_dayOf_21 : decode cX0_dayOf 21 = .ok (.if_icmp .le 5, 3) := by decide +kernel
theorem dX0_dayOf_24 : decode cX0_dayOf 24 = .ok (.iconst (-1), 1) := by decide +kernel
theorem dX0_dayOf_25 : decode cX0_dayOf 25 = .ok (.ireturn, 1) := by decide +kernel
theorem dX0_dayOf_26 : decode cX0_dayOf 26 = .ok (.iload_n 0, 1) := by decide +kernel
theorem dX0_dayOf_27 : decode cX0_dayOf 27 = .ok (.iload_n 1, 1) := by decide +kernel
theorem dX0_dayOf_28 : decode cX0_dayOf 28 = .ok (.iload_n 2, 1) := by decide +kernel
theorem dX0_dayOf_29 : decode cX0_dayOf 29 = .ok (.invokestatic 42, 3) := by decide +kernel
theorem dX0_dayOf_32 : decode cX0_dayOf 32 = .ok (.iload_n 3, 1) := by decide +kernel
theorem dX0_dayOf_33 : decode cX0_dayOf 33 = .ok (.iadd, 1) := by decide +kernel
theorem dX0_dayOf_34 : decode cX0_dayOf 34 = .ok (.iconst 1, 1) := by decide +kernel
theorem dX0_dayOf_35 : decode cX0_dayOf 35 = .ok (.isub, 1) := by decide +kernel
theorem dX0_dayOf_36 : decode cX0_dayOf 36 = .ok (.istore 4, 2) := by decide +kernel
theorem dX0_dayOf_38 : decode cX0_dayOf 38 = .ok (.iload 4, 2) := by decide +kernel
theorem dX0_dayOf_40 : decode cX0_dayOf 40 = .ok (.invokestatic 45, 3) := by decide +kernel
theorem dX0_dayOf_43 : decode cX0_dayOf 43 = .ok (.ifCond .eq 8, 3) := by decide +kernel
theorem dX0_dayOf_46 : decode cX0_dayOf 46 = .ok (.iload 4, 2) := by decide +kernel
theorem dX0_dayOf_48 : decode cX0_dayOf 48 = .ok (.goto 4, 3) := by decide +kernel
theorem dX0_dayOf_51 : decode cX0_dayOf 51 = .ok (.iconst (-1), 1) := by decide +kernel
theorem dX0_dayOf_52 : decode cX0_dayOf 52 = .ok (.ireturn, 1) := by decide +kernel
set_option maxRecDepth 20000 in
theorem ggX0_yearOf_X0_yearStart : GoodIn wsX0_yearOf wsX0_yearStart := goodIn_r _ [4] (by decide +kernel) (by decide +kernel)
set_option maxRecDepth 20000 in
theorem gX0_yearOf_X0_yearStart : GoodIn wsX0_yearOf (va_wsS RX0 30 yX0_yearStart wsX0_yearStart) := goodIn_app (goodIn_of _ (by decide +kernel)) ggX0_yearOf_X0_yearStart
theorem dX0_yearOf_0 : decode cX0_yearOf 0 = .ok (.iload_n 1, 1) := by decide +kernel
theorem dX0_yearOf_1 : decode cX0_yearOf 1 = .ok (.sipush 366, 3) := by decide +kernel
theorem dX0_yearOf_4 : decode cX0_yearOf 4 = .ok (.idiv, 1) := by decide +kernel
theorem dX0_yearOf_5 : decode cX0_yearOf 5 = .ok (.iconst 1, 1) := by decide +kernel
theorem dX0_yearOf_6 : decode cX0_yearOf 6 = .ok (.iadd, 1) := by decide +kernel
theorem dX0_yearOf_7 : decode cX0_yearOf 7 = .ok (.istore_n 2, 1) := by decide +kernel
theorem dX0_yearOf_8 : decode cX0_yearOf 8 = .ok (.iload_n 2, 1) := by decide +kernel
theorem dX0_yearOf_9 : decode cX0_yearOf 9 = .ok (.sipush 2699, 3) := by decide +kernel
theorem dX0_yearOf_12 : decode cX0_yearOf 12 = .ok (.if_icmp .gt 20, 3) := by decide +kernel
theorem dX0_yearOf_15 : decode cX0_yearOf 15 = .ok (.iload_n 0, 1) := by decide +kernel
theorem dX0_yearOf_16 : decode cX0_yearOf 16 = .ok (.iload_n 2, 1) := by decide +kernel
theorem dX0_yearOf_17 : decode cX0_yearOf 17 = .ok (.iconst 1, 1) := by decide +kernel
theorem dX0_yearOf_18 : decode cX0_yearOf 18 = .ok (.iadd, 1) := by decide +kernel
theorem dX0_yearOf_19 : decode cX0_yearOf 19 = .ok (.invokestatic 30, 3) := by decide +kernel
theorem dX0_yearOf_22 : decode cX0_yearOf 22 = .ok (.iload_n 1, 1) := by decide +kernel
theorem dX0_yearOf_23 : decode cX0_yearOf 23 = .ok (.if_icmp .gt 9, 3) := by decide +kernel
theorem dX0_yearOf_26 : decode cX0_yearOf 26 = .ok (.iinc 2 1, 3) := by decide +kernel
theorem dX0_yearOf_29 : decode cX0_yearOf 29 = .ok (.goto (-21), 3) := by decide +kernel
theorem dX0_yearOf_32 : decode cX0_yearOf 32 = .ok (.iload_n 2, 1) := by decide +kernel
theorem dX0_yearOf_33 : decode cX0_yearOf 33 = .ok (.sipush 2699, 3) := by decide +kernel
theorem dX0_yearOf_36 : decode cX0_yearOf 36 = .ok (.if_icmp .gt 7, 3) := by decide +kernel
theorem dX0_yearOf_39 : decode cX0_yearOf 39 = .ok (.iload_n 2, 1) := by decide +kernel
theorem dX0_yearOf_40 : decode cX0_yearOf 40 = .ok (.goto 4, 3) := by decide +kernel
theorem dX0_yearOf_43 : decode cX0_yearOf 43 = .ok (.iconst (-1), 1) := by decide +kernel
theorem dX0_yearOf_44 : decode cX0_yearOf 44 = .ok (.ireturn, 1) := by decide +kernel
set_option maxRecDepth 20000 in
theorem ggX0_partOf_X0_isCalendar : GoodIn wsX0_partOf wsX0_isCalendar := goodIn_r _ [4] (by decide +kernel) (by decide +kernel)
set_option maxRecDepth 20000 in
theorem gX0_partOf_X0_isCalendar : GoodIn wsX0_partOf (va_wsS RX0 11 yX0_isCalendar wsX0_isCalendar) := goodIn_app (goodIn_of _ (by decide +kernel)) ggX0_partOf_X0_isCalendar
set_option maxRecDepth 20000 in
theorem ggX0_partOf_X5_isDay : GoodIn wsX0_partOf wsX5_isDay := goodIn_r _ [7, 8] (by decide +kernel) (by decide +kernel)
set_option maxRecDepth 20000 in
theorem gX0_partOf_X5_isDay_n45 : GoodIn wsX0_partOf (wsX5_isDay) := ggX0_partOf_X5_isDay
set_option maxRecDepth 20000 in
theorem ggX0_partOf_X0_yearOf : GoodIn wsX0_partOf wsX0_yearOf := goodIn_r _ [11, 12, 13, 3, 14] (by decide +kernel) (by decide +kernel)
set_option maxRecDepth 20000 in
theorem gX0_partOf_X0_yearOf : GoodIn wsX0_partOf (va_wsS RX0 48 yX0_yearOf wsX0_yearOf) := goodIn_app (goodIn_of _ (by decide +kernel)) ggX0_partOf_X0_yearOf
set_option maxRecDepth 20000 in
theorem ggX0_partOf_X0_yearStart : GoodIn wsX0_partOf wsX0_yearStart := goodIn_r _ [14] (by decide +kernel) (by decide +kernel)
set_option maxRecDepth 20000 in
theorem gX0_partOf_X0_yearStart : GoodIn wsX0_partOf (va_wsS RX0 30 yX0_yearStart wsX0_yearStart) := goodIn_app (goodIn_of _ (by decide +kernel)) ggX0_partOf_X0_yearStart
set_option maxRecDepth 20000 in
theorem ggX0_partOf_X0_months : GoodIn wsX0_partOf wsX0_months := goodIn_r _ [17] (by decide +kernel) (by decide +kernel)
set_option maxRecDepth 20000 in
theorem gX0_partOf_X0_months : GoodIn wsX0_partOf (va_wsS RX0 19 yX0_months wsX0_months) := goodIn_app (goodIn_of _ (by decide +kernel)) ggX0_partOf_X0_months
set_option maxRecDepth 20000 in
theorem ggX0_partOf_X0_monthDays : GoodIn wsX0_partOf wsX0_monthDays := goodIn_r _ [20, 21, 22, 23, 3, 24] (by decide +kernel) (by decide +kernel)
set_option maxRecDepth 20000 in
theorem gX0_partOf_X0_monthDays : GoodIn wsX0_partOf (va_wsS RX0 34 yX0_monthDays wsX0_monthDays) := goodIn_app (goodIn_of _ (by decide +kernel)) ggX0_partOf_X0_monthDays
theorem dX0_partOf_0 : decode cX0_partOf 0 = .ok (.iload_n 0, 1) := by decide +kernel
theorem dX0_partOf_1 : decode cX0_partOf 1 = .ok (.invokestatic 11, 3) := by decide +kernel
theorem dX0_partOf_4 : decode cX0_partOf 4 = .ok (.ifCond .eq 19, 3) := by decide +kernel
theorem dX0_partOf_7 : decode cX0_partOf 7 = .ok (.iload_n 1, 1) := by decide +kernel
theorem dX0_partOf_8 : decode cX0_partOf 8 = .ok (.invokestatic 45, 3) := by decide +kernel
theorem dX0_partOf_11 : decode cX0_partOf 11 = .ok (.ifCond .eq 12, 3) := by decide +kernel
theorem dX0_partOf_14 : decode cX0_partOf 14 = .ok (.iload_n 2, 1) := by decide +kernel
theorem dX0_partOf_15 : decode cX0_partOf 15 = .ok (.ifCond .lt 8, 3) := by decide +kernel
theorem dX0_partOf_18 : decode cX0_partOf 18 = .ok (.iload_n 2, 1) := by decide +kernel
theorem dX0_partOf_19 : decode cX0_partOf 19 = .ok (.iconst 2, 1) := by decide +kernel
theorem dX0_partOf_20 : decode cX0_partOf 20 = .ok (.if_icmp .le 5, 3) := by decide +kernel
theorem dX0_partOf_23 : decode cX0_partOf 23 = .ok (.iconst (-1), 1) := by decide +kernel
theorem dX0_partOf_24 : decode cX0_partOf 24 = .ok (.ireturn, 1) := by decide +kernel
theorem dX0_partOf_25 : decode cX0_partOf 25 = .ok (.iload_n 0, 1) := by decide +kernel
theorem dX0_partOf_26 : decode cX0_partOf 26 = .ok (.iload_n 1, 1) := by decide +kernel
theorem dX0_partOf_27 : decode cX0_partOf 27 = .ok (.invokestatic 48, 3) := by decide +kernel
theorem dX0_partOf_30 : decode cX0_partOf 30 = .ok (.istore_n 3, 1) := by decide +kernel
theorem dX0_partOf_31 : decode cX0_partOf 31 = .ok (.iload_n 2, 1) := by decide +kernel
theorem dX0_partOf_32 : decode cX0_partOf 32 = .ok (.ifCond .eq 8, 3) := by decide +kernel
theorem dX0_partOf_35 : decode cX0_partOf 35 = .ok (.iload_n 3, 1) := by decide +kernel
theorem dX0_partOf_36 : decode cX0_partOf 36 = .ok (.iconst (-1), 1) := by decide +kernel
theorem dX0_partOf_37 : decode cX0_partOf 37 = .ok (.if_icmp .ne 5, 3) := by decide +kernel
theorem dX0_partOf_40 : decode cX0_partOf 40 = .ok (.iload_n 3, 1) := by decide +kernel
theorem dX0_partOf_41 : decode cX0_partOf 41 = .ok (.ireturn, 1) := by decide +kernel
theorem dX0_partOf_42 : decode cX0_partOf 42 = .ok (.iload_n 1, 1) := by decide +kernel
theorem dX0_partOf_43 : decode cX0_partOf 43 = .ok (.iload_n 0, 1) := by decide +kernel
theorem dX0_partOf_44 : decode cX0_partOf 44 = .ok (.iload_n 3, 1) := by decide +kernel
theorem dX0_partOf_45 : decode cX0_partOf 45 = .ok (.invokestatic 30, 3) := by decide +kernel
theorem dX0_partOf_48 : decode cX0_partOf 48 = .ok (.isub, 1) := by decide +kernel
theorem dX0_partOf_49 : decode cX0_partOf 49 = .ok (.istore 4, 2) := by decide +kernel
theorem dX0_partOf_51 : decode cX0_partOf 51 = .ok (.iconst 1, 1) := by decide +kernel
theorem dX0_partOf_52 : decode cX0_partOf 52 = .ok (.istore 5, 2) := by decide +kernel
theorem dX0_partOf_54 : decode cX0_partOf 54 = .ok (.iload 5, 2) := by decide +kernel
theorem dX0_partOf_56 : decode cX0_partOf 56 = .ok (.iload_n 0, 1) := by decide +kernel
theorem dX0_partOf_57 : decode cX0_partOf 57 = .ok (.invokestatic 19, 3) := by decide +kernel
theorem dX0_partOf_60 : decode cX0_partOf 60 = .ok (.if_icmp .ge 33, 3) := by decide +kernel
theorem dX0_partOf_63 : decode cX0_partOf 63 = .ok (.iload 4, 2) := by decide +kernel
theorem dX0_partOf_65 : decode cX0_partOf 65 = .ok (.iload_n 0, 1) := by decide +kernel
theorem dX0_partOf_66 : decode cX0_partOf 66 = .ok (.iload_n 3, 1) := by decide +kernel
theorem dX0_partOf_67 : decode cX0_partOf 67 = .ok (.iload 5, 2) := by decide +kernel
theorem dX0_partOf_69 : decode cX0_partOf 69 = .ok (.invokestatic 34, 3) := by decide +kernel
theorem dX0_partOf_72 : decode cX0_partOf 72 = .ok (.if_icmp .lt 21, 3) := by decide +kernel
theorem dX0_partOf_75 : decode cX0_partOf 75 = .ok (.iload 4, 2) := by decide +kernel
theorem dX0_partOf_77 : decode cX0_partOf 77 = .ok (.iload_n 0, 1) := by decide +kernel
theorem dX0_partOf_78 : decode cX0_partOf 78 = .ok (.iload_n 3, 1) := by decide +kernel
theorem dX0_partOf_79 : decode cX0_partOf 79 = .ok (.iload 5, 2) := by decide +kernel
theorem dX0_partOf_81 : decode cX0_partOf 81 = .ok (.invokestatic 34, 3) := by decide +kernel
theorem dX0_partOf_84 : decode cX0_partOf 84 = .ok (.isub, 1) := by decide +kernel
theorem dX0_partOf_85 : decode cX0_partOf 85 = .ok (.istore 4, 2) := by decide +kernel
theorem dX0_partOf_87 : decode cX0_partOf 87 = .ok (.iinc 5 1, 3) := by decide +kernel
theorem dX0_partOf_90 : decode cX0_partOf 90 = .ok (.goto (-36), 3) := by decide +kernel
theorem dX0_partOf_93 : decode cX0_partOf 93 = .ok (.iload_n 2, 1) := by decide +kernel
theorem dX0_partOf_94 : decode cX0_partOf 94 = .ok (.iconst 1, 1) := by decide +kernel
theorem dX0_partOf_95 : decode cX0_partOf 95 = .ok (.if_icmp .ne 8, 3) := by decide +kernel
theorem dX0_partOf_98 : decode cX0_partOf 98 = .ok (.iload 5, 2) := by decide +kernel
theorem dX0_partOf_100 : decode cX0_partOf 100 = .ok (.goto 7, 3) := by decide +kernel
theorem dX0_partOf_103 : decode cX0_partOf 103 = .ok (.iload 4, 2) := by decide +kernel
theorem dX0_partOf_105 : decode cX0_partOf 105 = .ok (.iconst 1, 1) := by decide +kernel
theorem dX0_partOf_106 : decode cX0_partOf 106 = .ok (.iadd, 1) := by decide +kernel
theorem dX0_partOf_107 : decode cX0_partOf 107 = .ok (.ireturn, 1) := by decide +kernel
set_option maxRecDepth 20000 in
theorem ggX0_yearsBehind_X0_partOf : GoodIn wsX0_yearsBehind wsX0_partOf := goodIn_r _ [4, 5, 6, 3, 7, 8, 9, 10, 11, 12, 13, 14, 15, 16, 17, 18, 19, 20, 21, 22, 23, 24, 25, 26, 27] (by decide +kernel) (by decide +kernel)
set_option maxRecDepth 20000 in
theorem gX0_yearsBehind_X0_partOf : GoodIn wsX0_yearsBehind (va_wsS RX0 51 yX0_partOf wsX0_partOf) := goodIn_app (goodIn_of _ (by decide +kernel)) ggX0_yearsBehind_X0_partOf
set_option maxRecDepth 20000 in
theorem ggX0_yearsBehind_X0_monthDays : GoodIn wsX0_yearsBehind wsX0_monthDays := goodIn_r _ [23, 24, 25, 26, 3, 27] (by decide +kernel) (by decide +kernel)
set_option maxRecDepth 20000 in
theorem gX0_yearsBehind_X0_monthDays : GoodIn wsX0_yearsBehind (va_wsS RX0 34 yX0_monthDays wsX0_monthDays) := goodIn_app (goodIn_of _ (by decide +kernel)) ggX0_yearsBehind_X0_monthDays
set_option maxRecDepth 20000 in
theorem ggX0_yearsBehind_X0_dayOf : GoodIn wsX0_yearsBehind wsX0_dayOf := goodIn_r _ [30, 31, 32, 3, 33, 34, 35, 36, 5, 6, 7, 18, 19, 20, 21, 22, 23, 24, 25, 26, 27, 37, 38, 39, 15, 16, 17, 8, 9, 10, 11] (by decide +kernel) (by decide +kernel)
set_option maxRecDepth 20000 in
theorem gX0_yearsBehind_X0_dayOf : GoodIn wsX0_yearsBehind (va_wsS RX0 54 yX0_dayOf wsX0_dayOf) := goodIn_app (goodIn_of _ (by decide +kernel)) ggX0_yearsBehind_X0_dayOf
theorem dX0_yearsBehind_0 : decode cX0_yearsBehind 0 = .ok (.iload_n 0, 1) := by decide +kernel
theorem dX0_yearsBehind_1 : decode cX0_yearsBehind 1 = .ok (.iload_n 1, 1) := by decide +kernel
theorem dX0_yearsBehind_2 : decode cX0_yearsBehind 2 = .ok (.iconst 0, 1) := by decide +kernel
theorem dX0_yearsBehind_3 : decode cX0_yearsBehind 3 = .ok (.invokestatic 51, 3) := by decide +kernel
theorem dX0_yearsBehind_6 : decode cX0_yearsBehind 6 = .ok (.istore_n 3, 1) := by decide +kernel
theorem dX0_yearsBehind_7 : decode cX0_yearsBehind 7 = .ok (.iload_n 3, 1) := by decide +kernel
theorem dX0_yearsBehind_8 : decode cX0_yearsBehind 8 = .ok (.iconst (-1), 1) := by decide +kernel
theorem dX0_yearsBehind_9 : decode cX0_yearsBehind 9 = .ok (.if_icmp .eq 13, 3) := by decide +kernel
theorem dX0_yearsBehind_12 : decode cX0_yearsBehind 12 = .ok (.iload_n 2, 1) := by decide +kernel
theorem dX0_yearsBehind_13 : decode cX0_yearsBehind 13 = .ok (.ifCond .lt 9, 3) := by decide +kernel
theorem dX0_yearsBehind_16 : decode cX0_yearsBehind 16 = .ok (.iload_n 2, 1) := by decide +kernel
theorem dX0_yearsBehind_17 : decode cX0_yearsBehind 17 = .ok (.bipush 100, 2) := by decide +kernel
theorem dX0_yearsBehind_19 : decode cX0_yearsBehind 19 = .ok (.if_icmp .le 5, 3) := by decide +kernel
theorem dX0_yearsBehind_22 : decode cX0_yearsBehind 22 = .ok (.iconst (-1), 1) := by decide +kernel
theorem dX0_yearsBehind_23 : decode cX0_yearsBehind 23 = .ok (.ireturn, 1) := by decide +kernel
theorem dX0_yearsBehind_24 : decode cX0_yearsBehind 24 = .ok (.iload_n 0, 1) := by decide +kernel
theorem dX0_yearsBehind_25 : decode cX0_yearsBehind 25 = .ok (.iload_n 1, 1) := by decide +kernel
theorem dX0_yearsBehind_26 : decode cX0_yearsBehind 26 = .ok (.iconst 1, 1) := by decide +kernel
theorem dX0_yearsBehind_27 : decode cX0_yearsBehind 27 = .ok (.invokestatic 51, 3) := by decide +kernel
theorem dX0_yearsBehind_30 : decode cX0_yearsBehind 30 = .ok (.istore 4, 2) := by decide +kernel
theorem dX0_yearsBehind_32 : decode cX0_yearsBehind 32 = .ok (.iload_n 0, 1) := by decide +kernel
theorem dX0_yearsBehind_33 : decode cX0_yearsBehind 33 = .ok (.iload_n 1, 1) := by decide +kernel
theorem dX0_yearsBehind_34 : decode cX0_yearsBehind 34 = .ok (.iconst 2, 1) := by decide +kernel
theorem dX0_yearsBehind_35 : decode cX0_yearsBehind 35 = .ok (.invokestatic 51, 3) := by decide +kernel
theorem dX0_yearsBehind_38 : decode cX0_yearsBehind 38 = .ok (.istore 5, 2) := by decide +kernel
theorem dX0_yearsBehind_40 : decode cX0_yearsBehind 40 = .ok (.iload 4, 2) := by decide +kernel
theorem dX0_yearsBehind_42 : decode cX0_yearsBehind 42 = .ok (.iconst 2, 1) := by decide +kernel
theorem dX0_yearsBehind_43 : decode cX0_yearsBehind 43 = .ok (.if_icmp .ne 27, 3) := by decide +kernel
theorem dX0_yearsBehind_46 : decode cX0_yearsBehind 46 = .ok (.iload 5, 2) := by decide +kernel
theorem dX0_yearsBehind_48 : decode cX0_yearsBehind 48 = .ok (.iload_n 0, 1) := by decide +kernel
theorem dX0_yearsBehind_49 : decode cX0_yearsBehind 49 = .ok (.iload_n 3, 1) := by decide +kernel
theorem dX0_yearsBehind_50 : decode cX0_yearsBehind 50 = .ok (.iload_n 2, 1) := by decide +kernel
theorem dX0_yearsBehind_51 : decode cX0_yearsBehind 51 = .ok (.iadd, 1) := by decide +kernel
theorem dX0_yearsBehind_52 : decode cX0_yearsBehind 52 = .ok (.iload 4, 2) := by decide +kernel
theorem dX0_yearsBehind_54 : decode cX0_yearsBehind 54 = .ok (.invokestatic 34, 3) := by decide +kernel
theorem dX0_yearsBehind_57 : decode cX0_yearsBehind 57 = .ok (.if_icmp .le 13, 3) := by decide +kernel
theorem dX0_yearsBehind_60 : decode cX0_yearsBehind 60 = .ok (.iload_n 0, 1) := by decide +kernel
theorem dX0_yearsBehind_61 : decode cX0_yearsBehind 61 = .ok (.iload_n 3, 1) := by decide +kernel
theorem dX0_yearsBehind_62 : decode cX0_yearsBehind 62 = .ok (.iload_n 2, 1) := by decide +kernel
theorem dX0_yearsBehind_63 : decode cX0_yearsBehind 63 = .ok (.iadd, 1) := by decide +kernel
theorem dX0_yearsBehind_64 : decode cX0_yearsBehind 64 = .ok (.iconst 3, 1) := by decide +kernel
theorem dX0_yearsBehind_65 : decode cX0_yearsBehind 65 = .ok (.iconst 1, 1) := by decide +kernel
theorem dX0_yearsBehind_66 : decode cX0_yearsBehind 66 = .ok (.invokestatic 54, 3) := by decide +kernel
theorem dX0_yearsBehind_69 : decode cX0_yearsBehind 69 = .ok (.ireturn, 1) := by decide +kernel
theorem dX0_yearsBehind_70 : decode cX0_yearsBehind 70 = .ok (.iload_n 0, 1) := by decide +kernel
theorem dX0_yearsBehind_71 : decode cX0_yearsBehind 71 = .ok (.iload_n 3, 1) := by decide +kernel
theorem dX0_yearsBehind_72 : decode cX0_yearsBehind 72 = .ok (.iload_n 2, 1) := by decide +kernel
theorem dX0_yearsBehind_73 : decode cX0_yearsBehind 73 = .ok (.iadd, 1) := by decide +kernel
theorem dX0_yearsBehind_74 : decode cX0_yearsBehind 74 = .ok (.iload 4, 2) := by decide +kernel
theorem dX0_yearsBehind_76 : decode cX0_yearsBehind 76 = .ok (.iload 5, 2) := by decide +kernel
theorem dX0_yearsBehind_78 : decode cX0_yearsBehind 78 = .ok (.invokestatic 54, 3) := by decide +kernel
theorem dX0_yearsBehind_81 : decode cX0_yearsBehind 81 = .ok (.ireturn, 1) := by decide +kernel
set_option maxRecDepth 20000 in
theorem ggX1_init_X4_init : GoodIn wsX1_init wsX4_init := goodIn_r _ [9, 10, 2, 3, 11, 12, 13, 14, 15, 16] (by decide +kernel) (by decide +kernel)
set_option maxRecDepth 20000 in
theorem gX1_init_X4_init_n11 : GoodIn wsX1_init (wsX4_init) := ggX1_init_X4_init
theorem dX1_init_0 : decode cX1_init 0 = .ok (.aload_n 0, 1) := by decide +kernel
theorem dX1_init_1 : decode cX1_init 1 = .ok (.invokespecial 3, 3) := by decide +kernel
theorem dX1_init_4 : decode cX1_init 4 = .ok (.aload_n 0, 1) := by decide +kernel
theorem dX1_init_5 : decode cX1_init 5 = .ok (.new 9, 3) := by decide +kernel
theorem dX1_init_8 : decode cX1_init 8 = .ok (.dup, 1) := by decide +kernel
theorem dX1_init_9 : decode cX1_init 9 = .ok (.invokespecial 11, 3) := by decide +kernel
theorem dX1_init_12 : decode cX1_init 12 = .ok (.putfield 12, 3) := by decide +kernel
theorem dX1_init_15 : decode cX1_init 15 = .ok (.return_, 1) := by decide +kernel
theorem dX1_begin_0 : decode cX1_begin 0 = .ok (.aload_n 0, 1) := by decide +kernel
theorem dX1_begin_1 : decode cX1_begin 1 = .ok (.iload_n 1, 1) := by decide +kernel
theorem dX1_begin_2 : decode cX1_begin 2 = .ok (.putfield 18, 3) := by decide +kernel
theorem dX1_begin_5 : decode cX1_begin 5 = .ok (.aload_n 0, 1) := by decide +kernel
theorem dX1_begin_6 : decode cX1_begin 6 = .ok (.iload_n 2, 1) := by decide +kernel
theorem dX1_begin_7 : decode cX1_begin 7 = .ok (.putfield 22, 3) := by decide +kernel
theorem dX1_begin_10 : decode cX1_begin 10 = .ok (.aload_n 0, 1) := by decide +kernel
theorem dX1_begin_11 : decode cX1_begin 11 = .ok (.iload_n 3, 1) := by decide +kernel
theorem dX1_begin_12 : decode cX1_begin 12 = .ok (.putfield 25, 3) := by decide +kernel
theorem dX1_begin_15 : decode cX1_begin 15 = .ok (.aload_n 0, 1) := by decide +kernel
theorem dX1_begin_16 : decode cX1_begin 16 = .ok (.iconst 1, 1) := by decide +kernel
theorem dX1_begin_17 : decode cX1_begin 17 = .ok (.putfield 28, 3) := by decide +kernel
theorem dX1_begin_20 : decode cX1_begin 20 = .ok (.aload_n 0, 1) := by decide +kernel
theorem dX1_begin_21 : decode cX1_begin 21 = .ok (.iconst (-1), 1) := by decide +kernel
theorem dX1_begin_22 : decode cX1_begin 22 = .ok (.putfield 32, 3) := by decide +kernel
theorem dX1_begin_25 : decode cX1_begin 25 = .ok (.return_, 1) := by decide +kernel
theorem dX1_setBehind_0 : decode cX1_setBehind 0 = .ok (.aload_n 0, 1) := by decide +kernel
theorem dX1_setBehind_1 : decode cX1_setBehind 1 = .ok (.iload_n 1, 1) := by decide +kernel
theorem dX1_setBehind_2 : decode cX1_setBehind 2 = .ok (.putfield 35, 3) := by decide +kernel
theorem dX1_setBehind_5 : decode cX1_setBehind 5 = .ok (.aload_n 0, 1) := by decide +kernel
theorem dX1_setBehind_6 : decode cX1_setBehind 6 = .ok (.iload_n 2, 1) := by decide +kernel
theorem dX1_setBehind_7 : decode cX1_setBehind 7 = .ok (.putfield 38, 3) := by decide +kernel
theorem dX1_setBehind_10 : decode cX1_setBehind 10 = .ok (.aload_n 0, 1) := by decide +kernel
theorem dX1_setBehind_11 : decode cX1_setBehind 11 = .ok (.iload_n 3, 1) := by decide +kernel
theorem dX1_setBehind_12 : decode cX1_setBehind 12 = .ok (.putfield 41, 3) := by decide +kernel
theorem dX1_setBehind_15 : decode cX1_setBehind 15 = .ok (.return_, 1) := by decide +kernel
set_option maxRecDepth 20000 in
theorem ggX2_init_X4_init : GoodIn wsX2_init wsX4_init := goodIn_r _ [18, 19, 2, 3, 4, 20, 21, 36, 37, 38] (by decide +kernel) (by decide +kernel)
set_option maxRecDepth 20000 in
theorem gX2_init_X4_init_n24 : GoodIn wsX2_init (wsX4_init) := ggX2_init_X4_init
theorem dX2_init_0 : decode cX2_init 0 = .ok (.aload_n 0, 1) := by decide +kernel
theorem dX2_init_1 : decode cX2_init 1 = .ok (.invokespecial 3, 3) := by decide +kernel
theorem dX2_init_4 : decode cX2_init 4 = .ok (.aload_n 0, 1) := by decide +kernel
theorem dX2_init_5 : decode cX2_init 5 = .ok (.bipush 6, 2) := by decide +kernel
theorem dX2_init_7 : decode cX2_init 7 = .ok (.newarray .int, 2) := by decide +kernel
theorem dX2_init_9 : decode cX2_init 9 = .ok (.putfield 9, 3) := by decide +kernel
theorem dX2_init_12 : decode cX2_init 12 = .ok (.aload_n 0, 1) := by decide +kernel
theorem dX2_init_13 : decode cX2_init 13 = .ok (.bipush 6, 2) := by decide +kernel
theorem dX2_init_15 : decode cX2_init 15 = .ok (.newarray .int, 2) := by decide +kernel
theorem dX2_init_17 : decode cX2_init 17 = .ok (.putfield 15, 3) := by decide +kernel
theorem dX2_init_20 : decode cX2_init 20 = .ok (.aload_n 0, 1) := by decide +kernel
theorem dX2_init_21 : decode cX2_init 21 = .ok (.bipush 6, 2) := by decide +kernel
theorem dX2_init_23 : decode cX2_init 23 = .ok (.anewarray 18, 3) := by decide +kernel
theorem dX2_init_26 : decode cX2_init 26 = .ok (.putfield 20, 3) := by decide +kernel
theorem dX2_init_29 : decode cX2_init 29 = .ok (.aload_n 0, 1) := by decide +kernel
theorem dX2_init_30 : decode cX2_init 30 = .ok (.new 18, 3) := by decide +kernel
theorem dX2_init_33 : decode cX2_init 33 = .ok (.dup, 1) := by decide +kernel
theorem dX2_init_34 : decode cX2_init 34 = .ok (.invokespecial 24, 3) := by decide +kernel
theorem dX2_init_37 : decode cX2_init 37 = .ok (.putfield 25, 3) := by decide +kernel
theorem dX2_init_40 : decode cX2_init 40 = .ok (.aload_n 0, 1) := by decide +kernel
theorem dX2_init_41 : decode cX2_init 41 = .ok (.new 18, 3) := by decide +kernel
theorem dX2_init_44 : decode cX2_init 44 = .ok (.dup, 1) := by decide +kernel
theorem dX2_init_45 : decode cX2_init 45 = .ok (.invokespecial 24, 3) := by decide +kernel
theorem dX2_init_48 : decode cX2_init 48 = .ok (.putfield 29, 3) := by decide +kernel
theorem dX2_init_51 : decode cX2_init 51 = .ok (.aload_n 0, 1) := by decide +kernel
theorem dX2_init_52 : decode cX2_init 52 = .ok (.bipush 6, 2) := by decide +kernel
theorem dX2_init_54 : decode cX2_init 54 = .ok (.bipush 6, 2) := by decide +kernel
theorem dX2_init_56 : decode cX2_init 56 = .ok (.multianewarray 32 2, 4) := by decide +kernel
theorem dX2_init_60 : decode cX2_init 60 = .ok (.putfield 34, 3) := by decide +kernel
theorem dX2_init_63 : decode cX2_init 63 = .ok (.aload_n 0, 1) := by decide +kernel
theorem dX2_init_64 : decode cX2_init 64 = .ok (.bipush 7, 2) := by decide +kernel
theorem dX2_init_66 : decode cX2_init 66 = .ok (.bipush 6, 2) := by decide +kernel
theorem dX2_init_68 : decode cX2_init 68 = .ok (.multianewarray 32 2, 4) := by decide +kernel
theorem dX2_init_72 : decode cX2_init 72 = .ok (.putfield 37, 3) := by decide +kernel
theorem dX2_init_75 : decode cX2_init 75 = .ok (.aload_n 0, 1) := by decide +kernel
theorem dX2_init_76 : decode cX2_init 76 = .ok (.bipush 7, 2) := by decide +kernel
theorem dX2_init_78 : decode cX2_init 78 = .ok (.bipush 6, 2) := by decide +kernel
theorem dX2_init_80 : decode cX2_init 80 = .ok (.multianewarray 32 2, 4) := by decide +kernel
theorem dX2_init_84 : decode cX2_init 84 = .ok (.putfield 40, 3) := by decide +kernel
theorem dX2_init_87 : decode cX2_init 87 = .ok (.iconst 0, 1) := by decide +kernel
theorem dX2_init_88 : decode cX2_init 88 = .ok (.istore_n 1, 1) := by decide +kernel
theorem dX2_init_89 : decode cX2_init 89 = .ok (.iload_n 1, 1) := by decide +kernel
theorem dX2_init_90 : decode cX2_init 90 = .ok (.bipush 6, 2) := by decide +kernel
theorem dX2_init_92 : decode cX2_init 92 = .ok (.if_icmp .ge 22, 3) := by decide +kernel
theorem dX2_init_95 : decode cX2_init 95 = .ok (.aload_n 0, 1) := by decide +kernel
theorem dX2_init_96 : decode cX2_init 96 = .ok (.getfield 20, 3) := by decide +kernel
theorem dX2_init_99 : decode cX2_init 99 = .ok (.iload_n 1, 1) := by decide +kernel
theorem dX2_init_100 : decode cX2_init 100 = .ok (.new 18, 3) := by decide +kernel
theorem dX2_init_103 : decode cX2_init 103 = .ok (.dup, 1) := by decide +kernel
theorem dX2_init_104 : decode cX2_init 104 = .ok (.invokespecial 24, 3) := by decide +kernel
theorem dX2_init_107 : decode cX2_init 107 = .ok (.aastore, 1) := by decide +kernel
theorem dX2_init_108 : decode cX2_init 108 = .ok (.iinc 1 1, 3) := by decide +kernel
theorem dX2_init_111 : decode cX2_init 111 = .ok (.goto (-22), 3) := by decide +kernel
theorem dX2_init_114 : decode cX2_init 114 = .ok (.return_, 1) := by decide +kernel
theorem dX2_begin_0 : decode cX2_begin 0 = .ok (.aload_n 0, 1) := by decide +kernel
theorem dX2_begin_1 : decode cX2_begin 1 = .ok (.iload_n 1, 1) := by decide +kernel
theorem dX2_begin_2 : decode cX2_begin 2 = .ok (.bipush 6, 2) := by decide +kernel
theorem dX2_begin_4 : decode cX2_begin 4 = .ok (.invokestatic 43, 3) := by decide +kernel
theorem dX2_begin_7 : decode cX2_begin 7 = .ok (.putfield 49, 3) := by decide +kernel
theorem dX2_begin_10 : decode cX2_begin 10 = .ok (.aload_n 0, 1) := by decide +kernel
theorem dX2_begin_11 : decode cX2_begin 11 = .ok (.iconst 0, 1) := by decide +kernel
theorem dX2_begin_12 : decode cX2_begin 12 = .ok (.putfield 53, 3) := by decide +kernel
theorem dX2_begin_15 : decode cX2_begin 15 = .ok (.aload_n 0, 1) := by decide +kernel
theorem dX2_begin_16 : decode cX2_begin 16 = .ok (.iconst 0, 1) := by decide +kernel
theorem dX2_begin_17 : decode cX2_begin 17 = .ok (.putfield 56, 3) := by decide +kernel
theorem dX2_begin_20 : decode cX2_begin 20 = .ok (.return_, 1) := by decide +kernel
set_option maxRecDepth 20000 in
theorem ggX2_lay_X2_clearTable : GoodIn wsX2_lay wsX2_clearTable := goodIn_r _ [9, 10, 11, 12, 13, 14, 15, 16, 17, 18, 19, 20, 21, 22, 23, 24, 25, 26, 27, 28, 29, 30, 31, 32, 33, 73, 74, 75, 76, 77, 78, 79, 80, 81, 82, 83, 84, 85, 86, 87, 88, 89] (by decide +kernel) (by decide +kernel)
set_option maxRecDepth 20000 in
theorem gX2_lay_X2_clearTable : GoodIn wsX2_lay (wsV RX2 60 RX2 yX2_clearTable wsX2_clearTable) := goodIn_app (goodIn_of _ (by decide +kernel)) ggX2_lay_X2_clearTable
set_option maxRecDepth 20000 in
theorem ggX2_lay_X2_layBehind : GoodIn wsX2_lay wsX2_layBehind := goodIn_r _ [37, 2, 38, 13, 39, 40, 30, 26, 31, 41, 64, 65, 66, 67, 68, 69, 70, 71, 72, 73, 74, 75, 76, 77, 78, 79, 80, 81, 82, 83, 84, 85, 86] (by decide +kernel) (by decide +kernel)
set_option maxRecDepth 20000 in
theorem gX2_lay_X2_layBehind : GoodIn wsX2_lay (wsV RX2 68 RX2 yX2_layBehind wsX2_layBehind) := goodIn_app (goodIn_of _ (by decide +kernel)) ggX2_lay_X2_layBehind
set_option maxRecDepth 20000 in
theorem ggX2_lay_X2_keepCommon : GoodIn wsX2_lay wsX2_keepCommon := goodIn_r _ [45, 11, 46, 47, 48, 49, 17, 50, 19, 32, 24, 25, 26, 27, 33, 29, 30, 31, 51, 15, 16, 18, 52, 21, 22, 23, 28, 73, 74, 75, 76, 77, 78, 79, 80, 81, 82, 83, 84, 85, 86, 87, 88, 89] (by decide +kernel) (by decide +kernel)
set_option maxRecDepth 20000 in
theorem gX2_lay_X2_keepCommon : GoodIn wsX2_lay (wsV RX2 77 RX2 yX2_keepCommon wsX2_keepCommon) := goodIn_app (goodIn_of _ (by decide +kernel)) ggX2_lay_X2_keepCommon
set_option maxRecDepth 20000 in
theorem ggX2_lay_X2_closeApart : GoodIn wsX2_lay wsX2_closeApart := goodIn_r _ [56, 10, 13, 40, 30, 26, 31, 73, 74, 75, 76, 77, 78, 79, 80, 81, 82, 83, 84, 85, 86] (by decide +kernel) (by decide +kernel)
set_option maxRecDepth 20000 in
theorem gX2_lay_X2_closeApart : GoodIn wsX2_lay (wsV RX2 81 RX2 yX2_closeApart wsX2_closeApart) := goodIn_app (goodIn_of _ (by decide +kernel)) ggX2_lay_X2_closeApart
set_option maxRecDepth 20000 in
theorem ggX2_lay_X2_boundDays : GoodIn wsX2_lay wsX2_boundDays := goodIn_r _ [60, 10, 61, 62, 12, 13, 63, 25, 26, 27, 40, 30, 31, 73, 74, 75, 76, 77, 78, 79, 80, 81, 82, 83, 84, 85, 86] (by decide +kernel) (by decide +kernel)
set_option maxRecDepth 20000 in
theorem gX2_lay_X2_boundDays : GoodIn wsX2_lay (wsV RX2 88 RX2 yX2_boundDays wsX2_boundDays) := goodIn_app (goodIn_of _ (by decide +kernel)) ggX2_lay_X2_boundDays
theorem dX2_lay_0 : decode cX2_lay 0 = .ok (.aload_n 0, 1) := by decide +kernel
theorem dX2_lay_1 : decode cX2_lay 1 = .ok (.invokevirtual 60, 3) := by decide +kernel
theorem dX2_lay_4 : decode cX2_lay 4 = .ok (.iconst 0, 1) := by decide +kernel
theorem dX2_lay_5 : decode cX2_lay 5 = .ok (.istore_n 3, 1) := by decide +kernel
theorem dX2_lay_6 : decode cX2_lay 6 = .ok (.iload_n 3, 1) := by decide +kernel
theorem dX2_lay_7 : decode cX2_lay 7 = .ok (.aload_n 1, 1) := by decide +kernel
theorem dX2_lay_8 : decode cX2_lay 8 = .ok (.arraylength, 1) := by decide +kernel
theorem dX2_lay_9 : decode cX2_lay 9 = .ok (.if_icmp .ge 57, 3) := by decide +kernel
theorem dX2_lay_12 : decode cX2_lay 12 = .ok (.iload_n 2, 1) := by decide +kernel
theorem dX2_lay_13 : decode cX2_lay 13 = .ok (.iload_n 3, 1) := by decide +kernel
theorem dX2_lay_14 : decode cX2_lay 14 = .ok (.ishr, 1) := by decide +kernel
theorem dX2_lay_15 : decode cX2_lay 15 = .ok (.iconst 1, 1) := by decide +kernel
theorem dX2_lay_16 : decode cX2_lay 16 = .ok (.iand, 1) := by decide +kernel
theorem dX2_lay_17 : decode cX2_lay 17 = .ok (.ifCond .ne 6, 3) := by decide +kernel
theorem dX2_lay_20 : decode cX2_lay 20 = .ok (.goto 40, 3) := by decide +kernel
theorem dX2_lay_23 : decode cX2_lay 23 = .ok (.aload_n 1, 1) := by decide +kernel
theorem dX2_lay_24 : decode cX2_lay 24 = .ok (.iload_n 3, 1) := by decide +kernel
theorem dX2_lay_25 : decode cX2_lay 25 = .ok (.aaload, 1) := by decide +kernel
theorem dX2_lay_26 : decode cX2_lay 26 = .ok (.getfield 63, 3) := by decide +kernel
theorem dX2_lay_29 : decode cX2_lay 29 = .ok (.bipush 6, 2) := by decide +kernel
theorem dX2_lay_31 : decode cX2_lay 31 = .ok (.if_icmp .ne 13, 3) := by decide +kernel
theorem dX2_lay_34 : decode cX2_lay 34 = .ok (.aload_n 0, 1) := by decide +kernel
theorem dX2_lay_35 : decode cX2_lay 35 = .ok (.aload_n 1, 1) := by decide +kernel
theorem dX2_lay_36 : decode cX2_lay 36 = .ok (.iload_n 3, 1) := by decide +kernel
theorem dX2_lay_37 : decode cX2_lay 37 = .ok (.aaload, 1) := by decide +kernel
theorem dX2_lay_38 : decode cX2_lay 38 = .ok (.invokevirtual 68, 3) := by decide +kernel
theorem dX2_lay_41 : decode cX2_lay 41 = .ok (.goto 19, 3) := by decide +kernel
theorem dX2_lay_44 : decode cX2_lay 44 = .ok (.aload_n 0, 1) := by decide +kernel
theorem dX2_lay_45 : decode cX2_lay 45 = .ok (.aload_n 1, 1) := by decide +kernel
theorem dX2_lay_46 : decode cX2_lay 46 = .ok (.iload_n 3, 1) := by decide +kernel
theorem dX2_lay_47 : decode cX2_lay 47 = .ok (.aaload, 1) := by decide +kernel
theorem dX2_lay_48 : decode cX2_lay 48 = .ok (.getfield 72, 3) := by decide +kernel
theorem dX2_lay_51 : decode cX2_lay 51 = .ok (.aload_n 1, 1) := by decide +kernel
theorem dX2_lay_52 : decode cX2_lay 52 = .ok (.iload_n 3, 1) := by decide +kernel
theorem dX2_lay_53 : decode cX2_lay 53 = .ok (.aaload, 1) := by decide +kernel
theorem dX2_lay_54 : decode cX2_lay 54 = .ok (.getfield 75, 3) := by decide +kernel
theorem dX2_lay_57 : decode cX2_lay 57 = .ok (.invokevirtual 77, 3) := by decide +kernel
theorem dX2_lay_60 : decode cX2_lay 60 = .ok (.iinc 3 1, 3) := by decide +kernel
theorem dX2_lay_63 : decode cX2_lay 63 = .ok (.goto (-57), 3) := by decide +kernel
theorem dX2_lay_66 : decode cX2_lay 66 = .ok (.aload_n 0, 1) := by decide +kernel
theorem dX2_lay_67 : decode cX2_lay 67 = .ok (.aload_n 0, 1) := by decide +kernel
theorem dX2_lay_68 : decode cX2_lay 68 = .ok (.invokevirtual 81, 3) := by decide +kernel
theorem dX2_lay_71 : decode cX2_lay 71 = .ok (.putfield 85, 3) := by decide +kernel
theorem dX2_lay_74 : decode cX2_lay 74 = .ok (.aload_n 0, 1) := by decide +kernel
theorem dX2_lay_75 : decode cX2_lay 75 = .ok (.invokevirtual 88, 3) := by decide +kernel
theorem dX2_lay_78 : decode cX2_lay 78 = .ok (.return_, 1) := by decide +kernel
set_option maxRecDepth 20000 in
theorem ggX2_clearTable_X4_clear : GoodIn wsX2_clearTable wsX4_clear := goodIn_r _ [9, 10, 39, 40, 41] (by decide +kernel) (by decide +kernel)
set_option maxRecDepth 20000 in
theorem gX2_clearTable_X4_clear : GoodIn wsX2_clearTable (wsV RX2 91 RX4 yX4_clear wsX4_clear) := goodIn_app (goodIn_of _ (by decide +kernel)) ggX2_clearTable_X4_clear
set_option maxRecDepth 20000 in
theorem ggX2_clearTable_X4_add : GoodIn wsX2_clearTable wsX4_add := goodIn_r _ [14, 15, 16, 17, 18, 19, 20, 21, 22, 10, 23, 24, 39, 40, 41] (by decide +kernel) (by decide +kernel)
set_option maxRecDepth 20000 in
theorem gX2_clearTable_X4_add : GoodIn wsX2_clearTable (wsV RX2 95 RX4 yX4_add wsX4_add) := goodIn_app (goodIn_of _ (by decide +kernel)) ggX2_clearTable_X4_add
theorem dX2_clearTable_0 : decode cX2_clearTable 0 = .ok (.iconst 0, 1) := by decide +kernel
theorem dX2_clearTable_1 : decode cX2_clearTable 1 = .ok (.istore_n 1, 1) := by decide +kernel
theorem dX2_clearTable_2 : decode cX2_clearTable 2 = .ok (.iload_n 1, 1) := by decide +kernel
theorem dX2_clearTable_3 : decode cX2_clearTable 3 = .ok (.aload_n 0, 1) := by decide +kernel
theorem dX2_clearTable_4 : decode cX2_clearTable 4 = .ok (.getfield 49, 3) := by decide +kernel
theorem dX2_clearTable_7 : decode cX2_clearTable 7 = .ok (.if_icmp .ge 65, 3) := by decide +kernel
theorem dX2_clearTable_10 : decode cX2_clearTable 10 = .ok (.aload_n 0, 1) := by decide +kernel
theorem dX2_clearTable_11 : decode cX2_clearTable 11 = .ok (.getfield 20, 3) := by decide +kernel
theorem dX2_clearTable_14 : decode cX2_clearTable 14 = .ok (.iload_n 1, 1) := by decide +kernel
theorem dX2_clearTable_15 : decode cX2_clearTable 15 = .ok (.aaload, 1) := by decide +kernel
theorem dX2_clearTable_16 : decode cX2_clearTable 16 = .ok (.invokevirtual 91, 3) := by decide +kernel
theorem dX2_clearTable_19 : decode cX2_clearTable 19 = .ok (.aload_n 0, 1) := by decide +kernel
theorem dX2_clearTable_20 : decode cX2_clearTable 20 = .ok (.getfield 20, 3) := by decide +kernel
theorem dX2_clearTable_23 : decode cX2_clearTable 23 = .ok (.iload_n 1, 1) := by decide +kernel
theorem dX2_clearTable_24 : decode cX2_clearTable 24 = .ok (.aaload, 1) := by decide +kernel
theorem dX2_clearTable_25 : decode cX2_clearTable 25 = .ok (.iconst 0, 1) := by decide +kernel
theorem dX2_clearTable_26 : decode cX2_clearTable 26 = .ok (.ldc 94, 2) := by decide +kernel
theorem dX2_clearTable_28 : decode cX2_clearTable 28 = .ok (.invokevirtual 95, 3) := by decide +kernel
theorem dX2_clearTable_31 : decode cX2_clearTable 31 = .ok (.iconst 0, 1) := by decide +kernel
theorem dX2_clearTable_32 : decode cX2_clearTable 32 = .ok (.istore_n 2, 1) := by decide +kernel
theorem dX2_clearTable_33 : decode cX2_clearTable 33 = .ok (.iload_n 2, 1) := by decide +kernel
theorem dX2_clearTable_34 : decode cX2_clearTable 34 = .ok (.aload_n 0, 1) := by decide +kernel
theorem dX2_clearTable_35 : decode cX2_clearTable 35 = .ok (.getfield 49, 3) := by decide +kernel
theorem dX2_clearTable_38 : decode cX2_clearTable 38 = .ok (.if_icmp .ge 28, 3) := by decide +kernel
theorem dX2_clearTable_41 : decode cX2_clearTable 41 = .ok (.aload_n 0, 1) := by decide +kernel
theorem dX2_clearTable_42 : decode cX2_clearTable 42 = .ok (.getfield 34, 3) := by decide +kernel
theorem dX2_clearTable_45 : decode cX2_clearTable 45 = .ok (.iload_n 1, 1) := by decide +kernel
theorem dX2_clearTable_46 : decode cX2_clearTable 46 = .ok (.aaload, 1) := by decide +kernel
theorem dX2_clearTable_47 : decode cX2_clearTable 47 = .ok (.iload_n 2, 1) := by decide +kernel
theorem dX2_clearTable_48 : decode cX2_clearTable 48 = .ok (.iload_n 1, 1) := by decide +kernel
theorem dX2_clearTable_49 : decode cX2_clearTable 49 = .ok (.iload_n 2, 1) := by decide +kernel
theorem dX2_clearTable_50 : decode cX2_clearTable 50 = .ok (.if_icmp .ne 7, 3) := by decide +kernel
theorem dX2_clearTable_53 : decode cX2_clearTable 53 = .ok (.iconst 0, 1) := by decide +kernel
theorem dX2_clearTable_54 : decode cX2_clearTable 54 = .ok (.goto 5, 3) := by decide +kernel
theorem dX2_clearTable_57 : decode cX2_clearTable 57 = .ok (.ldc 94, 2) := by decide +kernel
theorem dX2_clearTable_59 : decode cX2_clearTable 59 = .ok (.iastore, 1) := by decide +kernel
theorem dX2_clearTable_60 : decode cX2_clearTable 60 = .ok (.iinc 2 1, 3) := by decide +kernel
theorem dX2_clearTable_63 : decode cX2_clearTable 63 = .ok (.goto (-30), 3) := by decide +kernel
theorem dX2_clearTable_66 : decode cX2_clearTable 66 = .ok (.iinc 1 1, 3) := by decide +kernel
theorem dX2_clearTable_69 : decode cX2_clearTable 69 = .ok (.goto (-67), 3) := by decide +kernel
theorem dX2_clearTable_72 : decode cX2_clearTable 72 = .ok (.return_, 1) := by decide +kernel
theorem dX2_layBehind_0 : decode cX2_layBehind 0 = .ok (.aload_n 1, 1) := by decide +kernel
theorem dX2_layBehind_1 : decode cX2_layBehind 1 = .ok (.getfield 72, 3) := by decide +kernel
theorem dX2_layBehind_4 : decode cX2_layBehind 4 = .ok (.istore_n 2, 1) := by decide +kernel
theorem dX2_layBehind_5 : decode cX2_layBehind 5 = .ok (.aload_n 1, 1) := by decide +kernel
theorem dX2_layBehind_6 : decode cX2_layBehind 6 = .ok (.getfield 99, 3) := by decide +kernel
theorem dX2_layBehind_9 : decode cX2_layBehind 9 = .ok (.istore_n 3, 1) := by decide +kernel
theorem dX2_layBehind_10 : decode cX2_layBehind 10 = .ok (.aload_n 0, 1) := by decide +kernel
theorem dX2_layBehind_11 : decode cX2_layBehind 11 = .ok (.getfield 34, 3) := by decide +kernel
theorem dX2_layBehind_14 : decode cX2_layBehind 14 = .ok (.iload_n 3, 1) := by decide +kernel
theorem dX2_layBehind_15 : decode cX2_layBehind 15 = .ok (.aaload, 1) := by decide +kernel
theorem dX2_layBehind_16 : decode cX2_layBehind 16 = .ok (.iload_n 2, 1) := by decide +kernel
theorem dX2_layBehind_17 : decode cX2_layBehind 17 = .ok (.aload_n 0, 1) := by decide +kernel
theorem dX2_layBehind_18 : decode cX2_layBehind 18 = .ok (.getfield 34, 3) := by decide +kernel
theorem dX2_layBehind_21 : decode cX2_layBehind 21 = .ok (.iload_n 3, 1) := by decide +kernel
theorem dX2_layBehind_22 : decode cX2_layBehind 22 = .ok (.aaload, 1) := by decide +kernel
theorem dX2_layBehind_23 : decode cX2_layBehind 23 = .ok (.iload_n 2, 1) := by decide +kernel
theorem dX2_layBehind_24 : decode cX2_layBehind 24 = .ok (.iaload, 1) := by decide +kernel
theorem dX2_layBehind_25 : decode cX2_layBehind 25 = .ok (.aload_n 1, 1) := by decide +kernel
theorem dX2_layBehind_26 : decode cX2_layBehind 26 = .ok (.getfield 102, 3) := by decide +kernel
theorem dX2_layBehind_29 : decode cX2_layBehind 29 = .ok (.invokestatic 43, 3) := by decide +kernel
theorem dX2_layBehind_32 : decode cX2_layBehind 32 = .ok (.iastore, 1) := by decide +kernel
theorem dX2_layBehind_33 : decode cX2_layBehind 33 = .ok (.aload_n 0, 1) := by decide +kernel
theorem dX2_layBehind_34 : decode cX2_layBehind 34 = .ok (.getfield 34, 3) := by decide +kernel
theorem dX2_layBehind_37 : decode cX2_layBehind 37 = .ok (.iload_n 2, 1) := by decide +kernel
theorem dX2_layBehind_38 : decode cX2_layBehind 38 = .ok (.aaload, 1) := by decide +kernel
theorem dX2_layBehind_39 : decode cX2_layBehind 39 = .ok (.iload_n 3, 1) := by decide +kernel
theorem dX2_layBehind_40 : decode cX2_layBehind 40 = .ok (.aload_n 0, 1) := by decide +kernel
theorem dX2_layBehind_41 : decode cX2_layBehind 41 = .ok (.getfield 34, 3) := by decide +kernel
theorem dX2_layBehind_44 : decode cX2_layBehind 44 = .ok (.iload_n 2, 1) := by decide +kernel
theorem dX2_layBehind_45 : decode cX2_layBehind 45 = .ok (.aaload, 1) := by decide +kernel
theorem dX2_layBehind_46 : decode cX2_layBehind 46 = .ok (.iload_n 3, 1) := by decide +kernel
theorem dX2_layBehind_47 : decode cX2_layBehind 47 = .ok (.iaload, 1) := by decide +kernel
theorem dX2_layBehind_48 : decode cX2_layBehind 48 = .ok (.aload_n 1, 1) := by decide +kernel
theorem dX2_layBehind_49 : decode cX2_layBehind 49 = .ok (.getfield 105, 3) := by decide +kernel
theorem dX2_layBehind_52 : decode cX2_layBehind 52 = .ok (.ineg, 1) := by decide +kernel
theorem dX2_layBehind_53 : decode cX2_layBehind 53 = .ok (.invokestatic 43, 3) := by decide +kernel
theorem dX2_layBehind_56 : decode cX2_layBehind 56 = .ok (.iastore, 1) := by decide +kernel
theorem dX2_layBehind_57 : decode cX2_layBehind 57 = .ok (.return_, 1) := by decide +kernel
set_option maxRecDepth 20000 in
theorem ggX2_keepCommon_X4_setToCommon : GoodIn wsX2_keepCommon wsX4_setToCommon := goodIn_r _ [7, 8, 9, 10, 11, 12, 13, 14, 15, 16, 17, 18, 19, 20, 6, 21, 22, 23, 24, 25, 26, 41, 42, 43] (by decide +kernel) (by decide +kernel)
set_option maxRecDepth 20000 in
theorem gX2_keepCommon_X4_setToCommon : GoodIn wsX2_keepCommon (wsV RX2 108 RX4 yX4_setToCommon wsX4_setToCommon) := goodIn_app (goodIn_of _ (by decide +kernel)) ggX2_keepCommon_X4_setToCommon
theorem dX2_keepCommon_0 : decode cX2_keepCommon 0 = .ok (.aload_n 0, 1) := by decide +kernel
theorem dX2_keepCommon_1 : decode cX2_keepCommon 1 = .ok (.getfield 20, 3) := by decide +kernel
theorem dX2_keepCommon_4 : decode cX2_keepCommon 4 = .ok (.iload_n 1, 1) := by decide +kernel
theorem dX2_keepCommon_5 : decode cX2_keepCommon 5 = .ok (.aaload, 1) := by decide +kernel
theorem dX2_keepCommon_6 : decode cX2_keepCommon 6 = .ok (.astore_n 3, 1) := by decide +kernel
theorem dX2_keepCommon_7 : decode cX2_keepCommon 7 = .ok (.aload_n 0, 1) := by decide +kernel
theorem dX2_keepCommon_8 : decode cX2_keepCommon 8 = .ok (.getfield 25, 3) := by decide +kernel
theorem dX2_keepCommon_11 : decode cX2_keepCommon 11 = .ok (.aload_n 3, 1) := by decide +kernel
theorem dX2_keepCommon_12 : decode cX2_keepCommon 12 = .ok (.aload_n 2, 1) := by decide +kernel
theorem dX2_keepCommon_13 : decode cX2_keepCommon 13 = .ok (.invokevirtual 108, 3) := by decide +kernel
theorem dX2_keepCommon_16 : decode cX2_keepCommon 16 = .ok (.aload_n 0, 1) := by decide +kernel
theorem dX2_keepCommon_17 : decode cX2_keepCommon 17 = .ok (.getfield 20, 3) := by decide +kernel
theorem dX2_keepCommon_20 : decode cX2_keepCommon 20 = .ok (.iload_n 1, 1) := by decide +kernel
theorem dX2_keepCommon_21 : decode cX2_keepCommon 21 = .ok (.aload_n 0, 1) := by decide +kernel
theorem dX2_keepCommon_22 : decode cX2_keepCommon 22 = .ok (.getfield 25, 3) := by decide +kernel
theorem dX2_keepCommon_25 : decode cX2_keepCommon 25 = .ok (.aastore, 1) := by decide +kernel
theorem dX2_keepCommon_26 : decode cX2_keepCommon 26 = .ok (.aload_n 0, 1) := by decide +kernel
theorem dX2_keepCommon_27 : decode cX2_keepCommon 27 = .ok (.aload_n 3, 1) := by decide +kernel
theorem dX2_keepCommon_28 : decode cX2_keepCommon 28 = .ok (.putfield 25, 3) := by decide +kernel
theorem dX2_keepCommon_31 : decode cX2_keepCommon 31 = .ok (.return_, 1) := by decide +kernel
set_option maxRecDepth 20000 in
theorem ggX2_find_X4_clear : GoodIn wsX2_find wsX4_clear := goodIn_r _ [7, 8, 50, 51, 52] (by decide +kernel) (by decide +kernel)
set_option maxRecDepth 20000 in
theorem gX2_find_X4_clear : GoodIn wsX2_find (wsV RX2 91 RX4 yX4_clear wsX4_clear) := goodIn_app (goodIn_of _ (by decide +kernel)) ggX2_find_X4_clear
set_option maxRecDepth 20000 in
theorem ggX2_find_X4_add : GoodIn wsX2_find wsX4_add := goodIn_r _ [12, 13, 14, 15, 16, 17, 18, 19, 20, 8, 21, 22, 50, 51, 52] (by decide +kernel) (by decide +kernel)
set_option maxRecDepth 20000 in
theorem gX2_find_X4_add : GoodIn wsX2_find (wsV RX2 95 RX4 yX4_add wsX4_add) := goodIn_app (goodIn_of _ (by decide +kernel)) ggX2_find_X4_add
set_option maxRecDepth 20000 in
theorem ggX2_find_X2_keepCommon : GoodIn wsX2_find wsX2_keepCommon := goodIn_r _ [27, 28, 29, 30, 31, 32, 6, 33, 8, 21, 13, 14, 15, 16, 22, 18, 19, 20, 34, 4, 5, 7, 35, 10, 11, 12, 17, 36, 37, 38, 39, 40, 41, 42, 43, 44, 45, 46, 47, 48, 49, 50, 51, 52] (by decide +kernel) (by decide +kernel)
set_option maxRecDepth 20000 in
theorem gX2_find_X2_keepCommon : GoodIn wsX2_find (wsV RX2 77 RX2 yX2_keepCommon wsX2_keepCommon) := goodIn_app (goodIn_of _ (by decide +kernel)) ggX2_find_X2_keepCommon
theorem dX2_find_0 : decode cX2_find 0 = .ok (.iload_n 1, 1) := by decide +kernel
theorem dX2_find_1 : decode cX2_find 1 = .ok (.ifCond .lt 36, 3) := by decide +kernel
theorem dX2_find_4 : decode cX2_find 4 = .ok (.iload_n 1, 1) := by decide +kernel
theorem dX2_find_5 : decode cX2_find 5 = .ok (.aload_n 0, 1) := by decide +kernel
theorem dX2_find_6 : decode cX2_find 6 = .ok (.getfield 49, 3) := by decide +kernel
theorem dX2_find_9 : decode cX2_find 9 = .ok (.if_icmp .ge 28, 3) := by decide +kernel
theorem dX2_find_12 : decode cX2_find 12 = .ok (.aload_n 0, 1) := by decide +kernel
theorem dX2_find_13 : decode cX2_find 13 = .ok (.getfield 29, 3) := by decide +kernel
theorem dX2_find_16 : decode cX2_find 16 = .ok (.invokevirtual 91, 3) := by decide +kernel
theorem dX2_find_19 : decode cX2_find 19 = .ok (.aload_n 0, 1) := by decide +kernel
theorem dX2_find_20 : decode cX2_find 20 = .ok (.getfield 29, 3) := by decide +kernel
theorem dX2_find_23 : decode cX2_find 23 = .ok (.iload_n 2, 1) := by decide +kernel
theorem dX2_find_24 : decode cX2_find 24 = .ok (.iload_n 2, 1) := by decide +kernel
theorem dX2_find_25 : decode cX2_find 25 = .ok (.invokevirtual 95, 3) := by decide +kernel
theorem dX2_find_28 : decode cX2_find 28 = .ok (.aload_n 0, 1) := by decide +kernel
theorem dX2_find_29 : decode cX2_find 29 = .ok (.iload_n 1, 1) := by decide +kernel
theorem dX2_find_30 : decode cX2_find 30 = .ok (.aload_n 0, 1) := by decide +kernel
theorem dX2_find_31 : decode cX2_find 31 = .ok (.getfield 29, 3) := by decide +kernel
theorem dX2_find_34 : decode cX2_find 34 = .ok (.invokevirtual 77, 3) := by decide +kernel
theorem dX2_find_37 : decode cX2_find 37 = .ok (.return_, 1) := by decide +kernel
