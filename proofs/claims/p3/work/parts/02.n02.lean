theorem dX2_closeApart_0 : decode cX2_closeApart 0 = .ok (.iconst 0, 1) := by decide +kernel
theorem dX2_closeApart_1 : decode cX2_closeApart 1 = .ok (.istore_n 1, 1) := by decide +kernel
theorem dX2_closeApart_2 : decode cX2_closeApart 2 = .ok (.iload_n 1, 1) := by decide +kernel
theorem dX2_closeApart_3 : decode cX2_closeApart 3 = .ok (.aload_n 0, 1) := by decide +kernel
theorem dX2_closeApart_4 : decode cX2_closeApart 4 = .ok (.getfield 49, 3) := by decide +kernel
theorem dX2_closeApart_7 : decode cX2_closeApart 7 = .ok (.if_icmp .ge 106, 3) := by decide +kernel
theorem dX2_closeApart_10 : decode cX2_closeApart 10 = .ok (.iconst 0, 1) := by decide +kernel
theorem dX2_closeApart_11 : decode cX2_closeApart 11 = .ok (.istore_n 2, 1) := by decide +kernel
theorem dX2_closeApart_12 : decode cX2_closeApart 12 = .ok (.iload_n 2, 1) := by decide +kernel
theorem dX2_closeApart_13 : decode cX2_closeApart 13 = .ok (.aload_n 0, 1) := by decide +kernel
theorem dX2_closeApart_14 : decode cX2_closeApart 14 = .ok (.getfield 49, 3) := by decide +kernel
theorem dX2_closeApart_17 : decode cX2_closeApart 17 = .ok (.if_icmp .ge 61, 3) := by decide +kernel
theorem dX2_closeApart_20 : decode cX2_closeApart 20 = .ok (.iconst 0, 1) := by decide +kernel
theorem dX2_closeApart_21 : decode cX2_closeApart 21 = .ok (.istore_n 3, 1) := by decide +kernel
theorem dX2_closeApart_22 : decode cX2_closeApart 22 = .ok (.iload_n 3, 1) := by decide +kernel
theorem dX2_closeApart_23 : decode cX2_closeApart 23 = .ok (.aload_n 0, 1) := by decide +kernel
theorem dX2_closeApart_24 : decode cX2_closeApart 24 = .ok (.getfield 49, 3) := by decide +kernel
theorem dX2_closeApart_27 : decode cX2_closeApart 27 = .ok (.if_icmp .ge 45, 3) := by decide +kernel
theorem dX2_closeApart_30 : decode cX2_closeApart 30 = .ok (.aload_n 0, 1) := by decide +kernel
theorem dX2_closeApart_31 : decode cX2_closeApart 31 = .ok (.getfield 34, 3) := by decide +kernel
theorem dX2_closeApart_34 : decode cX2_closeApart 34 = .ok (.iload_n 2, 1) := by decide +kernel
theorem dX2_closeApart_35 : decode cX2_closeApart 35 = .ok (.aaload, 1) := by decide +kernel
theorem dX2_closeApart_36 : decode cX2_closeApart 36 = .ok (.iload_n 3, 1) := by decide +kernel
theorem dX2_closeApart_37 : decode cX2_closeApart 37 = .ok (.aload_n 0, 1) := by decide +kernel
theorem dX2_closeApart_38 : decode cX2_closeApart 38 = .ok (.getfield 34, 3) := by decide +kernel
theorem dX2_closeApart_41 : decode cX2_closeApart 41 = .ok (.iload_n 2, 1) := by decide +kernel
theorem dX2_closeApart_42 : decode cX2_closeApart 42 = .ok (.aaload, 1) := by decide +kernel
theorem dX2_closeApart_43 : decode cX2_closeApart 43 = .ok (.iload_n 3, 1) := by decide +kernel
theorem dX2_closeApart_44 : decode cX2_closeApart 44 = .ok (.iaload, 1) := by decide +kernel
theorem dX2_closeApart_45 : decode cX2_closeApart 45 = .ok (.aload_n 0, 1) := by decide +kernel
theorem dX2_closeApart_46 : decode cX2_closeApart 46 = .ok (.getfield 34, 3) := by decide +kernel
theorem dX2_closeApart_49 : decode cX2_closeApart 49 = .ok (.iload_n 2, 1) := by decide +kernel
theorem dX2_closeApart_50 : decode cX2_closeApart 50 = .ok (.aaload, 1) := by decide +kernel
theorem dX2_closeApart_51 : decode cX2_closeApart 51 = .ok (.iload_n 1, 1) := by decide +kernel
theorem dX2_closeApart_52 : decode cX2_closeApart 52 = .ok (.iaload, 1) := by decide +kernel
theorem dX2_closeApart_53 : decode cX2_closeApart 53 = .ok (.aload_n 0, 1) := by decide +kernel
theorem dX2_closeApart_54 : decode cX2_closeApart 54 = .ok (.getfield 34, 3) := by decide +kernel
theorem dX2_closeApart_57 : decode cX2_closeApart 57 = .ok (.iload_n 1, 1) := by decide +kernel
theorem dX2_closeApart_58 : decode cX2_closeApart 58 = .ok (.aaload, 1) := by decide +kernel
theorem dX2_closeApart_59 : decode cX2_closeApart 59 = .ok (.iload_n 3, 1) := by decide +kernel
theorem dX2_closeApart_60 : decode cX2_closeApart 60 = .ok (.iaload, 1) := by decide +kernel
theorem dX2_closeApart_61 : decode cX2_closeApart 61 = .ok (.iadd, 1) := by decide +kernel
theorem dX2_closeApart_62 : decode cX2_closeApart 62 = .ok (.invokestatic 43, 3) := by decide +kernel
theorem dX2_closeApart_65 : decode cX2_closeApart 65 = .ok (.iastore, 1) := by decide +kernel
theorem dX2_closeApart_66 : decode cX2_closeApart 66 = .ok (.iinc 3 1, 3) := by decide +kernel
theorem dX2_closeApart_69 : decode cX2_closeApart 69 = .ok (.goto (-47), 3) := by decide +kernel
theorem dX2_closeApart_72 : decode cX2_closeApart 72 = .ok (.iinc 2 1, 3) := by decide +kernel
theorem dX2_closeApart_75 : decode cX2_closeApart 75 = .ok (.goto (-63), 3) := by decide +kernel
theorem dX2_closeApart_78 : decode cX2_closeApart 78 = .ok (.iconst 0, 1) := by decide +kernel
theorem dX2_closeApart_79 : decode cX2_closeApart 79 = .ok (.istore_n 2, 1) := by decide +kernel
theorem dX2_closeApart_80 : decode cX2_closeApart 80 = .ok (.iload_n 2, 1) := by decide +kernel
theorem dX2_closeApart_81 : decode cX2_closeApart 81 = .ok (.aload_n 0, 1) := by decide +kernel
theorem dX2_closeApart_82 : decode cX2_closeApart 82 = .ok (.getfield 49, 3) := by decide +kernel
theorem dX2_closeApart_85 : decode cX2_closeApart 85 = .ok (.if_icmp .ge 22, 3) := by decide +kernel
theorem dX2_closeApart_88 : decode cX2_closeApart 88 = .ok (.aload_n 0, 1) := by decide +kernel
theorem dX2_closeApart_89 : decode cX2_closeApart 89 = .ok (.getfield 34, 3) := by decide +kernel
theorem dX2_closeApart_92 : decode cX2_closeApart 92 = .ok (.iload_n 2, 1) := by decide +kernel
theorem dX2_closeApart_93 : decode cX2_closeApart 93 = .ok (.aaload, 1) := by decide +kernel
theorem dX2_closeApart_94 : decode cX2_closeApart 94 = .ok (.iload_n 2, 1) := by decide +kernel
theorem dX2_closeApart_95 : decode cX2_closeApart 95 = .ok (.iaload, 1) := by decide +kernel
theorem dX2_closeApart_96 : decode cX2_closeApart 96 = .ok (.ifCond .ge 5, 3) := by decide +kernel
theorem dX2_closeApart_99 : decode cX2_closeApart 99 = .ok (.iconst 0, 1) := by decide +kernel
theorem dX2_closeApart_100 : decode cX2_closeApart 100 = .ok (.ireturn, 1) := by decide +kernel
theorem dX2_closeApart_101 : decode cX2_closeApart 101 = .ok (.iinc 2 1, 3) := by decide +kernel
theorem dX2_closeApart_104 : decode cX2_closeApart 104 = .ok (.goto (-24), 3) := by decide +kernel
theorem dX2_closeApart_107 : decode cX2_closeApart 107 = .ok (.iinc 1 1, 3) := by decide +kernel
theorem dX2_closeApart_110 : decode cX2_closeApart 110 = .ok (.goto (-108), 3) := by decide +kernel
theorem dX2_closeApart_113 : decode cX2_closeApart 113 = .ok (.iconst 1, 1) := by decide +kernel
theorem dX2_closeApart_114 : decode cX2_closeApart 114 = .ok (.ireturn, 1) := by decide +kernel
theorem dX2_boundDays_0 : decode cX2_boundDays 0 = .ok (.iconst 0, 1) := by decide +kernel
theorem dX2_boundDays_1 : decode cX2_boundDays 1 = .ok (.istore_n 1, 1) := by decide +kernel
theorem dX2_boundDays_2 : decode cX2_boundDays 2 = .ok (.iload_n 1, 1) := by decide +kernel
theorem dX2_boundDays_3 : decode cX2_boundDays 3 = .ok (.aload_n 0, 1) := by decide +kernel
theorem dX2_boundDays_4 : decode cX2_boundDays 4 = .ok (.getfield 49, 3) := by decide +kernel
theorem dX2_boundDays_7 : decode cX2_boundDays 7 = .ok (.if_icmp .ge 102, 3) := by decide +kernel
theorem dX2_boundDays_10 : decode cX2_boundDays 10 = .ok (.aload_n 0, 1) := by decide +kernel
theorem dX2_boundDays_11 : decode cX2_boundDays 11 = .ok (.getfield 37, 3) := by decide +kernel
theorem dX2_boundDays_14 : decode cX2_boundDays 14 = .ok (.iconst 0, 1) := by decide +kernel
theorem dX2_boundDays_15 : decode cX2_boundDays 15 = .ok (.aaload, 1) := by decide +kernel
theorem dX2_boundDays_16 : decode cX2_boundDays 16 = .ok (.iload_n 1, 1) := by decide +kernel
theorem dX2_boundDays_17 : decode cX2_boundDays 17 = .ok (.iconst 0, 1) := by decide +kernel
theorem dX2_boundDays_18 : decode cX2_boundDays 18 = .ok (.iastore, 1) := by decide +kernel
theorem dX2_boundDays_19 : decode cX2_boundDays 19 = .ok (.aload_n 0, 1) := by decide +kernel
theorem dX2_boundDays_20 : decode cX2_boundDays 20 = .ok (.getfield 40, 3) := by decide +kernel
theorem dX2_boundDays_23 : decode cX2_boundDays 23 = .ok (.iconst 0, 1) := by decide +kernel
theorem dX2_boundDays_24 : decode cX2_boundDays 24 = .ok (.aaload, 1) := by decide +kernel
theorem dX2_boundDays_25 : decode cX2_boundDays 25 = .ok (.iload_n 1, 1) := by decide +kernel
theorem dX2_boundDays_26 : decode cX2_boundDays 26 = .ok (.ldc 94, 2) := by decide +kernel
theorem dX2_boundDays_28 : decode cX2_boundDays 28 = .ok (.iastore, 1) := by decide +kernel
theorem dX2_boundDays_29 : decode cX2_boundDays 29 = .ok (.iconst 0, 1) := by decide +kernel
theorem dX2_boundDays_30 : decode cX2_boundDays 30 = .ok (.istore_n 2, 1) := by decide +kernel
theorem dX2_boundDays_31 : decode cX2_boundDays 31 = .ok (.iload_n 2, 1) := by decide +kernel
theorem dX2_boundDays_32 : decode cX2_boundDays 32 = .ok (.aload_n 0, 1) := by decide +kernel
theorem dX2_boundDays_33 : decode cX2_boundDays 33 = .ok (.getfield 49, 3) := by decide +kernel
theorem dX2_boundDays_36 : decode cX2_boundDays 36 = .ok (.if_icmp .ge 67, 3) := by decide +kernel
theorem dX2_boundDays_39 : decode cX2_boundDays 39 = .ok (.aload_n 0, 1) := by decide +kernel
theorem dX2_boundDays_40 : decode cX2_boundDays 40 = .ok (.getfield 37, 3) := by decide +kernel
theorem dX2_boundDays_43 : decode cX2_boundDays 43 = .ok (.iconst 0, 1) := by decide +kernel
theorem dX2_boundDays_44 : decode cX2_boundDays 44 = .ok (.aaload, 1) := by decide +kernel
theorem dX2_boundDays_45 : decode cX2_boundDays 45 = .ok (.iload_n 1, 1) := by decide +kernel
theorem dX2_boundDays_46 : decode cX2_boundDays 46 = .ok (.aload_n 0, 1) := by decide +kernel
theorem dX2_boundDays_47 : decode cX2_boundDays 47 = .ok (.getfield 37, 3) := by decide +kernel
theorem dX2_boundDays_50 : decode cX2_boundDays 50 = .ok (.iconst 0, 1) := by decide +kernel
theorem dX2_boundDays_51 : decode cX2_boundDays 51 = .ok (.aaload, 1) := by decide +kernel
theorem dX2_boundDays_52 : decode cX2_boundDays 52 = .ok (.iload_n 1, 1) := by decide +kernel
theorem dX2_boundDays_53 : decode cX2_boundDays 53 = .ok (.iaload, 1) := by decide +kernel
theorem dX2_boundDays_54 : decode cX2_boundDays 54 = .ok (.aload_n 0, 1) := by decide +kernel
theorem dX2_boundDays_55 : decode cX2_boundDays 55 = .ok (.getfield 34, 3) := by decide +kernel
theorem dX2_boundDays_58 : decode cX2_boundDays 58 = .ok (.iload_n 1, 1) := by decide +kernel
theorem dX2_boundDays_59 : decode cX2_boundDays 59 = .ok (.aaload, 1) := by decide +kernel
theorem dX2_boundDays_60 : decode cX2_boundDays 60 = .ok (.iload_n 2, 1) := by decide +kernel
theorem dX2_boundDays_61 : decode cX2_boundDays 61 = .ok (.iaload, 1) := by decide +kernel
theorem dX2_boundDays_62 : decode cX2_boundDays 62 = .ok (.ineg, 1) := by decide +kernel
theorem dX2_boundDays_63 : decode cX2_boundDays 63 = .ok (.invokestatic 112, 3) := by decide +kernel
theorem dX2_boundDays_66 : decode cX2_boundDays 66 = .ok (.iastore, 1) := by decide +kernel
theorem dX2_boundDays_67 : decode cX2_boundDays 67 = .ok (.aload_n 0, 1) := by decide +kernel
theorem dX2_boundDays_68 : decode cX2_boundDays 68 = .ok (.getfield 40, 3) := by decide +kernel
theorem dX2_boundDays_71 : decode cX2_boundDays 71 = .ok (.iconst 0, 1) := by decide +kernel
theorem dX2_boundDays_72 : decode cX2_boundDays 72 = .ok (.aaload, 1) := by decide +kernel
theorem dX2_boundDays_73 : decode cX2_boundDays 73 = .ok (.iload_n 1, 1) := by decide +kernel
theorem dX2_boundDays_74 : decode cX2_boundDays 74 = .ok (.aload_n 0, 1) := by decide +kernel
theorem dX2_boundDays_75 : decode cX2_boundDays 75 = .ok (.getfield 40, 3) := by decide +kernel
theorem dX2_boundDays_78 : decode cX2_boundDays 78 = .ok (.iconst 0, 1) := by decide +kernel
theorem dX2_boundDays_79 : decode cX2_boundDays 79 = .ok (.aaload, 1) := by decide +kernel
theorem dX2_boundDays_80 : decode cX2_boundDays 80 = .ok (.iload_n 1, 1) := by decide +kernel
theorem dX2_boundDays_81 : decode cX2_boundDays 81 = .ok (.iaload, 1) := by decide +kernel
theorem dX2_boundDays_82 : decode cX2_boundDays 82 = .ok (.ldc 94, 2) := by decide +kernel
theorem dX2_boundDays_84 : decode cX2_boundDays 84 = .ok (.aload_n 0, 1) := by decide +kernel
theorem dX2_boundDays_85 : decode cX2_boundDays 85 = .ok (.getfield 34, 3) := by decide +kernel
theorem dX2_boundDays_88 : decode cX2_boundDays 88 = .ok (.iload_n 2, 1) := by decide +kernel
theorem dX2_boundDays_89 : decode cX2_boundDays 89 = .ok (.aaload, 1) := by decide +kernel
theorem dX2_boundDays_90 : decode cX2_boundDays 90 = .ok (.iload_n 1, 1) := by decide +kernel
theorem dX2_boundDays_91 : decode cX2_boundDays 91 = .ok (.iaload, 1) := by decide +kernel
theorem dX2_boundDays_92 : decode cX2_boundDays 92 = .ok (.iadd, 1) := by decide +kernel
theorem dX2_boundDays_93 : decode cX2_boundDays 93 = .ok (.invokestatic 43, 3) := by decide +kernel
theorem dX2_boundDays_96 : decode cX2_boundDays 96 = .ok (.iastore, 1) := by decide +kernel
theorem dX2_boundDays_97 : decode cX2_boundDays 97 = .ok (.iinc 2 1, 3) := by decide +kernel
theorem dX2_boundDays_100 : decode cX2_boundDays 100 = .ok (.goto (-69), 3) := by decide +kernel
theorem dX2_boundDays_103 : decode cX2_boundDays 103 = .ok (.iinc 1 1, 3) := by decide +kernel
theorem dX2_boundDays_106 : decode cX2_boundDays 106 = .ok (.goto (-104), 3) := by decide +kernel
theorem dX2_boundDays_109 : decode cX2_boundDays 109 = .ok (.return_, 1) := by decide +kernel
set_option maxRecDepth 20000 in
theorem ggX2_run_X2_takeSpans : GoodIn wsX2_run wsX2_takeSpans := goodIn_r _ [8, 9, 10, 11, 12, 3, 13, 14, 15, 1, 2, 16, 17, 18, 7, 19, 20, 21, 22, 23, 24, 25, 26, 27, 28, 29, 30, 31, 32, 33, 34, 35, 4, 5, 6, 36, 37, 38, 39, 40, 41, 42, 43, 44, 45, 46, 47, 48, 49, 50, 51, 52] (by decide +kernel) (by decide +kernel)
set_option maxRecDepth 20000 in
theorem gX2_run_X2_takeSpans : GoodIn wsX2_run (wsV RX2 121 RX2 yX2_takeSpans wsX2_takeSpans) := goodIn_app (goodIn_of _ (by decide +kernel)) ggX2_run_X2_takeSpans
theorem dX2_run_0 : decode cX2_run 0 = .ok (.aload_n 0, 1) := by decide +kernel
theorem dX2_run_1 : decode cX2_run 1 = .ok (.iload_n 1, 1) := by decide +kernel
theorem dX2_run_2 : decode cX2_run 2 = .ok (.putfield 115, 3) := by decide +kernel
theorem dX2_run_5 : decode cX2_run 5 = .ok (.aload_n 0, 1) := by decide +kernel
theorem dX2_run_6 : decode cX2_run 6 = .ok (.iconst 0, 1) := by decide +kernel
theorem dX2_run_7 : decode cX2_run 7 = .ok (.putfield 118, 3) := by decide +kernel
theorem dX2_run_10 : decode cX2_run 10 = .ok (.aload_n 0, 1) := by decide +kernel
theorem dX2_run_11 : decode cX2_run 11 = .ok (.iconst 0, 1) := by decide +kernel
theorem dX2_run_12 : decode cX2_run 12 = .ok (.invokevirtual 121, 3) := by decide +kernel
theorem dX2_run_15 : decode cX2_run 15 = .ok (.aload_n 0, 1) := by decide +kernel
theorem dX2_run_16 : decode cX2_run 16 = .ok (.getfield 56, 3) := by decide +kernel
theorem dX2_run_19 : decode cX2_run 19 = .ok (.ifCond .eq 6, 3) := by decide +kernel
theorem dX2_run_22 : decode cX2_run 22 = .ok (.bipush (-2), 2) := by decide +kernel
theorem dX2_run_24 : decode cX2_run 24 = .ok (.ireturn, 1) := by decide +kernel
theorem dX2_run_25 : decode cX2_run 25 = .ok (.aload_n 0, 1) := by decide +kernel
theorem dX2_run_26 : decode cX2_run 26 = .ok (.getfield 118, 3) := by decide +kernel
theorem dX2_run_29 : decode cX2_run 29 = .ok (.ifCond .eq 7, 3) := by decide +kernel
theorem dX2_run_32 : decode cX2_run 32 = .ok (.iconst 1, 1) := by decide +kernel
theorem dX2_run_33 : decode cX2_run 33 = .ok (.goto 4, 3) := by decide +kernel
theorem dX2_run_36 : decode cX2_run 36 = .ok (.iconst 0, 1) := by decide +kernel
theorem dX2_run_37 : decode cX2_run 37 = .ok (.ireturn, 1) := by decide +kernel
set_option maxRecDepth 20000 in
theorem ggX2_takeSpans_X2_noteWay : GoodIn wsX2_takeSpans wsX2_noteWay := goodIn_r _ [15, 1, 16, 17, 18, 10, 19, 20, 21, 22, 23, 24, 25, 26, 35, 36, 37, 38, 39, 40, 41, 42, 43, 44, 45, 46, 47, 48] (by decide +kernel) (by decide +kernel)
set_option maxRecDepth 20000 in
theorem gX2_takeSpans_X2_noteWay : GoodIn wsX2_takeSpans (wsV RX2 125 RX2 yX2_noteWay wsX2_noteWay) := goodIn_app (goodIn_of _ (by decide +kernel)) ggX2_takeSpans_X2_noteWay
set_option maxRecDepth 20000 in
theorem ggX2_takeSpans_X2_narrow : GoodIn wsX2_takeSpans wsX2_narrow := goodIn_r _ [30, 16, 24, 25, 21, 26, 17, 19, 20, 22, 1, 31, 35, 36, 37, 38, 39, 40, 41, 42, 43, 44, 45, 46, 47, 48] (by decide +kernel) (by decide +kernel)
set_option maxRecDepth 20000 in
theorem gX2_takeSpans_X2_narrow : GoodIn wsX2_takeSpans (wsV RX2 137 RX2 yX2_narrow wsX2_narrow) := goodIn_app (goodIn_of _ (by decide +kernel)) ggX2_takeSpans_X2_narrow
set_option maxRecDepth 20000 in
theorem ggX2_takeSpans_X2_takeSpans : GoodIn wsX2_takeSpans wsX2_takeSpans := goodIn_r _ [0, 1, 2, 3, 4, 5, 6, 7, 8, 9, 10, 11, 12, 13, 14, 15, 16, 17, 18, 19, 20, 21, 22, 23, 24, 25, 26, 27, 28, 29, 30, 31, 32, 33, 34, 35, 36, 37, 38, 39, 40, 41, 42, 43, 44, 45, 46, 47, 48, 49, 50, 51] (by decide +kernel) (by decide +kernel)
set_option maxRecDepth 20000 in
theorem gX2_takeSpans_X2_takeSpans : GoodIn wsX2_takeSpans (wsV RX2 121 RX2 yX2_takeSpans wsX2_takeSpans) := goodIn_app (goodIn_of _ (by decide +kernel)) ggX2_takeSpans_X2_takeSpans
theorem dX2_takeSpans_0 : decode cX2_takeSpans 0 = .ok (.iload_n 1, 1) := by decide +kernel
theorem dX2_takeSpans_1 : decode cX2_takeSpans 1 = .ok (.aload_n 0, 1) := by decide +kernel
theorem dX2_takeSpans_2 : decode cX2_takeSpans 2 = .ok (.getfield 49, 3) := by decide +kernel
theorem dX2_takeSpans_5 : decode cX2_takeSpans 5 = .ok (.if_icmp .lt 8, 3) := by decide +kernel
theorem dX2_takeSpans_8 : decode cX2_takeSpans 8 = .ok (.aload_n 0, 1) := by decide +kernel
theorem dX2_takeSpans_9 : decode cX2_takeSpans 9 = .ok (.invokevirtual 125, 3) := by decide +kernel
theorem dX2_takeSpans_12 : decode cX2_takeSpans 12 = .ok (.return_, 1) := by decide +kernel
theorem dX2_takeSpans_13 : decode cX2_takeSpans 13 = .ok (.iconst 0, 1) := by decide +kernel
theorem dX2_takeSpans_14 : decode cX2_takeSpans 14 = .ok (.istore_n 2, 1) := by decide +kernel
theorem dX2_takeSpans_15 : decode cX2_takeSpans 15 = .ok (.iload_n 2, 1) := by decide +kernel
theorem dX2_takeSpans_16 : decode cX2_takeSpans 16 = .ok (.aload_n 0, 1) := by decide +kernel
theorem dX2_takeSpans_17 : decode cX2_takeSpans 17 = .ok (.getfield 20, 3) := by decide +kernel
theorem dX2_takeSpans_20 : decode cX2_takeSpans 20 = .ok (.iload_n 1, 1) := by decide +kernel
theorem dX2_takeSpans_21 : decode cX2_takeSpans 21 = .ok (.aaload, 1) := by decide +kernel
theorem dX2_takeSpans_22 : decode cX2_takeSpans 22 = .ok (.getfield 128, 3) := by decide +kernel
theorem dX2_takeSpans_25 : decode cX2_takeSpans 25 = .ok (.if_icmp .ge 101, 3) := by decide +kernel
theorem dX2_takeSpans_28 : decode cX2_takeSpans 28 = .ok (.aload_n 0, 1) := by decide +kernel
theorem dX2_takeSpans_29 : decode cX2_takeSpans 29 = .ok (.getfield 53, 3) := by decide +kernel
theorem dX2_takeSpans_32 : decode cX2_takeSpans 32 = .ok (.sipush 20000, 3) := by decide +kernel
theorem dX2_takeSpans_35 : decode cX2_takeSpans 35 = .ok (.if_icmp .lt 9, 3) := by decide +kernel
theorem dX2_takeSpans_38 : decode cX2_takeSpans 38 = .ok (.aload_n 0, 1) := by decide +kernel
theorem dX2_takeSpans_39 : decode cX2_takeSpans 39 = .ok (.iconst 1, 1) := by decide +kernel
theorem dX2_takeSpans_40 : decode cX2_takeSpans 40 = .ok (.putfield 56, 3) := by decide +kernel
theorem dX2_takeSpans_43 : decode cX2_takeSpans 43 = .ok (.return_, 1) := by decide +kernel
theorem dX2_takeSpans_44 : decode cX2_takeSpans 44 = .ok (.aload_n 0, 1) := by decide +kernel
theorem dX2_takeSpans_45 : decode cX2_takeSpans 45 = .ok (.dup, 1) := by decide +kernel
theorem dX2_takeSpans_46 : decode cX2_takeSpans 46 = .ok (.getfield 53, 3) := by decide +kernel
theorem dX2_takeSpans_49 : decode cX2_takeSpans 49 = .ok (.iconst 1, 1) := by decide +kernel
theorem dX2_takeSpans_50 : decode cX2_takeSpans 50 = .ok (.iadd, 1) := by decide +kernel
theorem dX2_takeSpans_51 : decode cX2_takeSpans 51 = .ok (.putfield 53, 3) := by decide +kernel
theorem dX2_takeSpans_54 : decode cX2_takeSpans 54 = .ok (.aload_n 0, 1) := by decide +kernel
theorem dX2_takeSpans_55 : decode cX2_takeSpans 55 = .ok (.getfield 85, 3) := by decide +kernel
theorem dX2_takeSpans_58 : decode cX2_takeSpans 58 = .ok (.ifCond .eq 40, 3) := by decide +kernel
theorem dX2_takeSpans_61 : decode cX2_takeSpans 61 = .ok (.aload_n 0, 1) := by decide +kernel
theorem dX2_takeSpans_62 : decode cX2_takeSpans 62 = .ok (.iload_n 1, 1) := by decide +kernel
theorem dX2_takeSpans_63 : decode cX2_takeSpans 63 = .ok (.aload_n 0, 1) := by decide +kernel
theorem dX2_takeSpans_64 : decode cX2_takeSpans 64 = .ok (.getfield 20, 3) := by decide +kernel
theorem dX2_takeSpans_67 : decode cX2_takeSpans 67 = .ok (.iload_n 1, 1) := by decide +kernel
theorem dX2_takeSpans_68 : decode cX2_takeSpans 68 = .ok (.aaload, 1) := by decide +kernel
theorem dX2_takeSpans_69 : decode cX2_takeSpans 69 = .ok (.getfield 131, 3) := by decide +kernel
theorem dX2_takeSpans_72 : decode cX2_takeSpans 72 = .ok (.iload_n 2, 1) := by decide +kernel
theorem dX2_takeSpans_73 : decode cX2_takeSpans 73 = .ok (.iaload, 1) := by decide +kernel
theorem dX2_takeSpans_74 : decode cX2_takeSpans 74 = .ok (.aload_n 0, 1) := by decide +kernel
theorem dX2_takeSpans_75 : decode cX2_takeSpans 75 = .ok (.getfield 20, 3) := by decide +kernel
theorem dX2_takeSpans_78 : decode cX2_takeSpans 78 = .ok (.iload_n 1, 1) := by decide +kernel
theorem dX2_takeSpans_79 : decode cX2_takeSpans 79 = .ok (.aaload, 1) := by decide +kernel
theorem dX2_takeSpans_80 : decode cX2_takeSpans 80 = .ok (.getfield 134, 3) := by decide +kernel
theorem dX2_takeSpans_83 : decode cX2_takeSpans 83 = .ok (.iload_n 2, 1) := by decide +kernel
theorem dX2_takeSpans_84 : decode cX2_takeSpans 84 = .ok (.iaload, 1) := by decide +kernel
theorem dX2_takeSpans_85 : decode cX2_takeSpans 85 = .ok (.invokevirtual 137, 3) := by decide +kernel
theorem dX2_takeSpans_88 : decode cX2_takeSpans 88 = .ok (.ifCond .eq 10, 3) := by decide +kernel
theorem dX2_takeSpans_91 : decode cX2_takeSpans 91 = .ok (.aload_n 0, 1) := by decide +kernel
theorem dX2_takeSpans_92 : decode cX2_takeSpans 92 = .ok (.iload_n 1, 1) := by decide +kernel
theorem dX2_takeSpans_93 : decode cX2_takeSpans 93 = .ok (.iconst 1, 1) := by decide +kernel
theorem dX2_takeSpans_94 : decode cX2_takeSpans 94 = .ok (.iadd, 1) := by decide +kernel
theorem dX2_takeSpans_95 : decode cX2_takeSpans 95 = .ok (.invokevirtual 121, 3) := by decide +kernel
theorem dX2_takeSpans_98 : decode cX2_takeSpans 98 = .ok (.aload_n 0, 1) := by decide +kernel
theorem dX2_takeSpans_99 : decode cX2_takeSpans 99 = .ok (.getfield 56, 3) := by decide +kernel
theorem dX2_takeSpans_102 : decode cX2_takeSpans 102 = .ok (.ifCond .ne 17, 3) := by decide +kernel
theorem dX2_takeSpans_105 : decode cX2_takeSpans 105 = .ok (.aload_n 0, 1) := by decide +kernel
theorem dX2_takeSpans_106 : decode cX2_takeSpans 106 = .ok (.getfield 115, 3) := by decide +kernel
theorem dX2_takeSpans_109 : decode cX2_takeSpans 109 = .ok (.ifCond .eq 11, 3) := by decide +kernel
theorem dX2_takeSpans_112 : decode cX2_takeSpans 112 = .ok (.aload_n 0, 1) := by decide +kernel
theorem dX2_takeSpans_113 : decode cX2_takeSpans 113 = .ok (.getfield 118, 3) := by decide +kernel
theorem dX2_takeSpans_116 : decode cX2_takeSpans 116 = .ok (.ifCond .eq 4, 3) := by decide +kernel
theorem dX2_takeSpans_119 : decode cX2_takeSpans 119 = .ok (.return_, 1) := by decide +kernel
theorem dX2_takeSpans_120 : decode cX2_takeSpans 120 = .ok (.iinc 2 1, 3) := by decide +kernel
theorem dX2_takeSpans_123 : decode cX2_takeSpans 123 = .ok (.goto (-108), 3) := by decide +kernel
theorem dX2_takeSpans_126 : decode cX2_takeSpans 126 = .ok (.return_, 1) := by decide +kernel
theorem dX2_narrow_0 : decode cX2_narrow 0 = .ok (.iload_n 2, 1) := by decide +kernel
theorem dX2_narrow_1 : decode cX2_narrow 1 = .ok (.aload_n 0, 1) := by decide +kernel
theorem dX2_narrow_2 : decode cX2_narrow 2 = .ok (.getfield 37, 3) := by decide +kernel
theorem dX2_narrow_5 : decode cX2_narrow 5 = .ok (.iload_n 1, 1) := by decide +kernel
theorem dX2_narrow_6 : decode cX2_narrow 6 = .ok (.aaload, 1) := by decide +kernel
theorem dX2_narrow_7 : decode cX2_narrow 7 = .ok (.iload_n 1, 1) := by decide +kernel
theorem dX2_narrow_8 : decode cX2_narrow 8 = .ok (.iaload, 1) := by decide +kernel
theorem dX2_narrow_9 : decode cX2_narrow 9 = .ok (.invokestatic 112, 3) := by decide +kernel
theorem dX2_narrow_12 : decode cX2_narrow 12 = .ok (.istore 4, 2) := by decide +kernel
theorem dX2_narrow_14 : decode cX2_narrow 14 = .ok (.iload_n 3, 1) := by decide +kernel
theorem dX2_narrow_15 : decode cX2_narrow 15 = .ok (.aload_n 0, 1) := by decide +kernel
theorem dX2_narrow_16 : decode cX2_narrow 16 = .ok (.getfield 40, 3) := by decide +kernel
theorem dX2_narrow_19 : decode cX2_narrow 19 = .ok (.iload_n 1, 1) := by decide +kernel
theorem dX2_narrow_20 : decode cX2_narrow 20 = .ok (.aaload, 1) := by decide +kernel
theorem dX2_narrow_21 : decode cX2_narrow 21 = .ok (.iload_n 1, 1) := by decide +kernel
theorem dX2_narrow_22 : decode cX2_narrow 22 = .ok (.iaload, 1) := by decide +kernel
theorem dX2_narrow_23 : decode cX2_narrow 23 = .ok (.invokestatic 43, 3) := by decide +kernel
theorem dX2_narrow_26 : decode cX2_narrow 26 = .ok (.istore 5, 2) := by decide +kernel
theorem dX2_narrow_28 : decode cX2_narrow 28 = .ok (.iload 4, 2) := by decide +kernel
theorem dX2_narrow_30 : decode cX2_narrow 30 = .ok (.iload 5, 2) := by decide +kernel
theorem dX2_narrow_32 : decode cX2_narrow 32 = .ok (.if_icmp .le 5, 3) := by decide +kernel
theorem dX2_narrow_35 : decode cX2_narrow 35 = .ok (.iconst 0, 1) := by decide +kernel
theorem dX2_narrow_36 : decode cX2_narrow 36 = .ok (.ireturn, 1) := by decide +kernel
theorem dX2_narrow_37 : decode cX2_narrow 37 = .ok (.iconst 0, 1) := by decide +kernel
theorem dX2_narrow_38 : decode cX2_narrow 38 = .ok (.istore 6, 2) := by decide +kernel
theorem dX2_narrow_40 : decode cX2_narrow 40 = .ok (.iload 6, 2) := by decide +kernel
theorem dX2_narrow_42 : decode cX2_narrow 42 = .ok (.aload_n 0, 1) := by decide +kernel
theorem dX2_narrow_43 : decode cX2_narrow 43 = .ok (.getfield 49, 3) := by decide +kernel
theorem dX2_narrow_46 : decode cX2_narrow 46 = .ok (.if_icmp .ge 79, 3) := by decide +kernel
theorem dX2_narrow_49 : decode cX2_narrow 49 = .ok (.aload_n 0, 1) := by decide +kernel
theorem dX2_narrow_50 : decode cX2_narrow 50 = .ok (.getfield 37, 3) := by decide +kernel
theorem dX2_narrow_53 : decode cX2_narrow 53 = .ok (.iload_n 1, 1) := by decide +kernel
theorem dX2_narrow_54 : decode cX2_narrow 54 = .ok (.iconst 1, 1) := by decide +kernel
theorem dX2_narrow_55 : decode cX2_narrow 55 = .ok (.iadd, 1) := by decide +kernel
theorem dX2_narrow_56 : decode cX2_narrow 56 = .ok (.aaload, 1) := by decide +kernel
theorem dX2_narrow_57 : decode cX2_narrow 57 = .ok (.iload 6, 2) := by decide +kernel
theorem dX2_narrow_59 : decode cX2_narrow 59 = .ok (.aload_n 0, 1) := by decide +kernel
theorem dX2_narrow_60 : decode cX2_narrow 60 = .ok (.getfield 37, 3) := by decide +kernel
theorem dX2_narrow_63 : decode cX2_narrow 63 = .ok (.iload_n 1, 1) := by decide +kernel
theorem dX2_narrow_64 : decode cX2_narrow 64 = .ok (.aaload, 1) := by decide +kernel
theorem dX2_narrow_65 : decode cX2_narrow 65 = .ok (.iload 6, 2) := by decide +kernel
theorem dX2_narrow_67 : decode cX2_narrow 67 = .ok (.iaload, 1) := by decide +kernel
theorem dX2_narrow_68 : decode cX2_narrow 68 = .ok (.iload 4, 2) := by decide +kernel
theorem dX2_narrow_70 : decode cX2_narrow 70 = .ok (.aload_n 0, 1) := by decide +kernel
theorem dX2_narrow_71 : decode cX2_narrow 71 = .ok (.getfield 34, 3) := by decide +kernel
theorem dX2_narrow_74 : decode cX2_narrow 74 = .ok (.iload 6, 2) := by decide +kernel
theorem dX2_narrow_76 : decode cX2_narrow 76 = .ok (.aaload, 1) := by decide +kernel
theorem dX2_narrow_77 : decode cX2_narrow 77 = .ok (.iload_n 1, 1) := by decide +kernel
theorem dX2_narrow_78 : decode cX2_narrow 78 = .ok (.iaload, 1) := by decide +kernel
theorem dX2_narrow_79 : decode cX2_narrow 79 = .ok (.isub, 1) := by decide +kernel
theorem dX2_narrow_80 : decode cX2_narrow 80 = .ok (.invokestatic 112, 3) := by decide +kernel
theorem dX2_narrow_83 : decode cX2_narrow 83 = .ok (.iastore, 1) := by decide +kernel
theorem dX2_narrow_84 : decode cX2_narrow 84 = .ok (.aload_n 0, 1) := by decide +kernel
theorem dX2_narrow_85 : decode cX2_narrow 85 = .ok (.getfield 40, 3) := by decide +kernel
theorem dX2_narrow_88 : decode cX2_narrow 88 = .ok (.iload_n 1, 1) := by decide +kernel
theorem dX2_narrow_89 : decode cX2_narrow 89 = .ok (.iconst 1, 1) := by decide +kernel
theorem dX2_narrow_90 : decode cX2_narrow 90 = .ok (.iadd, 1) := by decide +kernel
theorem dX2_narrow_91 : decode cX2_narrow 91 = .ok (.aaload, 1) := by decide +kernel
theorem dX2_narrow_92 : decode cX2_narrow 92 = .ok (.iload 6, 2) := by decide +kernel
theorem dX2_narrow_94 : decode cX2_narrow 94 = .ok (.aload_n 0, 1) := by decide +kernel
theorem dX2_narrow_95 : decode cX2_narrow 95 = .ok (.getfield 40, 3) := by decide +kernel
theorem dX2_narrow_98 : decode cX2_narrow 98 = .ok (.iload_n 1, 1) := by decide +kernel
theorem dX2_narrow_99 : decode cX2_narrow 99 = .ok (.aaload, 1) := by decide +kernel
theorem dX2_narrow_100 : decode cX2_narrow 100 = .ok (.iload 6, 2) := by decide +kernel
theorem dX2_narrow_102 : decode cX2_narrow 102 = .ok (.iaload, 1) := by decide +kernel
theorem dX2_narrow_103 : decode cX2_narrow 103 = .ok (.iload 5, 2) := by decide +kernel
theorem dX2_narrow_105 : decode cX2_narrow 105 = .ok (.aload_n 0, 1) := by decide +kernel
theorem dX2_narrow_106 : decode cX2_narrow 106 = .ok (.getfield 34, 3) := by decide +kernel
theorem dX2_narrow_109 : decode cX2_narrow 109 = .ok (.iload_n 1, 1) := by decide +kernel
theorem dX2_narrow_110 : decode cX2_narrow 110 = .ok (.aaload, 1) := by decide +kernel
theorem dX2_narrow_111 : decode cX2_narrow 111 = .ok (.iload 6, 2) := by decide +kernel
theorem dX2_narrow_113 : decode cX2_narrow 113 = .ok (.iaload, 1) := by decide +kernel
theorem dX2_narrow_114 : decode cX2_narrow 114 = .ok (.iadd, 1) := by decide +kernel
theorem dX2_narrow_115 : decode cX2_narrow 115 = .ok (.invokestatic 43, 3) := by decide +kernel
theorem dX2_narrow_118 : decode cX2_narrow 118 = .ok (.iastore, 1) := by decide +kernel
theorem dX2_narrow_119 : decode cX2_narrow 119 = .ok (.iinc 6 1, 3) := by decide +kernel
theorem dX2_narrow_122 : decode cX2_narrow 122 = .ok (.goto (-82), 3) := by decide +kernel
theorem dX2_narrow_125 : decode cX2_narrow 125 = .ok (.iconst 1, 1) := by decide +kernel
theorem dX2_narrow_126 : decode cX2_narrow 126 = .ok (.ireturn, 1) := by decide +kernel
theorem dX2_noteWay_0 : decode cX2_noteWay 0 = .ok (.iconst 0, 1) := by decide +kernel
theorem dX2_noteWay_1 : decode cX2_noteWay 1 = .ok (.istore_n 1, 1) := by decide +kernel
theorem dX2_noteWay_2 : decode cX2_noteWay 2 = .ok (.iload_n 1, 1) := by decide +kernel
theorem dX2_noteWay_3 : decode cX2_noteWay 3 = .ok (.aload_n 0, 1) := by decide +kernel
theorem dX2_noteWay_4 : decode cX2_noteWay 4 = .ok (.getfield 49, 3) := by decide +kernel
theorem dX2_noteWay_7 : decode cX2_noteWay 7 = .ok (.if_icmp .ge 87, 3) := by decide +kernel
theorem dX2_noteWay_10 : decode cX2_noteWay 10 = .ok (.aload_n 0, 1) := by decide +kernel
theorem dX2_noteWay_11 : decode cX2_noteWay 11 = .ok (.getfield 37, 3) := by decide +kernel
theorem dX2_noteWay_14 : decode cX2_noteWay 14 = .ok (.aload_n 0, 1) := by decide +kernel
theorem dX2_noteWay_15 : decode cX2_noteWay 15 = .ok (.getfield 49, 3) := by decide +kernel
theorem dX2_noteWay_18 : decode cX2_noteWay 18 = .ok (.aaload, 1) := by decide +kernel
theorem dX2_noteWay_19 : decode cX2_noteWay 19 = .ok (.iload_n 1, 1) := by decide +kernel
theorem dX2_noteWay_20 : decode cX2_noteWay 20 = .ok (.iaload, 1) := by decide +kernel
theorem dX2_noteWay_21 : decode cX2_noteWay 21 = .ok (.istore_n 2, 1) := by decide +kernel
theorem dX2_noteWay_22 : decode cX2_noteWay 22 = .ok (.aload_n 0, 1) := by decide +kernel
theorem dX2_noteWay_23 : decode cX2_noteWay 23 = .ok (.getfield 40, 3) := by decide +kernel
theorem dX2_noteWay_26 : decode cX2_noteWay 26 = .ok (.aload_n 0, 1) := by decide +kernel
theorem dX2_noteWay_27 : decode cX2_noteWay 27 = .ok (.getfield 49, 3) := by decide +kernel
theorem dX2_noteWay_30 : decode cX2_noteWay 30 = .ok (.aaload, 1) := by decide +kernel
theorem dX2_noteWay_31 : decode cX2_noteWay 31 = .ok (.iload_n 1, 1) := by decide +kernel
theorem dX2_noteWay_32 : decode cX2_noteWay 32 = .ok (.iaload, 1) := by decide +kernel
theorem dX2_noteWay_33 : decode cX2_noteWay 33 = .ok (.istore_n 3, 1) := by decide +kernel
theorem dX2_noteWay_34 : decode cX2_noteWay 34 = .ok (.aload_n 0, 1) := by decide +kernel
theorem dX2_noteWay_35 : decode cX2_noteWay 35 = .ok (.getfield 9, 3) := by decide +kernel
theorem dX2_noteWay_38 : decode cX2_noteWay 38 = .ok (.iload_n 1, 1) := by decide +kernel
theorem dX2_noteWay_39 : decode cX2_noteWay 39 = .ok (.aload_n 0, 1) := by decide +kernel
theorem dX2_noteWay_40 : decode cX2_noteWay 40 = .ok (.getfield 118, 3) := by decide +kernel
theorem dX2_noteWay_43 : decode cX2_noteWay 43 = .ok (.ifCond .eq 16, 3) := by decide +kernel
theorem dX2_noteWay_46 : decode cX2_noteWay 46 = .ok (.aload_n 0, 1) := by decide +kernel
theorem dX2_noteWay_47 : decode cX2_noteWay 47 = .ok (.getfield 9, 3) := by decide +kernel
theorem dX2_noteWay_50 : decode cX2_noteWay 50 = .ok (.iload_n 1, 1) := by decide +kernel
theorem dX2_noteWay_51 : decode cX2_noteWay 51 = .ok (.iaload, 1) := by decide +kernel
theorem dX2_noteWay_52 : decode cX2_noteWay 52 = .ok (.iload_n 2, 1) := by decide +kernel
theorem dX2_noteWay_53 : decode cX2_noteWay 53 = .ok (.invokestatic 43, 3) := by decide +kernel
theorem dX2_noteWay_56 : decode cX2_noteWay 56 = .ok (.goto 4, 3) := by decide +kernel
theorem dX2_noteWay_59 : decode cX2_noteWay 59 = .ok (.iload_n 2, 1) := by decide +kernel
theorem dX2_noteWay_60 : decode cX2_noteWay 60 = .ok (.iastore, 1) := by decide +kernel
theorem dX2_noteWay_61 : decode cX2_noteWay 61 = .ok (.aload_n 0, 1) := by decide +kernel
theorem dX2_noteWay_62 : decode cX2_noteWay 62 = .ok (.getfield 15, 3) := by decide +kernel
theorem dX2_noteWay_65 : decode cX2_noteWay 65 = .ok (.iload_n 1, 1) := by decide +kernel
theorem dX2_noteWay_66 : decode cX2_noteWay 66 = .ok (.aload_n 0, 1) := by decide +kernel
theorem dX2_noteWay_67 : decode cX2_noteWay 67 = .ok (.getfield 118, 3) := by decide +kernel
theorem dX2_noteWay_70 : decode cX2_noteWay 70 = .ok (.ifCond .eq 16, 3) := by decide +kernel
theorem dX2_noteWay_73 : decode cX2_noteWay 73 = .ok (.aload_n 0, 1) := by decide +kernel
theorem dX2_noteWay_74 : decode cX2_noteWay 74 = .ok (.getfield 15, 3) := by decide +kernel
theorem dX2_noteWay_77 : decode cX2_noteWay 77 = .ok (.iload_n 1, 1) := by decide +kernel
theorem dX2_noteWay_78 : decode cX2_noteWay 78 = .ok (.iaload, 1) := by decide +kernel
theorem dX2_noteWay_79 : decode cX2_noteWay 79 = .ok (.iload_n 3, 1) := by decide +kernel
theorem dX2_noteWay_80 : decode cX2_noteWay 80 = .ok (.invokestatic 112, 3) := by decide +kernel
theorem dX2_noteWay_83 : decode cX2_noteWay 83 = .ok (.goto 4, 3) := by decide +kernel
theorem dX2_noteWay_86 : decode cX2_noteWay 86 = .ok (.iload_n 3, 1) := by decide +kernel
theorem dX2_noteWay_87 : decode cX2_noteWay 87 = .ok (.iastore, 1) := by decide +kernel
theorem dX2_noteWay_88 : decode cX2_noteWay 88 = .ok (.iinc 1 1, 3) := by decide +kernel
theorem dX2_noteWay_91 : decode cX2_noteWay 91 = .ok (.goto (-89), 3) := by decide +kernel
theorem dX2_noteWay_94 : decode cX2_noteWay 94 = .ok (.aload_n 0, 1) := by decide +kernel
theorem dX2_noteWay_95 : decode cX2_noteWay 95 = .ok (.iconst 1, 1) := by decide +kernel
theorem dX2_noteWay_96 : decode cX2_noteWay 96 = .ok (.putfield 118, 3) := by decide +kernel
theorem dX2_noteWay_99 : decode cX2_noteWay 99 = .ok (.return_, 1) := by decide +kernel
theorem dX3_init_0 : decode cX3_init 0 = .ok (.aload_n 0, 1) := by decide +kernel
theorem dX3_init_1 : decode cX3_init 1 = .ok (.invokespecial 3, 3) := by decide +kernel
theorem dX3_init_4 : decode cX3_init 4 = .ok (.aload_n 0, 1) := by decide +kernel
theorem dX3_init_5 : decode cX3_init 5 = .ok (.sipush 924, 3) := by decide +kernel
theorem dX3_init_8 : decode cX3_init 8 = .ok (.newarray .int, 2) := by decide +kernel
theorem dX3_init_10 : decode cX3_init 10 = .ok (.putfield 11, 3) := by decide +kernel
theorem dX3_init_13 : decode cX3_init 13 = .ok (.aload_n 0, 1) := by decide +kernel
theorem dX3_init_14 : decode cX3_init 14 = .ok (.bipush 12, 2) := by decide +kernel
theorem dX3_init_16 : decode cX3_init 16 = .ok (.newarray .int, 2) := by decide +kernel
theorem dX3_init_18 : decode cX3_init 18 = .ok (.putfield 15, 3) := by decide +kernel
theorem dX3_init_21 : decode cX3_init 21 = .ok (.aload_n 0, 1) := by decide +kernel
theorem dX3_init_22 : decode cX3_init 22 = .ok (.bipush 12, 2) := by decide +kernel
theorem dX3_init_24 : decode cX3_init 24 = .ok (.newarray .int, 2) := by decide +kernel
theorem dX3_init_26 : decode cX3_init 26 = .ok (.putfield 18, 3) := by decide +kernel
theorem dX3_init_29 : decode cX3_init 29 = .ok (.aload_n 0, 1) := by decide +kernel
theorem dX3_init_30 : decode cX3_init 30 = .ok (.bipush 12, 2) := by decide +kernel
theorem dX3_init_32 : decode cX3_init 32 = .ok (.newarray .int, 2) := by decide +kernel
theorem dX3_init_34 : decode cX3_init 34 = .ok (.putfield 21, 3) := by decide +kernel
theorem dX3_init_37 : decode cX3_init 37 = .ok (.aload_n 0, 1) := by decide +kernel
theorem dX3_init_38 : decode cX3_init 38 = .ok (.sipush 924, 3) := by decide +kernel
theorem dX3_init_41 : decode cX3_init 41 = .ok (.newarray .int, 2) := by decide +kernel
theorem dX3_init_43 : decode cX3_init 43 = .ok (.putfield 24, 3) := by decide +kernel
theorem dX3_init_46 : decode cX3_init 46 = .ok (.return_, 1) := by decide +kernel
theorem dX3_begin_0 : decode cX3_begin 0 = .ok (.aload_n 0, 1) := by decide +kernel
theorem dX3_begin_1 : decode cX3_begin 1 = .ok (.iconst 0, 1) := by decide +kernel
theorem dX3_begin_2 : decode cX3_begin 2 = .ok (.putfield 27, 3) := by decide +kernel
theorem dX3_begin_5 : decode cX3_begin 5 = .ok (.aload_n 0, 1) := by decide +kernel
theorem dX3_begin_6 : decode cX3_begin 6 = .ok (.iconst 0, 1) := by decide +kernel
theorem dX3_begin_7 : decode cX3_begin 7 = .ok (.putfield 31, 3) := by decide +kernel
theorem dX3_begin_10 : decode cX3_begin 10 = .ok (.aload_n 0, 1) := by decide +kernel
theorem dX3_begin_11 : decode cX3_begin 11 = .ok (.iconst 0, 1) := by decide +kernel
theorem dX3_begin_12 : decode cX3_begin 12 = .ok (.putfield 34, 3) := by decide +kernel
theorem dX3_begin_15 : decode cX3_begin 15 = .ok (.return_, 1) := by decide +kernel
theorem dX3_addGroup_0 : decode cX3_addGroup 0 = .ok (.aload_n 0, 1) := by decide +kernel
theorem dX3_addGroup_1 : decode cX3_addGroup 1 = .ok (.getfield 27, 3) := by decide +kernel
theorem dX3_addGroup_4 : decode cX3_addGroup 4 = .ok (.bipush 12, 2) := by decide +kernel
theorem dX3_addGroup_6 : decode cX3_addGroup 6 = .ok (.if_icmp .ge 43, 3) := by decide +kernel
theorem dX3_addGroup_9 : decode cX3_addGroup 9 = .ok (.aload_n 0, 1) := by decide +kernel
theorem dX3_addGroup_10 : decode cX3_addGroup 10 = .ok (.getfield 15, 3) := by decide +kernel
theorem dX3_addGroup_13 : decode cX3_addGroup 13 = .ok (.aload_n 0, 1) := by decide +kernel
theorem dX3_addGroup_14 : decode cX3_addGroup 14 = .ok (.getfield 27, 3) := by decide +kernel
theorem dX3_addGroup_17 : decode cX3_addGroup 17 = .ok (.iload_n 1, 1) := by decide +kernel
theorem dX3_addGroup_18 : decode cX3_addGroup 18 = .ok (.iastore, 1) := by decide +kernel
theorem dX3_addGroup_19 : decode cX3_addGroup 19 = .ok (.aload_n 0, 1) := by decide +kernel
theorem dX3_addGroup_20 : decode cX3_addGroup 20 = .ok (.getfield 18, 3) := by decide +kernel
theorem dX3_addGroup_23 : decode cX3_addGroup 23 = .ok (.aload_n 0, 1) := by decide +kernel
theorem dX3_addGroup_24 : decode cX3_addGroup 24 = .ok (.getfield 27, 3) := by decide +kernel
theorem dX3_addGroup_27 : decode cX3_addGroup 27 = .ok (.iload_n 2, 1) := by decide +kernel
theorem dX3_addGroup_28 : decode cX3_addGroup 28 = .ok (.iastore, 1) := by decide +kernel
theorem dX3_addGroup_29 : decode cX3_addGroup 29 = .ok (.aload_n 0, 1) := by decide +kernel
theorem dX3_addGroup_30 : decode cX3_addGroup 30 = .ok (.getfield 21, 3) := by decide +kernel
theorem dX3_addGroup_33 : decode cX3_addGroup 33 = .ok (.aload_n 0, 1) := by decide +kernel
theorem dX3_addGroup_34 : decode cX3_addGroup 34 = .ok (.getfield 27, 3) := by decide +kernel
theorem dX3_addGroup_37 : decode cX3_addGroup 37 = .ok (.iload_n 3, 1) := by decide +kernel
theorem dX3_addGroup_38 : decode cX3_addGroup 38 = .ok (.iastore, 1) := by decide +kernel
theorem dX3_addGroup_39 : decode cX3_addGroup 39 = .ok (.aload_n 0, 1) := by decide +kernel
theorem dX3_addGroup_40 : decode cX3_addGroup 40 = .ok (.dup, 1) := by decide +kernel
theorem dX3_addGroup_41 : decode cX3_addGroup 41 = .ok (.getfield 27, 3) := by decide +kernel
theorem dX3_addGroup_44 : decode cX3_addGroup 44 = .ok (.iconst 1, 1) := by decide +kernel
theorem dX3_addGroup_45 : decode cX3_addGroup 45 = .ok (.iadd, 1) := by decide +kernel
theorem dX3_addGroup_46 : decode cX3_addGroup 46 = .ok (.putfield 27, 3) := by decide +kernel
theorem dX3_addGroup_49 : decode cX3_addGroup 49 = .ok (.return_, 1) := by decide +kernel
theorem dX3_weightOf_0 : decode cX3_weightOf 0 = .ok (.iconst 0, 1) := by decide +kernel
theorem dX3_weightOf_1 : decode cX3_weightOf 1 = .ok (.istore_n 2, 1) := by decide +kernel
theorem dX3_weightOf_2 : decode cX3_weightOf 2 = .ok (.iconst 0, 1) := by decide +kernel
theorem dX3_weightOf_3 : decode cX3_weightOf 3 = .ok (.istore_n 3, 1) := by decide +kernel
theorem dX3_weightOf_4 : decode cX3_weightOf 4 = .ok (.iload_n 3, 1) := by decide +kernel
theorem dX3_weightOf_5 : decode cX3_weightOf 5 = .ok (.aload_n 0, 1) := by decide +kernel
theorem dX3_weightOf_6 : decode cX3_weightOf 6 = .ok (.getfield 27, 3) := by decide +kernel
theorem dX3_weightOf_9 : decode cX3_weightOf 9 = .ok (.if_icmp .ge 30, 3) := by decide +kernel
theorem dX3_weightOf_12 : decode cX3_weightOf 12 = .ok (.iload_n 2, 1) := by decide +kernel
theorem dX3_weightOf_13 : decode cX3_weightOf 13 = .ok (.iload_n 1, 1) := by decide +kernel
theorem dX3_weightOf_14 : decode cX3_weightOf 14 = .ok (.iload_n 3, 1) := by decide +kernel
theorem dX3_weightOf_15 : decode cX3_weightOf 15 = .ok (.ishr, 1) := by decide +kernel
theorem dX3_weightOf_16 : decode cX3_weightOf 16 = .ok (.iconst 1, 1) := by decide +kernel
theorem dX3_weightOf_17 : decode cX3_weightOf 17 = .ok (.iand, 1) := by decide +kernel
theorem dX3_weightOf_18 : decode cX3_weightOf 18 = .ok (.ifCond .eq 12, 3) := by decide +kernel
theorem dX3_weightOf_21 : decode cX3_weightOf 21 = .ok (.aload_n 0, 1) := by decide +kernel
theorem dX3_weightOf_22 : decode cX3_weightOf 22 = .ok (.getfield 21, 3) := by decide +kernel
theorem dX3_weightOf_25 : decode cX3_weightOf 25 = .ok (.iload_n 3, 1) := by decide +kernel
theorem dX3_weightOf_26 : decode cX3_weightOf 26 = .ok (.iaload, 1) := by decide +kernel
theorem dX3_weightOf_27 : decode cX3_weightOf 27 = .ok (.goto 4, 3) := by decide +kernel
theorem dX3_weightOf_30 : decode cX3_weightOf 30 = .ok (.iconst 0, 1) := by decide +kernel
theorem dX3_weightOf_31 : decode cX3_weightOf 31 = .ok (.iadd, 1) := by decide +kernel
theorem dX3_weightOf_32 : decode cX3_weightOf 32 = .ok (.istore_n 2, 1) := by decide +kernel
theorem dX3_weightOf_33 : decode cX3_weightOf 33 = .ok (.iinc 3 1, 3) := by decide +kernel
theorem dX3_weightOf_36 : decode cX3_weightOf 36 = .ok (.goto (-32), 3) := by decide +kernel
theorem dX3_weightOf_39 : decode cX3_weightOf 39 = .ok (.iload_n 2, 1) := by decide +kernel
theorem dX3_weightOf_40 : decode cX3_weightOf 40 = .ok (.ireturn, 1) := by decide +kernel
theorem dX3_sayingsOf_0 : decode cX3_sayingsOf 0 = .ok (.iconst 0, 1) := by decide +kernel
theorem dX3_sayingsOf_1 : decode cX3_sayingsOf 1 = .ok (.istore_n 2, 1) := by decide +kernel
theorem dX3_sayingsOf_2 : decode cX3_sayingsOf 2 = .ok (.iconst 0, 1) := by decide +kernel
theorem dX3_sayingsOf_3 : decode cX3_sayingsOf 3 = .ok (.istore_n 3, 1) := by decide +kernel
theorem dX3_sayingsOf_4 : decode cX3_sayingsOf 4 = .ok (.iload_n 3, 1) := by decide +kernel
theorem dX3_sayingsOf_5 : decode cX3_sayingsOf 5 = .ok (.aload_n 0, 1) := by decide +kernel
theorem dX3_sayingsOf_6 : decode cX3_sayingsOf 6 = .ok (.getfield 27, 3) := by decide +kernel
theorem dX3_sayingsOf_9 : decode cX3_sayingsOf 9 = .ok (.if_icmp .ge 30, 3) := by decide +kernel
theorem dX3_sayingsOf_12 : decode cX3_sayingsOf 12 = .ok (.iload_n 2, 1) := by decide +kernel
theorem dX3_sayingsOf_13 : decode cX3_sayingsOf 13 = .ok (.iload_n 1, 1) := by decide +kernel
theorem dX3_sayingsOf_14 : decode cX3_sayingsOf 14 = .ok (.iload_n 3, 1) := by decide +kernel
theorem dX3_sayingsOf_15 : decode cX3_sayingsOf 15 = .ok (.ishr, 1) := by decide +kernel
theorem dX3_sayingsOf_16 : decode cX3_sayingsOf 16 = .ok (.iconst 1, 1) := by decide +kernel
theorem dX3_sayingsOf_17 : decode cX3_sayingsOf 17 = .ok (.iand, 1) := by decide +kernel
theorem dX3_sayingsOf_18 : decode cX3_sayingsOf 18 = .ok (.ifCond .eq 12, 3) := by decide +kernel
theorem dX3_sayingsOf_21 : decode cX3_sayingsOf 21 = .ok (.aload_n 0, 1) := by decide +kernel
theorem dX3_sayingsOf_22 : decode cX3_sayingsOf 22 = .ok (.getfield 18, 3) := by decide +kernel
theorem dX3_sayingsOf_25 : decode cX3_sayingsOf 25 = .ok (.iload_n 3, 1) := by decide +kernel
theorem dX3_sayingsOf_26 : decode cX3_sayingsOf 26 = .ok (.iaload, 1) := by decide +kernel
theorem dX3_sayingsOf_27 : decode cX3_sayingsOf 27 = .ok (.goto 4, 3) := by decide +kernel
theorem dX3_sayingsOf_30 : decode cX3_sayingsOf 30 = .ok (.iconst 0, 1) := by decide +kernel
theorem dX3_sayingsOf_31 : decode cX3_sayingsOf 31 = .ok (.ior, 1) := by decide +kernel
theorem dX3_sayingsOf_32 : decode cX3_sayingsOf 32 = .ok (.istore_n 2, 1) := by decide +kernel
theorem dX3_sayingsOf_33 : decode cX3_sayingsOf 33 = .ok (.iinc 3 1, 3) := by decide +kernel
theorem dX3_sayingsOf_36 : decode cX3_sayingsOf 36 = .ok (.goto (-32), 3) := by decide +kernel
theorem dX3_sayingsOf_39 : decode cX3_sayingsOf 39 = .ok (.iload_n 2, 1) := by decide +kernel
theorem dX3_sayingsOf_40 : decode cX3_sayingsOf 40 = .ok (.ireturn, 1) := by decide +kernel
theorem dX3_rootsOf_0 : decode cX3_rootsOf 0 = .ok (.iconst 0, 1) := by decide +kernel
theorem dX3_rootsOf_1 : decode cX3_rootsOf 1 = .ok (.istore_n 2, 1) := by decide +kernel
theorem dX3_rootsOf_2 : decode cX3_rootsOf 2 = .ok (.iconst 0, 1) := by decide +kernel
theorem dX3_rootsOf_3 : decode cX3_rootsOf 3 = .ok (.istore_n 3, 1) := by decide +kernel
theorem dX3_rootsOf_4 : decode cX3_rootsOf 4 = .ok (.iload_n 3, 1) := by decide +kernel
theorem dX3_rootsOf_5 : decode cX3_rootsOf 5 = .ok (.aload_n 0, 1) := by decide +kernel
theorem dX3_rootsOf_6 : decode cX3_rootsOf 6 = .ok (.getfield 27, 3) := by decide +kernel
theorem dX3_rootsOf_9 : decode cX3_rootsOf 9 = .ok (.if_icmp .ge 32, 3) := by decide +kernel
theorem dX3_rootsOf_12 : decode cX3_rootsOf 12 = .ok (.iload_n 2, 1) := by decide +kernel
theorem dX3_rootsOf_13 : decode cX3_rootsOf 13 = .ok (.iload_n 1, 1) := by decide +kernel
theorem dX3_rootsOf_14 : decode cX3_rootsOf 14 = .ok (.iload_n 3, 1) := by decide +kernel
theorem dX3_rootsOf_15 : decode cX3_rootsOf 15 = .ok (.ishr, 1) := by decide +kernel
theorem dX3_rootsOf_16 : decode cX3_rootsOf 16 = .ok (.iconst 1, 1) := by decide +kernel
theorem dX3_rootsOf_17 : decode cX3_rootsOf 17 = .ok (.iand, 1) := by decide +kernel
theorem dX3_rootsOf_18 : decode cX3_rootsOf 18 = .ok (.ifCond .eq 14, 3) := by decide +kernel
theorem dX3_rootsOf_21 : decode cX3_rootsOf 21 = .ok (.iconst 1, 1) := by decide +kernel
theorem dX3_rootsOf_22 : decode cX3_rootsOf 22 = .ok (.aload_n 0, 1) := by decide +kernel
theorem dX3_rootsOf_23 : decode cX3_rootsOf 23 = .ok (.getfield 15, 3) := by decide +kernel
theorem dX3_rootsOf_26 : decode cX3_rootsOf 26 = .ok (.iload_n 3, 1) := by decide +kernel
theorem dX3_rootsOf_27 : decode cX3_rootsOf 27 = .ok (.iaload, 1) := by decide +kernel
theorem dX3_rootsOf_28 : decode cX3_rootsOf 28 = .ok (.ishl, 1) := by decide +kernel
theorem dX3_rootsOf_29 : decode cX3_rootsOf 29 = .ok (.goto 4, 3) := by decide +kernel
theorem dX3_rootsOf_32 : decode cX3_rootsOf 32 = .ok (.iconst 0, 1) := by decide +kernel
theorem dX3_rootsOf_33 : decode cX3_rootsOf 33 = .ok (.ior, 1) := by decide +kernel
theorem dX3_rootsOf_34 : decode cX3_rootsOf 34 = .ok (.istore_n 2, 1) := by decide +kernel
theorem dX3_rootsOf_35 : decode cX3_rootsOf 35 = .ok (.iinc 3 1, 3) := by decide +kernel
theorem dX3_rootsOf_38 : decode cX3_rootsOf 38 = .ok (.goto (-34), 3) := by decide +kernel
theorem dX3_rootsOf_41 : decode cX3_rootsOf 41 = .ok (.iload_n 2, 1) := by decide +kernel
theorem dX3_rootsOf_42 : decode cX3_rootsOf 42 = .ok (.ireturn, 1) := by decide +kernel
theorem dX3_tooHeavy_0 : decode cX3_tooHeavy 0 = .ok (.aload_n 0, 1) := by decide +kernel
theorem dX3_tooHeavy_1 : decode cX3_tooHeavy 1 = .ok (.getfield 31, 3) := by decide +kernel
theorem dX3_tooHeavy_4 : decode cX3_tooHeavy 4 = .ok (.ifCond .le 15, 3) := by decide +kernel
theorem dX3_tooHeavy_7 : decode cX3_tooHeavy 7 = .ok (.iload_n 1, 1) := by decide +kernel
theorem dX3_tooHeavy_8 : decode cX3_tooHeavy 8 = .ok (.aload_n 0, 1) := by decide +kernel
theorem dX3_tooHeavy_9 : decode cX3_tooHeavy 9 = .ok (.getfield 34, 3) := by decide +kernel
theorem dX3_tooHeavy_12 : decode cX3_tooHeavy 12 = .ok (.if_icmp .le 7, 3) := by decide +kernel
theorem dX3_tooHeavy_15 : decode cX3_tooHeavy 15 = .ok (.iconst 1, 1) := by decide +kernel
theorem dX3_tooHeavy_16 : decode cX3_tooHeavy 16 = .ok (.goto 4, 3) := by decide +kernel
theorem dX3_tooHeavy_19 : decode cX3_tooHeavy 19 = .ok (.iconst 0, 1) := by decide +kernel
theorem dX3_tooHeavy_20 : decode cX3_tooHeavy 20 = .ok (.ireturn, 1) := by decide +kernel
theorem dX3_note_0 : decode cX3_note 0 = .ok (.aload_n 0, 1) := by decide +kernel
theorem dX3_note_1 : decode cX3_note 1 = .ok (.getfield 31, 3) := by decide +kernel
theorem dX3_note_4 : decode cX3_note 4 = .ok (.ifCond .eq 11, 3) := by decide +kernel
theorem dX3_note_7 : decode cX3_note 7 = .ok (.iload_n 1, 1) := by decide +kernel
theorem dX3_note_8 : decode cX3_note 8 = .ok (.aload_n 0, 1) := by decide +kernel
theorem dX3_note_9 : decode cX3_note 9 = .ok (.getfield 34, 3) := by decide +kernel
theorem dX3_note_12 : decode cX3_note 12 = .ok (.if_icmp .ge 13, 3) := by decide +kernel
theorem dX3_note_15 : decode cX3_note 15 = .ok (.aload_n 0, 1) := by decide +kernel
theorem dX3_note_16 : decode cX3_note 16 = .ok (.iconst 0, 1) := by decide +kernel
theorem dX3_note_17 : decode cX3_note 17 = .ok (.putfield 31, 3) := by decide +kernel
theorem dX3_note_20 : decode cX3_note 20 = .ok (.aload_n 0, 1) := by decide +kernel
theorem dX3_note_21 : decode cX3_note 21 = .ok (.iload_n 1, 1) := by decide +kernel
theorem dX3_note_22 : decode cX3_note 22 = .ok (.putfield 34, 3) := by decide +kernel
theorem dX3_note_25 : decode cX3_note 25 = .ok (.aload_n 0, 1) := by decide +kernel
theorem dX3_note_26 : decode cX3_note 26 = .ok (.getfield 31, 3) := by decide +kernel
theorem dX3_note_29 : decode cX3_note 29 = .ok (.sipush 924, 3) := by decide +kernel
theorem dX3_note_32 : decode cX3_note 32 = .ok (.if_icmp .ge 23, 3) := by decide +kernel
theorem dX3_note_35 : decode cX3_note 35 = .ok (.aload_n 0, 1) := by decide +kernel
theorem dX3_note_36 : decode cX3_note 36 = .ok (.getfield 24, 3) := by decide +kernel
theorem dX3_note_39 : decode cX3_note 39 = .ok (.aload_n 0, 1) := by decide +kernel
theorem dX3_note_40 : decode cX3_note 40 = .ok (.getfield 31, 3) := by decide +kernel
theorem dX3_note_43 : decode cX3_note 43 = .ok (.iload_n 2, 1) := by decide +kernel
theorem dX3_note_44 : decode cX3_note 44 = .ok (.iastore, 1) := by decide +kernel
theorem dX3_note_45 : decode cX3_note 45 = .ok (.aload_n 0, 1) := by decide +kernel
theorem dX3_note_46 : decode cX3_note 46 = .ok (.dup, 1) := by decide +kernel
theorem dX3_note_47 : decode cX3_note 47 = .ok (.getfield 31, 3) := by decide +kernel
theorem dX3_note_50 : decode cX3_note 50 = .ok (.iconst 1, 1) := by decide +kernel
theorem dX3_note_51 : decode cX3_note 51 = .ok (.iadd, 1) := by decide +kernel
theorem dX3_note_52 : decode cX3_note 52 = .ok (.putfield 31, 3) := by decide +kernel
theorem dX3_note_55 : decode cX3_note 55 = .ok (.return_, 1) := by decide +kernel
theorem dX3_tell_0 : decode cX3_tell 0 = .ok (.aload_n 0, 1) := by decide +kernel
theorem dX3_tell_1 : decode cX3_tell 1 = .ok (.getfield 24, 3) := by decide +kernel
theorem dX3_tell_4 : decode cX3_tell 4 = .ok (.iconst 0, 1) := by decide +kernel
theorem dX3_tell_5 : decode cX3_tell 5 = .ok (.aload_n 0, 1) := by decide +kernel
theorem dX3_tell_6 : decode cX3_tell 6 = .ok (.getfield 11, 3) := by decide +kernel
theorem dX3_tell_9 : decode cX3_tell 9 = .ok (.iconst 0, 1) := by decide +kernel
theorem dX3_tell_10 : decode cX3_tell 10 = .ok (.aload_n 0, 1) := by decide +kernel
theorem dX3_tell_11 : decode cX3_tell 11 = .ok (.getfield 31, 3) := by decide +kernel
theorem dX3_tell_14 : decode cX3_tell 14 = .ok (.invokestatic 37, 3) := by decide +kernel
theorem dX3_tell_17 : decode cX3_tell 17 = .ok (.aload_n 0, 1) := by decide +kernel
theorem dX3_tell_18 : decode cX3_tell 18 = .ok (.aload_n 0, 1) := by decide +kernel
theorem dX3_tell_19 : decode cX3_tell 19 = .ok (.getfield 31, 3) := by decide +kernel
theorem dX3_tell_22 : decode cX3_tell 22 = .ok (.putfield 43, 3) := by decide +kernel
theorem dX3_tell_25 : decode cX3_tell 25 = .ok (.return_, 1) := by decide +kernel
theorem dX4_init_0 : decode cX4_init 0 = .ok (.aload_n 0, 1) := by decide +kernel
theorem dX4_init_1 : decode cX4_init 1 = .ok (.invokespecial 3, 3) := by decide +kernel
theorem dX4_init_4 : decode cX4_init 4 = .ok (.aload_n 0, 1) := by decide +kernel
theorem dX4_init_5 : decode cX4_init 5 = .ok (.bipush 10, 2) := by decide +kernel
theorem dX4_init_7 : decode cX4_init 7 = .ok (.newarray .int, 2) := by decide +kernel
theorem dX4_init_9 : decode cX4_init 9 = .ok (.putfield 9, 3) := by decide +kernel
theorem dX4_init_12 : decode cX4_init 12 = .ok (.aload_n 0, 1) := by decide +kernel
theorem dX4_init_13 : decode cX4_init 13 = .ok (.bipush 10, 2) := by decide +kernel
theorem dX4_init_15 : decode cX4_init 15 = .ok (.newarray .int, 2) := by decide +kernel
theorem dX4_init_17 : decode cX4_init 17 = .ok (.putfield 15, 3) := by decide +kernel
theorem dX4_init_20 : decode cX4_init 20 = .ok (.return_, 1) := by decide +kernel
theorem dX4_clear_0 : decode cX4_clear 0 = .ok (.aload_n 0, 1) := by decide +kernel
theorem dX4_clear_1 : decode cX4_clear 1 = .ok (.iconst 0, 1) := by decide +kernel
theorem dX4_clear_2 : decode cX4_clear 2 = .ok (.putfield 18, 3) := by decide +kernel
theorem dX4_clear_5 : decode cX4_clear 5 = .ok (.return_, 1) := by decide +kernel
theorem dX4_has_0 : decode cX4_has 0 = .ok (.iload_n 1, 1) := by decide +kernel
theorem dX4_has_1 : decode cX4_has 1 = .ok (.ifCond .lt 15, 3) := by decide +kernel
theorem dX4_has_4 : decode cX4_has 4 = .ok (.iload_n 1, 1) := by decide +kernel
theorem dX4_has_5 : decode cX4_has 5 = .ok (.aload_n 0, 1) := by decide +kernel
theorem dX4_has_6 : decode cX4_has 6 = .ok (.getfield 18, 3) := by decide +kernel
theorem dX4_has_9 : decode cX4_has 9 = .ok (.if_icmp .ge 7, 3) := by decide +kernel
theorem dX4_has_12 : decode cX4_has 12 = .ok (.iconst 1, 1) := by decide +kernel
theorem dX4_has_13 : decode cX4_has 13 = .ok (.goto 4, 3) := by decide +kernel
theorem dX4_has_16 : decode cX4_has 16 = .ok (.iconst 0, 1) := by decide +kernel
theorem dX4_has_17 : decode cX4_has 17 = .ok (.ireturn, 1) := by decide +kernel
theorem dX4_add_0 : decode cX4_add 0 = .ok (.iload_n 1, 1) := by decide +kernel
theorem dX4_add_1 : decode cX4_add 1 = .ok (.iconst 0, 1) := by decide +kernel
theorem dX4_add_2 : decode cX4_add 2 = .ok (.invokestatic 22, 3) := by decide +kernel
theorem dX4_add_5 : decode cX4_add 5 = .ok (.istore_n 3, 1) := by decide +kernel
theorem dX4_add_6 : decode cX4_add 6 = .ok (.iload_n 2, 1) := by decide +kernel
theorem dX4_add_7 : decode cX4_add 7 = .ok (.ldc 28, 2) := by decide +kernel
theorem dX4_add_9 : decode cX4_add 9 = .ok (.invokestatic 29, 3) := by decide +kernel
theorem dX4_add_12 : decode cX4_add 12 = .ok (.istore 4, 2) := by decide +kernel
theorem dX4_add_14 : decode cX4_add 14 = .ok (.iload_n 3, 1) := by decide +kernel
theorem dX4_add_15 : decode cX4_add 15 = .ok (.iload 4, 2) := by decide +kernel
theorem dX4_add_17 : decode cX4_add 17 = .ok (.if_icmp .gt 43, 3) := by decide +kernel
theorem dX4_add_20 : decode cX4_add 20 = .ok (.aload_n 0, 1) := by decide +kernel
theorem dX4_add_21 : decode cX4_add 21 = .ok (.getfield 18, 3) := by decide +kernel
theorem dX4_add_24 : decode cX4_add 24 = .ok (.bipush 10, 2) := by decide +kernel
theorem dX4_add_26 : decode cX4_add 26 = .ok (.if_icmp .ge 34, 3) := by decide +kernel
theorem dX4_add_29 : decode cX4_add 29 = .ok (.aload_n 0, 1) := by decide +kernel
theorem dX4_add_30 : decode cX4_add 30 = .ok (.getfield 9, 3) := by decide +kernel
theorem dX4_add_33 : decode cX4_add 33 = .ok (.aload_n 0, 1) := by decide +kernel
theorem dX4_add_34 : decode cX4_add 34 = .ok (.getfield 18, 3) := by decide +kernel
theorem dX4_add_37 : decode cX4_add 37 = .ok (.iload_n 3, 1) := by decide +kernel
theorem dX4_add_38 : decode cX4_add 38 = .ok (.iastore, 1) := by decide +kernel
theorem dX4_add_39 : decode cX4_add 39 = .ok (.aload_n 0, 1) := by decide +kernel
theorem dX4_add_40 : decode cX4_add 40 = .ok (.getfield 15, 3) := by decide +kernel
theorem dX4_add_43 : decode cX4_add 43 = .ok (.aload_n 0, 1) := by decide +kernel
theorem dX4_add_44 : decode cX4_add 44 = .ok (.getfield 18, 3) := by decide +kernel
theorem dX4_add_47 : decode cX4_add 47 = .ok (.iload 4, 2) := by decide +kernel
theorem dX4_add_49 : decode cX4_add 49 = .ok (.iastore, 1) := by decide +kernel
theorem dX4_add_50 : decode cX4_add 50 = .ok (.aload_n 0, 1) := by decide +kernel
theorem dX4_add_51 : decode cX4_add 51 = .ok (.dup, 1) := by decide +kernel
theorem dX4_add_52 : decode cX4_add 52 = .ok (.getfield 18, 3) := by decide +kernel
theorem dX4_add_55 : decode cX4_add 55 = .ok (.iconst 1, 1) := by decide +kernel
theorem dX4_add_56 : decode cX4_add 56 = .ok (.iadd, 1) := by decide +kernel
theorem dX4_add_57 : decode cX4_add 57 = .ok (.putfield 18, 3) := by decide +kernel
theorem dX4_add_60 : decode cX4_add 60 = .ok (.return_, 1) := by decide +kernel
set_option maxRecDepth 20000 in
theorem ggX4_setToCommon_X4_clear : GoodIn wsX4_setToCommon wsX4_clear := goodIn_r _ [15, 1, 21, 22, 23] (by decide +kernel) (by decide +kernel)
set_option maxRecDepth 20000 in
theorem gX4_setToCommon_X4_clear : GoodIn wsX4_setToCommon (wsV RX4 32 RX4 yX4_clear wsX4_clear) := goodIn_app (goodIn_of _ (by decide +kernel)) ggX4_setToCommon_X4_clear
set_option maxRecDepth 20000 in
theorem ggX4_setToCommon_X4_add : GoodIn wsX4_setToCommon wsX4_add := goodIn_r _ [19, 3, 4, 5, 6, 20, 8, 9, 10, 1, 2, 7, 21, 22, 23] (by decide +kernel) (by decide +kernel)
set_option maxRecDepth 20000 in
theorem gX4_setToCommon_X4_add : GoodIn wsX4_setToCommon (wsV RX4 35 RX4 yX4_add wsX4_add) := goodIn_app (goodIn_of _ (by decide +kernel)) ggX4_setToCommon_X4_add
theorem dX4_setToCommon_0 : decode cX4_setToCommon 0 = .ok (.aload_n 0, 1) := by decide +kernel
theorem dX4_setToCommon_1 : decode cX4_setToCommon 1 = .ok (.invokevirtual 32, 3) := by decide +kernel
theorem dX4_setToCommon_4 : decode cX4_setToCommon 4 = .ok (.iconst 0, 1) := by decide +kernel
theorem dX4_setToCommon_5 : decode cX4_setToCommon 5 = .ok (.istore_n 3, 1) := by decide +kernel
theorem dX4_setToCommon_6 : decode cX4_setToCommon 6 = .ok (.iconst 0, 1) := by decide +kernel
theorem dX4_setToCommon_7 : decode cX4_setToCommon 7 = .ok (.istore 4, 2) := by decide +kernel
theorem dX4_setToCommon_9 : decode cX4_setToCommon 9 = .ok (.iload_n 3, 1) := by decide +kernel
theorem dX4_setToCommon_10 : decode cX4_setToCommon 10 = .ok (.aload_n 1, 1) := by decide +kernel
theorem dX4_setToCommon_11 : decode cX4_setToCommon 11 = .ok (.getfield 18, 3) := by decide +kernel
theorem dX4_setToCommon_14 : decode cX4_setToCommon 14 = .ok (.if_icmp .ge 76, 3) := by decide +kernel
theorem dX4_setToCommon_17 : decode cX4_setToCommon 17 = .ok (.iload 4, 2) := by decide +kernel
theorem dX4_setToCommon_19 : decode cX4_setToCommon 19 = .ok (.aload_n 2, 1) := by decide +kernel
theorem dX4_setToCommon_20 : decode cX4_setToCommon 20 = .ok (.getfield 18, 3) := by decide +kernel
theorem dX4_setToCommon_23 : decode cX4_setToCommon 23 = .ok (.if_icmp .ge 67, 3) := by decide +kernel
theorem dX4_setToCommon_26 : decode cX4_setToCommon 26 = .ok (.aload_n 0, 1) := by decide +kernel
theorem dX4_setToCommon_27 : decode cX4_setToCommon 27 = .ok (.aload_n 1, 1) := by decide +kernel
theorem dX4_setToCommon_28 : decode cX4_setToCommon 28 = .ok (.getfield 9, 3) := by decide +kernel
theorem dX4_setToCommon_31 : decode cX4_setToCommon 31 = .ok (.iload_n 3, 1) := by decide +kernel
theorem dX4_setToCommon_32 : decode cX4_setToCommon 32 = .ok (.iaload, 1) := by decide +kernel
theorem dX4_setToCommon_33 : decode cX4_setToCommon 33 = .ok (.aload_n 2, 1) := by decide +kernel
theorem dX4_setToCommon_34 : decode cX4_setToCommon 34 = .ok (.getfield 9, 3) := by decide +kernel
theorem dX4_setToCommon_37 : decode cX4_setToCommon 37 = .ok (.iload 4, 2) := by decide +kernel
theorem dX4_setToCommon_39 : decode cX4_setToCommon 39 = .ok (.iaload, 1) := by decide +kernel
theorem dX4_setToCommon_40 : decode cX4_setToCommon 40 = .ok (.invokestatic 22, 3) := by decide +kernel
theorem dX4_setToCommon_43 : decode cX4_setToCommon 43 = .ok (.aload_n 1, 1) := by decide +kernel
theorem dX4_setToCommon_44 : decode cX4_setToCommon 44 = .ok (.getfield 15, 3) := by decide +kernel
theorem dX4_setToCommon_47 : decode cX4_setToCommon 47 = .ok (.iload_n 3, 1) := by decide +kernel
theorem dX4_setToCommon_48 : decode cX4_setToCommon 48 = .ok (.iaload, 1) := by decide +kernel
theorem dX4_setToCommon_49 : decode cX4_setToCommon 49 = .ok (.aload_n 2, 1) := by decide +kernel
theorem dX4_setToCommon_50 : decode cX4_setToCommon 50 = .ok (.getfield 15, 3) := by decide +kernel
theorem dX4_setToCommon_53 : decode cX4_setToCommon 53 = .ok (.iload 4, 2) := by decide +kernel
theorem dX4_setToCommon_55 : decode cX4_setToCommon 55 = .ok (.iaload, 1) := by decide +kernel
theorem dX4_setToCommon_56 : decode cX4_setToCommon 56 = .ok (.invokestatic 29, 3) := by decide +kernel
theorem dX4_setToCommon_59 : decode cX4_setToCommon 59 = .ok (.invokevirtual 35, 3) := by decide +kernel
theorem dX4_setToCommon_62 : decode cX4_setToCommon 62 = .ok (.aload_n 1, 1) := by decide +kernel
theorem dX4_setToCommon_63 : decode cX4_setToCommon 63 = .ok (.getfield 15, 3) := by decide +kernel
theorem dX4_setToCommon_66 : decode cX4_setToCommon 66 = .ok (.iload_n 3, 1) := by decide +kernel
theorem dX4_setToCommon_67 : decode cX4_setToCommon 67 = .ok (.iaload, 1) := by decide +kernel
theorem dX4_setToCommon_68 : decode cX4_setToCommon 68 = .ok (.aload_n 2, 1) := by decide +kernel
theorem dX4_setToCommon_69 : decode cX4_setToCommon 69 = .ok (.getfield 15, 3) := by decide +kernel
theorem dX4_setToCommon_72 : decode cX4_setToCommon 72 = .ok (.iload 4, 2) := by decide +kernel
theorem dX4_setToCommon_74 : decode cX4_setToCommon 74 = .ok (.iaload, 1) := by decide +kernel
theorem dX4_setToCommon_75 : decode cX4_setToCommon 75 = .ok (.if_icmp .ge 9, 3) := by decide +kernel
theorem dX4_setToCommon_78 : decode cX4_setToCommon 78 = .ok (.iinc 3 1, 3) := by decide +kernel
theorem dX4_setToCommon_81 : decode cX4_setToCommon 81 = .ok (.goto (-72), 3) := by decide +kernel
theorem dX4_setToCommon_84 : decode cX4_setToCommon 84 = .ok (.iinc 4 1, 3) := by decide +kernel
theorem dX4_setToCommon_87 : decode cX4_setToCommon 87 = .ok (.goto (-78), 3) := by decide +kernel
theorem dX4_setToCommon_90 : decode cX4_setToCommon 90 = .ok (.return_, 1) := by decide +kernel
