theorem dX4_tubeThatCounts_80 : decode cX4_tubeThatCounts 80 = .ok (.ireturn, 1) := by decide +kernel
set_option maxRecDepth 20000 in
theorem ggX4_wantFans_X3_want : GoodIn wsX4_wantFans wsX3_want := goodIn_r _ [13, 14, 15, 16, 17, 18, 19, 20, 21, 22, 23, 24, 25, 26, 27] (by decide +kernel) (by decide +kernel)
set_option maxRecDepth 20000 in
theorem gX4_wantFans_X3_want : GoodIn wsX4_wantFans (wsV RX4 225 RX3 yX3_want wsX3_want) := goodIn_app (goodIn_of _ (by decide +kernel)) ggX4_wantFans_X3_want
theorem dX4_wantFans_0 : decode cX4_wantFans 0 = .ok (.aload_n 1, 1) := by decide +kernel
theorem dX4_wantFans_1 : decode cX4_wantFans 1 = .ok (.getfield 146, 3) := by decide +kernel
theorem dX4_wantFans_4 : decode cX4_wantFans 4 = .ok (.istore_n 3, 1) := by decide +kernel
theorem dX4_wantFans_5 : decode cX4_wantFans 5 = .ok (.iload_n 0, 1) := by decide +kernel
theorem dX4_wantFans_6 : decode cX4_wantFans 6 = .ok (.ifCond .eq 8, 3) := by decide +kernel
theorem dX4_wantFans_9 : decode cX4_wantFans 9 = .ok (.iload_n 3, 1) := by decide +kernel
theorem dX4_wantFans_10 : decode cX4_wantFans 10 = .ok (.iconst (-1), 1) := by decide +kernel
theorem dX4_wantFans_11 : decode cX4_wantFans 11 = .ok (.if_icmp .ne 28, 3) := by decide +kernel
theorem dX4_wantFans_14 : decode cX4_wantFans 14 = .ok (.aload_n 1, 1) := by decide +kernel
theorem dX4_wantFans_15 : decode cX4_wantFans 15 = .ok (.aload_n 1, 1) := by decide +kernel
theorem dX4_wantFans_16 : decode cX4_wantFans 16 = .ok (.getfield 125, 3) := by decide +kernel
theorem dX4_wantFans_19 : decode cX4_wantFans 19 = .ok (.aload_n 1, 1) := by decide +kernel
theorem dX4_wantFans_20 : decode cX4_wantFans 20 = .ok (.getfield 128, 3) := by decide +kernel
theorem dX4_wantFans_23 : decode cX4_wantFans 23 = .ok (.invokevirtual 225, 3) := by decide +kernel
theorem dX4_wantFans_26 : decode cX4_wantFans 26 = .ok (.aload_n 2, 1) := by decide +kernel
theorem dX4_wantFans_27 : decode cX4_wantFans 27 = .ok (.aload_n 2, 1) := by decide +kernel
theorem dX4_wantFans_28 : decode cX4_wantFans 28 = .ok (.getfield 125, 3) := by decide +kernel
theorem dX4_wantFans_31 : decode cX4_wantFans 31 = .ok (.aload_n 2, 1) := by decide +kernel
theorem dX4_wantFans_32 : decode cX4_wantFans 32 = .ok (.getfield 128, 3) := by decide +kernel
theorem dX4_wantFans_35 : decode cX4_wantFans 35 = .ok (.invokevirtual 225, 3) := by decide +kernel
theorem dX4_wantFans_38 : decode cX4_wantFans 38 = .ok (.return_, 1) := by decide +kernel
theorem dX4_wantFans_39 : decode cX4_wantFans 39 = .ok (.aload_n 1, 1) := by decide +kernel
theorem dX4_wantFans_40 : decode cX4_wantFans 40 = .ok (.getfield 84, 3) := by decide +kernel
theorem dX4_wantFans_43 : decode cX4_wantFans 43 = .ok (.iload_n 3, 1) := by decide +kernel
theorem dX4_wantFans_44 : decode cX4_wantFans 44 = .ok (.aaload, 1) := by decide +kernel
theorem dX4_wantFans_45 : decode cX4_wantFans 45 = .ok (.astore 4, 2) := by decide +kernel
theorem dX4_wantFans_47 : decode cX4_wantFans 47 = .ok (.aload_n 1, 1) := by decide +kernel
theorem dX4_wantFans_48 : decode cX4_wantFans 48 = .ok (.aload 4, 2) := by decide +kernel
theorem dX4_wantFans_50 : decode cX4_wantFans 50 = .ok (.getfield 96, 3) := by decide +kernel
theorem dX4_wantFans_53 : decode cX4_wantFans 53 = .ok (.aload 4, 2) := by decide +kernel
theorem dX4_wantFans_55 : decode cX4_wantFans 55 = .ok (.getfield 99, 3) := by decide +kernel
theorem dX4_wantFans_58 : decode cX4_wantFans 58 = .ok (.invokevirtual 225, 3) := by decide +kernel
theorem dX4_wantFans_61 : decode cX4_wantFans 61 = .ok (.aload_n 2, 1) := by decide +kernel
theorem dX4_wantFans_62 : decode cX4_wantFans 62 = .ok (.aload 4, 2) := by decide +kernel
theorem dX4_wantFans_64 : decode cX4_wantFans 64 = .ok (.getfield 105, 3) := by decide +kernel
theorem dX4_wantFans_67 : decode cX4_wantFans 67 = .ok (.aload 4, 2) := by decide +kernel
theorem dX4_wantFans_69 : decode cX4_wantFans 69 = .ok (.getfield 102, 3) := by decide +kernel
theorem dX4_wantFans_72 : decode cX4_wantFans 72 = .ok (.invokevirtual 225, 3) := by decide +kernel
theorem dX4_wantFans_75 : decode cX4_wantFans 75 = .ok (.return_, 1) := by decide +kernel
set_option maxRecDepth 20000 in
theorem ggX4_shedLoad_X4_load : GoodIn wsX4_shedLoad wsX4_load := goodIn_r _ [7, 8, 2, 9, 10, 11, 12, 13, 14, 15, 16, 17, 18, 19, 20, 21, 22, 23, 24, 25, 26, 54, 55, 56, 57, 58, 59, 60, 61, 62, 63, 64, 65, 66, 67, 68, 69, 70, 71, 72, 73, 74, 75, 76, 77, 78, 79, 80, 81, 82, 83, 84, 85, 86, 87, 88, 89] (by decide +kernel) (by decide +kernel)
set_option maxRecDepth 20000 in
theorem gX4_shedLoad_X4_load : GoodIn wsX4_shedLoad (wsV RX4 228 RX4 yX4_load wsX4_load) := goodIn_app (goodIn_of _ (by decide +kernel)) ggX4_shedLoad_X4_load
set_option maxRecDepth 20000 in
theorem ggX4_shedLoad_X3_stopLongestRun : GoodIn wsX4_shedLoad wsX3_stopLongestRun := goodIn_r _ [30, 31, 32, 33, 13, 34, 15, 16, 35, 23, 36, 37, 38, 39, 40, 41, 42, 43, 44, 20, 45, 46, 47, 48, 49, 50, 51, 52, 53, 63, 64, 65, 66, 67, 68, 69, 70, 71, 72, 73, 74, 75, 76, 77, 78, 79, 80, 81, 82, 83, 84, 85, 86, 87, 88, 89] (by decide +kernel) (by decide +kernel)
set_option maxRecDepth 20000 in
theorem gX4_shedLoad_X3_stopLongestRun : GoodIn wsX4_shedLoad (wsV RX4 231 RX3 yX3_stopLongestRun wsX3_stopLongestRun) := goodIn_app (goodIn_of _ (by decide +kernel)) ggX4_shedLoad_X3_stopLongestRun
theorem dX4_shedLoad_0 : decode cX4_shedLoad 0 = .ok (.iconst 0, 1) := by decide +kernel
theorem dX4_shedLoad_1 : decode cX4_shedLoad 1 = .ok (.istore_n 3, 1) := by decide +kernel
theorem dX4_shedLoad_2 : decode cX4_shedLoad 2 = .ok (.iload_n 3, 1) := by decide +kernel
theorem dX4_shedLoad_3 : decode cX4_shedLoad 3 = .ok (.bipush 24, 2) := by decide +kernel
theorem dX4_shedLoad_5 : decode cX4_shedLoad 5 = .ok (.if_icmp .ge 40, 3) := by decide +kernel
theorem dX4_shedLoad_8 : decode cX4_shedLoad 8 = .ok (.aload_n 0, 1) := by decide +kernel
theorem dX4_shedLoad_9 : decode cX4_shedLoad 9 = .ok (.invokevirtual 228, 3) := by decide +kernel
theorem dX4_shedLoad_12 : decode cX4_shedLoad 12 = .ok (.aload_n 0, 1) := by decide +kernel
theorem dX4_shedLoad_13 : decode cX4_shedLoad 13 = .ok (.getfield 21, 3) := by decide +kernel
theorem dX4_shedLoad_16 : decode cX4_shedLoad 16 = .ok (.if_icmp .le 29, 3) := by decide +kernel
theorem dX4_shedLoad_19 : decode cX4_shedLoad 19 = .ok (.aload_n 2, 1) := by decide +kernel
theorem dX4_shedLoad_20 : decode cX4_shedLoad 20 = .ok (.aload_n 0, 1) := by decide +kernel
theorem dX4_shedLoad_21 : decode cX4_shedLoad 21 = .ok (.getfield 61, 3) := by decide +kernel
theorem dX4_shedLoad_24 : decode cX4_shedLoad 24 = .ok (.invokevirtual 231, 3) := by decide +kernel
theorem dX4_shedLoad_27 : decode cX4_shedLoad 27 = .ok (.ifCond .ne 12, 3) := by decide +kernel
theorem dX4_shedLoad_30 : decode cX4_shedLoad 30 = .ok (.aload_n 1, 1) := by decide +kernel
theorem dX4_shedLoad_31 : decode cX4_shedLoad 31 = .ok (.aload_n 0, 1) := by decide +kernel
theorem dX4_shedLoad_32 : decode cX4_shedLoad 32 = .ok (.getfield 61, 3) := by decide +kernel
theorem dX4_shedLoad_35 : decode cX4_shedLoad 35 = .ok (.invokevirtual 231, 3) := by decide +kernel
theorem dX4_shedLoad_38 : decode cX4_shedLoad 38 = .ok (.pop, 1) := by decide +kernel
theorem dX4_shedLoad_39 : decode cX4_shedLoad 39 = .ok (.iinc 3 1, 3) := by decide +kernel
theorem dX4_shedLoad_42 : decode cX4_shedLoad 42 = .ok (.goto (-40), 3) := by decide +kernel
theorem dX4_shedLoad_45 : decode cX4_shedLoad 45 = .ok (.return_, 1) := by decide +kernel
set_option maxRecDepth 20000 in
theorem ggX4_startFans_X3_countBlowing : GoodIn wsX4_startFans wsX3_countBlowing := goodIn_r _ [10, 11, 12, 13, 14, 85, 86, 87, 88, 89, 90, 91, 92, 93, 94, 95, 96, 106, 107, 108, 109, 110, 111, 112, 113, 114, 115, 116, 117, 118, 119, 120] (by decide +kernel) (by decide +kernel)
set_option maxRecDepth 20000 in
theorem gX4_startFans_X3_countBlowing : GoodIn wsX4_startFans (wsV RX4 155 RX3 yX3_countBlowing wsX3_countBlowing) := goodIn_app (goodIn_of _ (by decide +kernel)) ggX4_startFans_X3_countBlowing
set_option maxRecDepth 20000 in
theorem ggX4_startFans_X3_leastRunReady : GoodIn wsX4_startFans wsX3_leastRunReady := goodIn_r _ [18, 11, 12, 19, 20, 21, 22, 9, 23, 13, 14, 24, 25, 26, 27, 28, 29, 30, 31, 32, 33, 34, 35, 36, 37, 38, 39, 85, 86, 87, 88, 89, 90, 91, 92, 93, 94, 95, 96, 112, 113, 114, 115, 116, 117, 118, 119, 120, 106, 107, 108, 109, 110, 111] (by decide +kernel) (by decide +kernel)
set_option maxRecDepth 20000 in
theorem gX4_startFans_X3_leastRunReady : GoodIn wsX4_startFans (wsV RX4 235 RX3 yX3_leastRunReady wsX3_leastRunReady) := goodIn_app (goodIn_of _ (by decide +kernel)) ggX4_startFans_X3_leastRunReady
set_option maxRecDepth 20000 in
theorem ggX4_startFans_X4_mayStart : GoodIn wsX4_startFans wsX4_mayStart := goodIn_r _ [44, 45, 46, 47, 48, 49, 43, 50, 51, 52, 53, 54, 55, 56, 4, 57, 58, 59, 60, 9, 61, 11, 12, 62, 63, 64, 30, 65, 37, 14, 38, 39, 66, 112, 113, 114, 115, 116, 117, 118, 119, 120, 97, 98, 99, 100, 101, 102, 103, 104, 105, 85, 86, 87, 88, 89, 90, 91, 92, 93, 94, 95, 96, 106, 107, 108, 109, 110, 111] (by decide +kernel) (by decide +kernel)
set_option maxRecDepth 20000 in
theorem gX4_startFans_X4_mayStart : GoodIn wsX4_startFans (wsV RX4 239 RX4 yX4_mayStart wsX4_mayStart) := goodIn_app (goodIn_of _ (by decide +kernel)) ggX4_startFans_X4_mayStart
set_option maxRecDepth 20000 in
theorem ggX4_startFans_X4_startFan : GoodIn wsX4_startFans wsX4_startFan := goodIn_r _ [70, 3, 4, 71, 51, 72, 28, 29, 30, 31, 32, 33, 34, 35, 36, 37, 14, 38, 39, 73, 74, 75, 76, 77, 78, 79, 80, 81, 82, 83, 84, 97, 98, 99, 100, 101, 102, 103, 104, 105, 112, 113, 114, 115, 116, 117, 118, 119, 120, 106, 107, 108, 109, 110, 111] (by decide +kernel) (by decide +kernel)
set_option maxRecDepth 20000 in
theorem gX4_startFans_X4_startFan : GoodIn wsX4_startFans (wsV RX4 243 RX4 yX4_startFan wsX4_startFan) := goodIn_app (goodIn_of _ (by decide +kernel)) ggX4_startFans_X4_startFan
theorem dX4_startFans_0 : decode cX4_startFans 0 = .ok (.aload_n 1, 1) := by decide +kernel
theorem dX4_startFans_1 : decode cX4_startFans 1 = .ok (.getfield 149, 3) := by decide +kernel
theorem dX4_startFans_4 : decode cX4_startFans 4 = .ok (.istore_n 2, 1) := by decide +kernel
theorem dX4_startFans_5 : decode cX4_startFans 5 = .ok (.aload_n 1, 1) := by decide +kernel
theorem dX4_startFans_6 : decode cX4_startFans 6 = .ok (.iload_n 2, 1) := by decide +kernel
theorem dX4_startFans_7 : decode cX4_startFans 7 = .ok (.ineg, 1) := by decide +kernel
theorem dX4_startFans_8 : decode cX4_startFans 8 = .ok (.invokevirtual 155, 3) := by decide +kernel
theorem dX4_startFans_11 : decode cX4_startFans 11 = .ok (.ifCond .le 5, 3) := by decide +kernel
theorem dX4_startFans_14 : decode cX4_startFans 14 = .ok (.iconst 1, 1) := by decide +kernel
theorem dX4_startFans_15 : decode cX4_startFans 15 = .ok (.ireturn, 1) := by decide +kernel
theorem dX4_startFans_16 : decode cX4_startFans 16 = .ok (.aload_n 1, 1) := by decide +kernel
theorem dX4_startFans_17 : decode cX4_startFans 17 = .ok (.getfield 152, 3) := by decide +kernel
theorem dX4_startFans_20 : decode cX4_startFans 20 = .ok (.aload_n 1, 1) := by decide +kernel
theorem dX4_startFans_21 : decode cX4_startFans 21 = .ok (.iload_n 2, 1) := by decide +kernel
theorem dX4_startFans_22 : decode cX4_startFans 22 = .ok (.invokevirtual 155, 3) := by decide +kernel
theorem dX4_startFans_25 : decode cX4_startFans 25 = .ok (.isub, 1) := by decide +kernel
theorem dX4_startFans_26 : decode cX4_startFans 26 = .ok (.istore_n 3, 1) := by decide +kernel
theorem dX4_startFans_27 : decode cX4_startFans 27 = .ok (.iconst 0, 1) := by decide +kernel
theorem dX4_startFans_28 : decode cX4_startFans 28 = .ok (.istore 4, 2) := by decide +kernel
theorem dX4_startFans_30 : decode cX4_startFans 30 = .ok (.iload 4, 2) := by decide +kernel
theorem dX4_startFans_32 : decode cX4_startFans 32 = .ok (.iload_n 3, 1) := by decide +kernel
theorem dX4_startFans_33 : decode cX4_startFans 33 = .ok (.if_icmp .ge 59, 3) := by decide +kernel
theorem dX4_startFans_36 : decode cX4_startFans 36 = .ok (.aload_n 1, 1) := by decide +kernel
theorem dX4_startFans_37 : decode cX4_startFans 37 = .ok (.aload_n 0, 1) := by decide +kernel
theorem dX4_startFans_38 : decode cX4_startFans 38 = .ok (.getfield 17, 3) := by decide +kernel
theorem dX4_startFans_41 : decode cX4_startFans 41 = .ok (.aload_n 0, 1) := by decide +kernel
theorem dX4_startFans_42 : decode cX4_startFans 42 = .ok (.getfield 61, 3) := by decide +kernel
theorem dX4_startFans_45 : decode cX4_startFans 45 = .ok (.invokevirtual 235, 3) := by decide +kernel
theorem dX4_startFans_48 : decode cX4_startFans 48 = .ok (.istore 5, 2) := by decide +kernel
theorem dX4_startFans_50 : decode cX4_startFans 50 = .ok (.iload 5, 2) := by decide +kernel
theorem dX4_startFans_52 : decode cX4_startFans 52 = .ok (.iconst (-1), 1) := by decide +kernel
theorem dX4_startFans_53 : decode cX4_startFans 53 = .ok (.if_icmp .ne 5, 3) := by decide +kernel
theorem dX4_startFans_56 : decode cX4_startFans 56 = .ok (.iconst 1, 1) := by decide +kernel
theorem dX4_startFans_57 : decode cX4_startFans 57 = .ok (.ireturn, 1) := by decide +kernel
theorem dX4_startFans_58 : decode cX4_startFans 58 = .ok (.aload_n 0, 1) := by decide +kernel
theorem dX4_startFans_59 : decode cX4_startFans 59 = .ok (.aload_n 1, 1) := by decide +kernel
theorem dX4_startFans_60 : decode cX4_startFans 60 = .ok (.getfield 158, 3) := by decide +kernel
theorem dX4_startFans_63 : decode cX4_startFans 63 = .ok (.iload 5, 2) := by decide +kernel
theorem dX4_startFans_65 : decode cX4_startFans 65 = .ok (.aaload, 1) := by decide +kernel
theorem dX4_startFans_66 : decode cX4_startFans 66 = .ok (.invokevirtual 239, 3) := by decide +kernel
theorem dX4_startFans_69 : decode cX4_startFans 69 = .ok (.ifCond .ne 5, 3) := by decide +kernel
theorem dX4_startFans_72 : decode cX4_startFans 72 = .ok (.iconst 0, 1) := by decide +kernel
theorem dX4_startFans_73 : decode cX4_startFans 73 = .ok (.ireturn, 1) := by decide +kernel
theorem dX4_startFans_74 : decode cX4_startFans 74 = .ok (.aload_n 0, 1) := by decide +kernel
theorem dX4_startFans_75 : decode cX4_startFans 75 = .ok (.aload_n 1, 1) := by decide +kernel
theorem dX4_startFans_76 : decode cX4_startFans 76 = .ok (.getfield 158, 3) := by decide +kernel
theorem dX4_startFans_79 : decode cX4_startFans 79 = .ok (.iload 5, 2) := by decide +kernel
theorem dX4_startFans_81 : decode cX4_startFans 81 = .ok (.aaload, 1) := by decide +kernel
theorem dX4_startFans_82 : decode cX4_startFans 82 = .ok (.iload_n 2, 1) := by decide +kernel
theorem dX4_startFans_83 : decode cX4_startFans 83 = .ok (.invokevirtual 243, 3) := by decide +kernel
theorem dX4_startFans_86 : decode cX4_startFans 86 = .ok (.iinc 4 1, 3) := by decide +kernel
theorem dX4_startFans_89 : decode cX4_startFans 89 = .ok (.goto (-59), 3) := by decide +kernel
theorem dX4_startFans_92 : decode cX4_startFans 92 = .ok (.iconst 1, 1) := by decide +kernel
theorem dX4_startFans_93 : decode cX4_startFans 93 = .ok (.ireturn, 1) := by decide +kernel
set_option maxRecDepth 20000 in
theorem ggX4_mayStart_X4_starts : GoodIn wsX4_mayStart wsX4_starts := goodIn_r _ [7, 8, 42, 43, 44, 45, 46, 47, 48, 49, 50] (by decide +kernel) (by decide +kernel)
set_option maxRecDepth 20000 in
theorem gX4_mayStart_X4_starts : GoodIn wsX4_mayStart (wsV RX4 247 RX4 yX4_starts wsX4_starts) := goodIn_app (goodIn_of _ (by decide +kernel)) ggX4_mayStart_X4_starts
set_option maxRecDepth 20000 in
theorem ggX4_mayStart_X4_load : GoodIn wsX4_mayStart wsX4_load := goodIn_r _ [12, 13, 14, 15, 16, 17, 18, 19, 20, 21, 22, 23, 24, 25, 26, 27, 28, 29, 30, 31, 32, 42, 43, 44, 45, 46, 47, 48, 49, 50, 51, 52, 53, 54, 55, 56, 57, 58, 59, 60, 61, 62, 63, 64, 65, 66, 67, 68, 33, 34, 35, 36, 37, 38, 39, 40, 41] (by decide +kernel) (by decide +kernel)
set_option maxRecDepth 20000 in
theorem gX4_mayStart_X4_load : GoodIn wsX4_mayStart (wsV RX4 228 RX4 yX4_load wsX4_load) := goodIn_app (goodIn_of _ (by decide +kernel)) ggX4_mayStart_X4_load
theorem dX4_mayStart_0 : decode cX4_mayStart 0 = .ok (.aload_n 0, 1) := by decide +kernel
theorem dX4_mayStart_1 : decode cX4_mayStart 1 = .ok (.invokevirtual 247, 3) := by decide +kernel
theorem dX4_mayStart_4 : decode cX4_mayStart 4 = .ok (.iconst 3, 1) := by decide +kernel
theorem dX4_mayStart_5 : decode cX4_mayStart 5 = .ok (.if_icmp .ge 25, 3) := by decide +kernel
theorem dX4_mayStart_8 : decode cX4_mayStart 8 = .ok (.aload_n 0, 1) := by decide +kernel
theorem dX4_mayStart_9 : decode cX4_mayStart 9 = .ok (.invokevirtual 228, 3) := by decide +kernel
theorem dX4_mayStart_12 : decode cX4_mayStart 12 = .ok (.iconst 3, 1) := by decide +kernel
theorem dX4_mayStart_13 : decode cX4_mayStart 13 = .ok (.aload_n 1, 1) := by decide +kernel
theorem dX4_mayStart_14 : decode cX4_mayStart 14 = .ok (.getfield 250, 3) := by decide +kernel
theorem dX4_mayStart_17 : decode cX4_mayStart 17 = .ok (.imul, 1) := by decide +kernel
theorem dX4_mayStart_18 : decode cX4_mayStart 18 = .ok (.iadd, 1) := by decide +kernel
theorem dX4_mayStart_19 : decode cX4_mayStart 19 = .ok (.aload_n 0, 1) := by decide +kernel
theorem dX4_mayStart_20 : decode cX4_mayStart 20 = .ok (.getfield 21, 3) := by decide +kernel
theorem dX4_mayStart_23 : decode cX4_mayStart 23 = .ok (.if_icmp .gt 7, 3) := by decide +kernel
theorem dX4_mayStart_26 : decode cX4_mayStart 26 = .ok (.iconst 1, 1) := by decide +kernel
theorem dX4_mayStart_27 : decode cX4_mayStart 27 = .ok (.goto 4, 3) := by decide +kernel
theorem dX4_mayStart_30 : decode cX4_mayStart 30 = .ok (.iconst 0, 1) := by decide +kernel
theorem dX4_mayStart_31 : decode cX4_mayStart 31 = .ok (.ireturn, 1) := by decide +kernel
set_option maxRecDepth 20000 in
theorem ggX4_startFan_X1_hasRested : GoodIn wsX4_startFan wsX1_hasRested := goodIn_r _ [9, 10, 11, 12, 13, 8, 14, 15, 16, 17, 18, 40, 41, 42, 43, 44, 45, 46, 47, 48, 49, 50, 51, 52, 53, 54] (by decide +kernel) (by decide +kernel)
set_option maxRecDepth 20000 in
theorem gX4_startFan_X1_hasRested : GoodIn wsX4_startFan (wsV RX4 255 RX1 yX1_hasRested wsX1_hasRested) := goodIn_app (goodIn_of _ (by decide +kernel)) ggX4_startFan_X1_hasRested
set_option maxRecDepth 20000 in
theorem ggX4_startFan_X1_blow : GoodIn wsX4_startFan wsX1_blow := goodIn_r _ [22, 10, 23, 24, 25, 26, 27, 28, 29, 30, 40, 41, 42, 43, 44, 45, 46, 47, 48, 49, 50, 51, 52, 53, 54] (by decide +kernel) (by decide +kernel)
set_option maxRecDepth 20000 in
theorem gX4_startFan_X1_blow : GoodIn wsX4_startFan (wsV RX4 258 RX1 yX1_blow wsX1_blow) := goodIn_app (goodIn_of _ (by decide +kernel)) ggX4_startFan_X1_blow
theorem dX4_startFan_0 : decode cX4_startFan 0 = .ok (.aload_n 1, 1) := by decide +kernel
theorem dX4_startFan_1 : decode cX4_startFan 1 = .ok (.iload_n 2, 1) := by decide +kernel
theorem dX4_startFan_2 : decode cX4_startFan 2 = .ok (.aload_n 0, 1) := by decide +kernel
theorem dX4_startFan_3 : decode cX4_startFan 3 = .ok (.getfield 17, 3) := by decide +kernel
theorem dX4_startFan_6 : decode cX4_startFan 6 = .ok (.aload_n 0, 1) := by decide +kernel
theorem dX4_startFan_7 : decode cX4_startFan 7 = .ok (.getfield 61, 3) := by decide +kernel
theorem dX4_startFan_10 : decode cX4_startFan 10 = .ok (.invokevirtual 255, 3) := by decide +kernel
theorem dX4_startFan_13 : decode cX4_startFan 13 = .ok (.ifCond .ne 8, 3) := by decide +kernel
theorem dX4_startFan_16 : decode cX4_startFan 16 = .ok (.aload_n 0, 1) := by decide +kernel
theorem dX4_startFan_17 : decode cX4_startFan 17 = .ok (.iconst 1, 1) := by decide +kernel
theorem dX4_startFan_18 : decode cX4_startFan 18 = .ok (.putfield 184, 3) := by decide +kernel
theorem dX4_startFan_21 : decode cX4_startFan 21 = .ok (.aload_n 1, 1) := by decide +kernel
theorem dX4_startFan_22 : decode cX4_startFan 22 = .ok (.iload_n 2, 1) := by decide +kernel
theorem dX4_startFan_23 : decode cX4_startFan 23 = .ok (.aload_n 0, 1) := by decide +kernel
theorem dX4_startFan_24 : decode cX4_startFan 24 = .ok (.getfield 61, 3) := by decide +kernel
theorem dX4_startFan_27 : decode cX4_startFan 27 = .ok (.invokevirtual 258, 3) := by decide +kernel
theorem dX4_startFan_30 : decode cX4_startFan 30 = .ok (.aload_n 0, 1) := by decide +kernel
theorem dX4_startFan_31 : decode cX4_startFan 31 = .ok (.getfield 36, 3) := by decide +kernel
theorem dX4_startFan_34 : decode cX4_startFan 34 = .ok (.aload_n 0, 1) := by decide +kernel
theorem dX4_startFan_35 : decode cX4_startFan 35 = .ok (.getfield 61, 3) := by decide +kernel
theorem dX4_startFan_38 : decode cX4_startFan 38 = .ok (.bipush 10, 2) := by decide +kernel
theorem dX4_startFan_40 : decode cX4_startFan 40 = .ok (.irem, 1) := by decide +kernel
theorem dX4_startFan_41 : decode cX4_startFan 41 = .ok (.dup2, 1) := by decide +kernel
theorem dX4_startFan_42 : decode cX4_startFan 42 = .ok (.iaload, 1) := by decide +kernel
theorem dX4_startFan_43 : decode cX4_startFan 43 = .ok (.iconst 1, 1) := by decide +kernel
theorem dX4_startFan_44 : decode cX4_startFan 44 = .ok (.iadd, 1) := by decide +kernel
theorem dX4_startFan_45 : decode cX4_startFan 45 = .ok (.iastore, 1) := by decide +kernel
theorem dX4_startFan_46 : decode cX4_startFan 46 = .ok (.return_, 1) := by decide +kernel
set_option maxRecDepth 20000 in
theorem ggX4_isBroken_X4_load : GoodIn wsX4_isBroken wsX4_load := goodIn_r _ [10, 3, 4, 5, 11, 12, 13, 14, 15, 16, 17, 18, 19, 20, 21, 22, 23, 24, 25, 26, 27, 51, 52, 53, 54, 55, 56, 57, 58, 59, 60, 61, 62, 63, 64, 65, 66, 67, 68, 69, 70, 71, 72, 73, 74, 75, 76, 77, 78, 79, 80, 81, 82, 83, 84, 85, 86] (by decide +kernel) (by decide +kernel)
set_option maxRecDepth 20000 in
theorem gX4_isBroken_X4_load : GoodIn wsX4_isBroken (wsV RX4 228 RX4 yX4_load wsX4_load) := goodIn_app (goodIn_of _ (by decide +kernel)) ggX4_isBroken_X4_load
set_option maxRecDepth 20000 in
theorem ggX4_isBroken_X4_starts : GoodIn wsX4_isBroken wsX4_starts := goodIn_r _ [31, 32, 51, 52, 53, 54, 55, 56, 57, 58, 59] (by decide +kernel) (by decide +kernel)
set_option maxRecDepth 20000 in
theorem gX4_isBroken_X4_starts : GoodIn wsX4_isBroken (wsV RX4 247 RX4 yX4_starts wsX4_starts) := goodIn_app (goodIn_of _ (by decide +kernel)) ggX4_isBroken_X4_starts
set_option maxRecDepth 20000 in
theorem ggX4_isBroken_X3_isUnsafe : GoodIn wsX4_isBroken wsX3_isUnsafe := goodIn_r _ [36, 37, 38, 39, 40, 41, 42, 43, 14, 44, 45, 46, 47, 48, 49, 16, 17, 50, 24, 60, 61, 62, 63, 64, 65, 66, 67, 68, 69, 70, 71, 72, 73, 74, 75, 76, 77, 78, 79, 80, 81, 82, 83, 84, 85, 86] (by decide +kernel) (by decide +kernel)
set_option maxRecDepth 20000 in
theorem gX4_isBroken_X3_isUnsafe : GoodIn wsX4_isBroken (wsV RX4 261 RX3 yX3_isUnsafe wsX3_isUnsafe) := goodIn_app (goodIn_of _ (by decide +kernel)) ggX4_isBroken_X3_isUnsafe
theorem dX4_isBroken_0 : decode cX4_isBroken 0 = .ok (.aload_n 0, 1) := by decide +kernel
theorem dX4_isBroken_1 : decode cX4_isBroken 1 = .ok (.invokevirtual 228, 3) := by decide +kernel
theorem dX4_isBroken_4 : decode cX4_isBroken 4 = .ok (.aload_n 0, 1) := by decide +kernel
theorem dX4_isBroken_5 : decode cX4_isBroken 5 = .ok (.getfield 21, 3) := by decide +kernel
theorem dX4_isBroken_8 : decode cX4_isBroken 8 = .ok (.if_icmp .gt 46, 3) := by decide +kernel
theorem dX4_isBroken_11 : decode cX4_isBroken 11 = .ok (.aload_n 0, 1) := by decide +kernel
theorem dX4_isBroken_12 : decode cX4_isBroken 12 = .ok (.invokevirtual 247, 3) := by decide +kernel
theorem dX4_isBroken_15 : decode cX4_isBroken 15 = .ok (.iconst 3, 1) := by decide +kernel
theorem dX4_isBroken_16 : decode cX4_isBroken 16 = .ok (.if_icmp .gt 38, 3) := by decide +kernel
theorem dX4_isBroken_19 : decode cX4_isBroken 19 = .ok (.aload_n 0, 1) := by decide +kernel
theorem dX4_isBroken_20 : decode cX4_isBroken 20 = .ok (.getfield 184, 3) := by decide +kernel
theorem dX4_isBroken_23 : decode cX4_isBroken 23 = .ok (.ifCond .ne 31, 3) := by decide +kernel
theorem dX4_isBroken_26 : decode cX4_isBroken 26 = .ok (.aload_n 0, 1) := by decide +kernel
theorem dX4_isBroken_27 : decode cX4_isBroken 27 = .ok (.getfield 29, 3) := by decide +kernel
theorem dX4_isBroken_30 : decode cX4_isBroken 30 = .ok (.aload_n 0, 1) := by decide +kernel
theorem dX4_isBroken_31 : decode cX4_isBroken 31 = .ok (.getfield 61, 3) := by decide +kernel
theorem dX4_isBroken_34 : decode cX4_isBroken 34 = .ok (.invokevirtual 261, 3) := by decide +kernel
theorem dX4_isBroken_37 : decode cX4_isBroken 37 = .ok (.ifCond .ne 17, 3) := by decide +kernel
theorem dX4_isBroken_40 : decode cX4_isBroken 40 = .ok (.aload_n 0, 1) := by decide +kernel
theorem dX4_isBroken_41 : decode cX4_isBroken 41 = .ok (.getfield 33, 3) := by decide +kernel
theorem dX4_isBroken_44 : decode cX4_isBroken 44 = .ok (.aload_n 0, 1) := by decide +kernel
theorem dX4_isBroken_45 : decode cX4_isBroken 45 = .ok (.getfield 61, 3) := by decide +kernel
theorem dX4_isBroken_48 : decode cX4_isBroken 48 = .ok (.invokevirtual 261, 3) := by decide +kernel
theorem dX4_isBroken_51 : decode cX4_isBroken 51 = .ok (.ifCond .eq 7, 3) := by decide +kernel
theorem dX4_isBroken_54 : decode cX4_isBroken 54 = .ok (.iconst 1, 1) := by decide +kernel
theorem dX4_isBroken_55 : decode cX4_isBroken 55 = .ok (.goto 4, 3) := by decide +kernel
theorem dX4_isBroken_58 : decode cX4_isBroken 58 = .ok (.iconst 0, 1) := by decide +kernel
theorem dX4_isBroken_59 : decode cX4_isBroken 59 = .ok (.ireturn, 1) := by decide +kernel
set_option maxRecDepth 20000 in
theorem ggX4_tellFan_X1_restLeft : GoodIn wsX4_tellFan wsX1_restLeft := goodIn_r _ [8, 9, 10, 11, 12, 13, 14, 15, 16, 17, 18, 19, 20, 21, 22, 32, 33, 34, 35, 36, 37] (by decide +kernel) (by decide +kernel)
set_option maxRecDepth 20000 in
theorem gX4_tellFan_X1_restLeft : GoodIn wsX4_tellFan (wsV RX4 267 RX1 yX1_restLeft wsX1_restLeft) := goodIn_app (goodIn_of _ (by decide +kernel)) ggX4_tellFan_X1_restLeft
theorem dX4_tellFan_0 : decode cX4_tellFan 0 = .ok (.iload_n 2, 1) := by decide +kernel
theorem dX4_tellFan_1 : decode cX4_tellFan 1 = .ok (.iconst 4, 1) := by decide +kernel
theorem dX4_tellFan_2 : decode cX4_tellFan 2 = .ok (.if_icmp .ne 10, 3) := by decide +kernel
theorem dX4_tellFan_5 : decode cX4_tellFan 5 = .ok (.aload_n 1, 1) := by decide +kernel
theorem dX4_tellFan_6 : decode cX4_tellFan 6 = .ok (.getfield 264, 3) := by decide +kernel
theorem dX4_tellFan_9 : decode cX4_tellFan 9 = .ok (.goto 15, 3) := by decide +kernel
theorem dX4_tellFan_12 : decode cX4_tellFan 12 = .ok (.aload_n 1, 1) := by decide +kernel
theorem dX4_tellFan_13 : decode cX4_tellFan 13 = .ok (.aload_n 0, 1) := by decide +kernel
theorem dX4_tellFan_14 : decode cX4_tellFan 14 = .ok (.getfield 17, 3) := by decide +kernel
theorem dX4_tellFan_17 : decode cX4_tellFan 17 = .ok (.aload_n 0, 1) := by decide +kernel
theorem dX4_tellFan_18 : decode cX4_tellFan 18 = .ok (.getfield 61, 3) := by decide +kernel
theorem dX4_tellFan_21 : decode cX4_tellFan 21 = .ok (.invokevirtual 267, 3) := by decide +kernel
theorem dX4_tellFan_24 : decode cX4_tellFan 24 = .ok (.ireturn, 1) := by decide +kernel
theorem dX4_tubeAt_0 : decode cX4_tubeAt 0 = .ok (.iload_n 1, 1) := by decide +kernel
theorem dX4_tubeAt_1 : decode cX4_tubeAt 1 = .ok (.ifCond .ne 10, 3) := by decide +kernel
theorem dX4_tubeAt_4 : decode cX4_tubeAt 4 = .ok (.aload_n 0, 1) := by decide +kernel
theorem dX4_tubeAt_5 : decode cX4_tubeAt 5 = .ok (.getfield 29, 3) := by decide +kernel
theorem dX4_tubeAt_8 : decode cX4_tubeAt 8 = .ok (.goto 7, 3) := by decide +kernel
theorem dX4_tubeAt_11 : decode cX4_tubeAt 11 = .ok (.aload_n 0, 1) := by decide +kernel
theorem dX4_tubeAt_12 : decode cX4_tubeAt 12 = .ok (.getfield 33, 3) := by decide +kernel
theorem dX4_tubeAt_15 : decode cX4_tubeAt 15 = .ok (.areturn, 1) := by decide +kernel
theorem dX4_clamp_0 : decode cX4_clamp 0 = .ok (.iload_n 1, 1) := by decide +kernel
theorem dX4_clamp_1 : decode cX4_clamp 1 = .ok (.iload_n 2, 1) := by decide +kernel
theorem dX4_clamp_2 : decode cX4_clamp 2 = .ok (.iload_n 0, 1) := by decide +kernel
theorem dX4_clamp_3 : decode cX4_clamp 3 = .ok (.invokestatic 270, 3) := by decide +kernel
theorem dX4_clamp_6 : decode cX4_clamp 6 = .ok (.invokestatic 275, 3) := by decide +kernel
theorem dX4_clamp_9 : decode cX4_clamp 9 = .ok (.ireturn, 1) := by decide +kernel
theorem dX4_isWithin_0 : decode cX4_isWithin 0 = .ok (.iload_n 0, 1) := by decide +kernel
theorem dX4_isWithin_1 : decode cX4_isWithin 1 = .ok (.iload_n 1, 1) := by decide +kernel
theorem dX4_isWithin_2 : decode cX4_isWithin 2 = .ok (.if_icmp .lt 12, 3) := by decide +kernel
theorem dX4_isWithin_5 : decode cX4_isWithin 5 = .ok (.iload_n 0, 1) := by decide +kernel
theorem dX4_isWithin_6 : decode cX4_isWithin 6 = .ok (.iload_n 2, 1) := by decide +kernel
theorem dX4_isWithin_7 : decode cX4_isWithin 7 = .ok (.if_icmp .gt 7, 3) := by decide +kernel
theorem dX4_isWithin_10 : decode cX4_isWithin 10 = .ok (.iconst 1, 1) := by decide +kernel
theorem dX4_isWithin_11 : decode cX4_isWithin 11 = .ok (.goto 4, 3) := by decide +kernel
theorem dX4_isWithin_14 : decode cX4_isWithin 14 = .ok (.iconst 0, 1) := by decide +kernel
theorem dX4_isWithin_15 : decode cX4_isWithin 15 = .ok (.ireturn, 1) := by decide +kernel
theorem dX4_directionOf_0 : decode cX4_directionOf 0 = .ok (.iload_n 0, 1) := by decide +kernel
theorem dX4_directionOf_1 : decode cX4_directionOf 1 = .ok (.ifCond .ge 7, 3) := by decide +kernel
theorem dX4_directionOf_4 : decode cX4_directionOf 4 = .ok (.iconst (-1), 1) := by decide +kernel
theorem dX4_directionOf_5 : decode cX4_directionOf 5 = .ok (.goto 4, 3) := by decide +kernel
theorem dX4_directionOf_8 : decode cX4_directionOf 8 = .ok (.iconst 1, 1) := by decide +kernel
theorem dX4_directionOf_9 : decode cX4_directionOf 9 = .ok (.ireturn, 1) := by decide +kernel
theorem dX4_need_0 : decode cX4_need 0 = .ok (.iload_n 0, 1) := by decide +kernel
theorem dX4_need_1 : decode cX4_need 1 = .ok (.ifCond .ne 11, 3) := by decide +kernel
theorem dX4_need_4 : decode cX4_need 4 = .ok (.new 278, 3) := by decide +kernel
theorem dX4_need_7 : decode cX4_need 7 = .ok (.dup, 1) := by decide +kernel
theorem dX4_need_8 : decode cX4_need 8 = .ok (.invokespecial 280, 3) := by decide +kernel
theorem dX4_need_11 : decode cX4_need 11 = .ok (.athrow, 1) := by decide +kernel
theorem dX4_need_12 : decode cX4_need 12 = .ok (.return_, 1) := by decide +kernel
theorem dX4_needState_0 : decode cX4_needState 0 = .ok (.iload_n 0, 1) := by decide +kernel
theorem dX4_needState_1 : decode cX4_needState 1 = .ok (.ifCond .ne 11, 3) := by decide +kernel
theorem dX4_needState_4 : decode cX4_needState 4 = .ok (.new 281, 3) := by decide +kernel
theorem dX4_needState_7 : decode cX4_needState 7 = .ok (.dup, 1) := by decide +kernel
theorem dX4_needState_8 : decode cX4_needState 8 = .ok (.invokespecial 283, 3) := by decide +kernel
theorem dX4_needState_11 : decode cX4_needState 11 = .ok (.athrow, 1) := by decide +kernel
theorem dX4_needState_12 : decode cX4_needState 12 = .ok (.return_, 1) := by decide +kernel
set_option maxRecDepth 20000 in
theorem ggX4_needTube_X4_isWithin : GoodIn wsX4_needTube wsX4_isWithin := goodIn_r _ [4] (by decide +kernel) (by decide +kernel)
set_option maxRecDepth 20000 in
theorem gX4_needTube_X4_isWithin : GoodIn wsX4_needTube (va_wsS RX4 43 yX4_isWithin wsX4_isWithin) := goodIn_app (goodIn_of _ (by decide +kernel)) ggX4_needTube_X4_isWithin
set_option maxRecDepth 20000 in
theorem ggX4_needTube_X4_need : GoodIn wsX4_needTube wsX4_need := goodIn_ca (goodIn_r _ [7, 8, 9] (by decide +kernel) (by decide +kernel)) (goodIn_sub (fun _ h => List.mem_cons_of_mem _ (List.mem_append_right _ h)) (by decide +kernel))
set_option maxRecDepth 20000 in
theorem gX4_needTube_X4_need : GoodIn wsX4_needTube (va_wsS RX4 47 yX4_need wsX4_need) := goodIn_app (goodIn_of _ (by decide +kernel)) ggX4_needTube_X4_need
theorem dX4_needTube_0 : decode cX4_needTube 0 = .ok (.iload_n 0, 1) := by decide +kernel
theorem dX4_needTube_1 : decode cX4_needTube 1 = .ok (.iconst 0, 1) := by decide +kernel
theorem dX4_needTube_2 : decode cX4_needTube 2 = .ok (.iconst 1, 1) := by decide +kernel
theorem dX4_needTube_3 : decode cX4_needTube 3 = .ok (.invokestatic 43, 3) := by decide +kernel
theorem dX4_needTube_6 : decode cX4_needTube 6 = .ok (.invokestatic 47, 3) := by decide +kernel
theorem dX4_needTube_9 : decode cX4_needTube 9 = .ok (.return_, 1) := by decide +kernel
set_option maxRecDepth 20000 in
theorem ggX4_needSection_X4_needTube : GoodIn wsX4_needSection wsX4_needTube := goodIn_ca (goodIn_r _ [5, 6, 7, 4, 8, 9, 10, 11, 12, 13] (by decide +kernel) (by decide +kernel)) (goodIn_sub (fun _ h => List.mem_cons_of_mem _ (List.mem_append_right _ h)) (by decide +kernel))
set_option maxRecDepth 20000 in
theorem gX4_needSection_X4_needTube : GoodIn wsX4_needSection (va_wsS RX4 40 yX4_needTube wsX4_needTube) := goodIn_app (goodIn_of _ (by decide +kernel)) ggX4_needSection_X4_needTube
set_option maxRecDepth 20000 in
theorem ggX4_needSection_X4_isWithin : GoodIn wsX4_needSection wsX4_isWithin := goodIn_r _ [8] (by decide +kernel) (by decide +kernel)
set_option maxRecDepth 20000 in
theorem gX4_needSection_X4_isWithin : GoodIn wsX4_needSection (va_wsS RX4 43 yX4_isWithin wsX4_isWithin) := goodIn_app (goodIn_of _ (by decide +kernel)) ggX4_needSection_X4_isWithin
set_option maxRecDepth 20000 in
theorem ggX4_needSection_X4_need : GoodIn wsX4_needSection wsX4_need := goodIn_ca (goodIn_r _ [11, 12, 13] (by decide +kernel) (by decide +kernel)) (goodIn_sub (fun _ h => List.mem_cons_of_mem _ (List.mem_append_right _ h)) (by decide +kernel))
set_option maxRecDepth 20000 in
theorem gX4_needSection_X4_need : GoodIn wsX4_needSection (va_wsS RX4 47 yX4_need wsX4_need) := goodIn_app (goodIn_of _ (by decide +kernel)) ggX4_needSection_X4_need
theorem dX4_needSection_0 : decode cX4_needSection 0 = .ok (.iload_n 1, 1) := by decide +kernel
theorem dX4_needSection_1 : decode cX4_needSection 1 = .ok (.invokestatic 40, 3) := by decide +kernel
theorem dX4_needSection_4 : decode cX4_needSection 4 = .ok (.iload_n 2, 1) := by decide +kernel
theorem dX4_needSection_5 : decode cX4_needSection 5 = .ok (.iconst 0, 1) := by decide +kernel
theorem dX4_needSection_6 : decode cX4_needSection 6 = .ok (.aload_n 0, 1) := by decide +kernel
theorem dX4_needSection_7 : decode cX4_needSection 7 = .ok (.getfield 13, 3) := by decide +kernel
theorem dX4_needSection_10 : decode cX4_needSection 10 = .ok (.iconst 1, 1) := by decide +kernel
theorem dX4_needSection_11 : decode cX4_needSection 11 = .ok (.isub, 1) := by decide +kernel
theorem dX4_needSection_12 : decode cX4_needSection 12 = .ok (.invokestatic 43, 3) := by decide +kernel
theorem dX4_needSection_15 : decode cX4_needSection 15 = .ok (.invokestatic 47, 3) := by decide +kernel
theorem dX4_needSection_18 : decode cX4_needSection 18 = .ok (.return_, 1) := by decide +kernel
set_option maxRecDepth 20000 in
theorem ggX4_needDevice_X4_needTube : GoodIn wsX4_needDevice wsX4_needTube := goodIn_ca (goodIn_r _ [5, 6, 7, 4, 8, 9, 10, 11, 12, 13] (by decide +kernel) (by decide +kernel)) (goodIn_sub (fun _ h => List.mem_cons_of_mem _ (List.mem_append_right _ h)) (by decide +kernel))
set_option maxRecDepth 20000 in
theorem gX4_needDevice_X4_needTube : GoodIn wsX4_needDevice (va_wsS RX4 40 yX4_needTube wsX4_needTube) := goodIn_app (goodIn_of _ (by decide +kernel)) ggX4_needDevice_X4_needTube
set_option maxRecDepth 20000 in
theorem ggX4_needDevice_X4_tubeAt : GoodIn wsX4_needDevice wsX4_tubeAt := goodIn_r _ [17, 18, 19, 32, 33, 34, 35, 36, 37, 38, 39, 40] (by decide +kernel) (by decide +kernel)
set_option maxRecDepth 20000 in
theorem gX4_needDevice_X4_tubeAt : GoodIn wsX4_needDevice (wsV RX4 51 RX4 yX4_tubeAt wsX4_tubeAt) := goodIn_app (goodIn_of _ (by decide +kernel)) ggX4_needDevice_X4_tubeAt
set_option maxRecDepth 20000 in
theorem ggX4_needDevice_X4_isWithin : GoodIn wsX4_needDevice wsX4_isWithin := goodIn_r _ [8] (by decide +kernel) (by decide +kernel)
set_option maxRecDepth 20000 in
theorem gX4_needDevice_X4_isWithin : GoodIn wsX4_needDevice (va_wsS RX4 43 yX4_isWithin wsX4_isWithin) := goodIn_app (goodIn_of _ (by decide +kernel)) ggX4_needDevice_X4_isWithin
set_option maxRecDepth 20000 in
theorem ggX4_needDevice_X4_need : GoodIn wsX4_needDevice wsX4_need := goodIn_ca (goodIn_r _ [11, 12, 13] (by decide +kernel) (by decide +kernel)) (goodIn_sub (fun _ h => List.mem_cons_of_mem _ (List.mem_append_right _ h)) (by decide +kernel))
set_option maxRecDepth 20000 in
theorem gX4_needDevice_X4_need : GoodIn wsX4_needDevice (va_wsS RX4 47 yX4_need wsX4_need) := goodIn_app (goodIn_of _ (by decide +kernel)) ggX4_needDevice_X4_need
theorem dX4_needDevice_0 : decode cX4_needDevice 0 = .ok (.iload_n 1, 1) := by decide +kernel
theorem dX4_needDevice_1 : decode cX4_needDevice 1 = .ok (.invokestatic 40, 3) := by decide +kernel
theorem dX4_needDevice_4 : decode cX4_needDevice 4 = .ok (.iload_n 2, 1) := by decide +kernel
theorem dX4_needDevice_5 : decode cX4_needDevice 5 = .ok (.iconst 0, 1) := by decide +kernel
theorem dX4_needDevice_6 : decode cX4_needDevice 6 = .ok (.iconst 2, 1) := by decide +kernel
theorem dX4_needDevice_7 : decode cX4_needDevice 7 = .ok (.aload_n 0, 1) := by decide +kernel
theorem dX4_needDevice_8 : decode cX4_needDevice 8 = .ok (.iload_n 1, 1) := by decide +kernel
theorem dX4_needDevice_9 : decode cX4_needDevice 9 = .ok (.invokevirtual 51, 3) := by decide +kernel
theorem dX4_needDevice_12 : decode cX4_needDevice 12 = .ok (.getfield 55, 3) := by decide +kernel
theorem dX4_needDevice_15 : decode cX4_needDevice 15 = .ok (.iadd, 1) := by decide +kernel
theorem dX4_needDevice_16 : decode cX4_needDevice 16 = .ok (.iconst 1, 1) := by decide +kernel
theorem dX4_needDevice_17 : decode cX4_needDevice 17 = .ok (.isub, 1) := by decide +kernel
theorem dX4_needDevice_18 : decode cX4_needDevice 18 = .ok (.invokestatic 43, 3) := by decide +kernel
theorem dX4_needDevice_21 : decode cX4_needDevice 21 = .ok (.invokestatic 47, 3) := by decide +kernel
theorem dX4_needDevice_24 : decode cX4_needDevice 24 = .ok (.return_, 1) := by decide +kernel
