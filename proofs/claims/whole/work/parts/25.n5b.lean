theorem dX5_fail_27 : decode cX5_fail 27 = .ok (.aload_n 0, 1) := by decide +kernel
theorem dX5_fail_28 : decode cX5_fail 28 = .ok (.getfield 25, 3) := by decide +kernel
theorem dX5_fail_31 : decode cX5_fail 31 = .ok (.bipush 14, 2) := by decide +kernel
theorem dX5_fail_33 : decode cX5_fail 33 = .ok (.iload_n 1, 1) := by decide +kernel
theorem dX5_fail_34 : decode cX5_fail 34 = .ok (.imul, 1) := by decide +kernel
theorem dX5_fail_35 : decode cX5_fail 35 = .ok (.iload_n 2, 1) := by decide +kernel
theorem dX5_fail_36 : decode cX5_fail 36 = .ok (.iadd, 1) := by decide +kernel
theorem dX5_fail_37 : decode cX5_fail 37 = .ok (.baload, 1) := by decide +kernel
theorem dX5_fail_38 : decode cX5_fail 38 = .ok (.istore_n 3, 1) := by decide +kernel
theorem dX5_fail_39 : decode cX5_fail 39 = .ok (.aload_n 0, 1) := by decide +kernel
theorem dX5_fail_40 : decode cX5_fail 40 = .ok (.getfield 25, 3) := by decide +kernel
theorem dX5_fail_43 : decode cX5_fail 43 = .ok (.bipush 14, 2) := by decide +kernel
theorem dX5_fail_45 : decode cX5_fail 45 = .ok (.iload_n 1, 1) := by decide +kernel
theorem dX5_fail_46 : decode cX5_fail 46 = .ok (.imul, 1) := by decide +kernel
theorem dX5_fail_47 : decode cX5_fail 47 = .ok (.iload_n 2, 1) := by decide +kernel
theorem dX5_fail_48 : decode cX5_fail 48 = .ok (.iadd, 1) := by decide +kernel
theorem dX5_fail_49 : decode cX5_fail 49 = .ok (.iconst 1, 1) := by decide +kernel
theorem dX5_fail_50 : decode cX5_fail 50 = .ok (.bastore, 1) := by decide +kernel
theorem dX5_fail_51 : decode cX5_fail 51 = .ok (.iload_n 3, 1) := by decide +kernel
theorem dX5_fail_52 : decode cX5_fail 52 = .ok (.ifCond .ne 7, 3) := by decide +kernel
theorem dX5_fail_55 : decode cX5_fail 55 = .ok (.iconst 1, 1) := by decide +kernel
theorem dX5_fail_56 : decode cX5_fail 56 = .ok (.goto 4, 3) := by decide +kernel
theorem dX5_fail_59 : decode cX5_fail 59 = .ok (.iconst 0, 1) := by decide +kernel
theorem dX5_fail_60 : decode cX5_fail 60 = .ok (.ireturn, 1) := by decide +kernel
set_option maxRecDepth 20000 in
theorem ggX5_mend_X5_isDevice : GoodIn wsX5_mend wsX5_isDevice := goodIn_r _ [10, 11, 12, 13, 9, 14, 15, 16, 17, 18, 19, 20, 21, 22, 23, 24, 25, 26, 27, 28, 29, 30, 31, 32, 33, 34, 35, 36, 37, 38, 39, 40, 41, 42, 43, 44, 45, 46, 47, 48, 49] (by decide +kernel) (by decide +kernel)
set_option maxRecDepth 20000 in
theorem gX5_mend_X5_isDevice : GoodIn wsX5_mend (wsV RX5 120 RX5 yX5_isDevice wsX5_isDevice) := goodIn_app (goodIn_of _ (by decide +kernel)) ggX5_mend_X5_isDevice
theorem dX5_mend_0 : decode cX5_mend 0 = .ok (.aload_n 0, 1) := by decide +kernel
theorem dX5_mend_1 : decode cX5_mend 1 = .ok (.aload_n 0, 1) := by decide +kernel
theorem dX5_mend_2 : decode cX5_mend 2 = .ok (.iload_n 1, 1) := by decide +kernel
theorem dX5_mend_3 : decode cX5_mend 3 = .ok (.iload_n 2, 1) := by decide +kernel
theorem dX5_mend_4 : decode cX5_mend 4 = .ok (.invokevirtual 120, 3) := by decide +kernel
theorem dX5_mend_7 : decode cX5_mend 7 = .ok (.ifCond .eq 7, 3) := by decide +kernel
theorem dX5_mend_10 : decode cX5_mend 10 = .ok (.iconst 0, 1) := by decide +kernel
theorem dX5_mend_11 : decode cX5_mend 11 = .ok (.goto 4, 3) := by decide +kernel
theorem dX5_mend_14 : decode cX5_mend 14 = .ok (.iconst 1, 1) := by decide +kernel
theorem dX5_mend_15 : decode cX5_mend 15 = .ok (.putfield 106, 3) := by decide +kernel
theorem dX5_mend_18 : decode cX5_mend 18 = .ok (.aload_n 0, 1) := by decide +kernel
theorem dX5_mend_19 : decode cX5_mend 19 = .ok (.getfield 106, 3) := by decide +kernel
theorem dX5_mend_22 : decode cX5_mend 22 = .ok (.ifCond .le 5, 3) := by decide +kernel
theorem dX5_mend_25 : decode cX5_mend 25 = .ok (.iconst 0, 1) := by decide +kernel
theorem dX5_mend_26 : decode cX5_mend 26 = .ok (.ireturn, 1) := by decide +kernel
theorem dX5_mend_27 : decode cX5_mend 27 = .ok (.bipush 14, 2) := by decide +kernel
theorem dX5_mend_29 : decode cX5_mend 29 = .ok (.iload_n 1, 1) := by decide +kernel
theorem dX5_mend_30 : decode cX5_mend 30 = .ok (.imul, 1) := by decide +kernel
theorem dX5_mend_31 : decode cX5_mend 31 = .ok (.iload_n 2, 1) := by decide +kernel
theorem dX5_mend_32 : decode cX5_mend 32 = .ok (.iadd, 1) := by decide +kernel
theorem dX5_mend_33 : decode cX5_mend 33 = .ok (.istore_n 3, 1) := by decide +kernel
theorem dX5_mend_34 : decode cX5_mend 34 = .ok (.aload_n 0, 1) := by decide +kernel
theorem dX5_mend_35 : decode cX5_mend 35 = .ok (.getfield 25, 3) := by decide +kernel
theorem dX5_mend_38 : decode cX5_mend 38 = .ok (.iload_n 3, 1) := by decide +kernel
theorem dX5_mend_39 : decode cX5_mend 39 = .ok (.baload, 1) := by decide +kernel
theorem dX5_mend_40 : decode cX5_mend 40 = .ok (.ifCond .ne 12, 3) := by decide +kernel
theorem dX5_mend_43 : decode cX5_mend 43 = .ok (.aload_n 0, 1) := by decide +kernel
theorem dX5_mend_44 : decode cX5_mend 44 = .ok (.getfield 29, 3) := by decide +kernel
theorem dX5_mend_47 : decode cX5_mend 47 = .ok (.iload_n 3, 1) := by decide +kernel
theorem dX5_mend_48 : decode cX5_mend 48 = .ok (.baload, 1) := by decide +kernel
theorem dX5_mend_49 : decode cX5_mend 49 = .ok (.ifCond .eq 7, 3) := by decide +kernel
theorem dX5_mend_52 : decode cX5_mend 52 = .ok (.iconst 1, 1) := by decide +kernel
theorem dX5_mend_53 : decode cX5_mend 53 = .ok (.goto 4, 3) := by decide +kernel
theorem dX5_mend_56 : decode cX5_mend 56 = .ok (.iconst 0, 1) := by decide +kernel
theorem dX5_mend_57 : decode cX5_mend 57 = .ok (.istore 4, 2) := by decide +kernel
theorem dX5_mend_59 : decode cX5_mend 59 = .ok (.aload_n 0, 1) := by decide +kernel
theorem dX5_mend_60 : decode cX5_mend 60 = .ok (.getfield 25, 3) := by decide +kernel
theorem dX5_mend_63 : decode cX5_mend 63 = .ok (.iload_n 3, 1) := by decide +kernel
theorem dX5_mend_64 : decode cX5_mend 64 = .ok (.iconst 0, 1) := by decide +kernel
theorem dX5_mend_65 : decode cX5_mend 65 = .ok (.bastore, 1) := by decide +kernel
theorem dX5_mend_66 : decode cX5_mend 66 = .ok (.aload_n 0, 1) := by decide +kernel
theorem dX5_mend_67 : decode cX5_mend 67 = .ok (.getfield 29, 3) := by decide +kernel
theorem dX5_mend_70 : decode cX5_mend 70 = .ok (.iload_n 3, 1) := by decide +kernel
theorem dX5_mend_71 : decode cX5_mend 71 = .ok (.iconst 0, 1) := by decide +kernel
theorem dX5_mend_72 : decode cX5_mend 72 = .ok (.bastore, 1) := by decide +kernel
theorem dX5_mend_73 : decode cX5_mend 73 = .ok (.aload_n 0, 1) := by decide +kernel
theorem dX5_mend_74 : decode cX5_mend 74 = .ok (.getfield 19, 3) := by decide +kernel
theorem dX5_mend_77 : decode cX5_mend 77 = .ok (.iload_n 3, 1) := by decide +kernel
theorem dX5_mend_78 : decode cX5_mend 78 = .ok (.aload_n 0, 1) := by decide +kernel
theorem dX5_mend_79 : decode cX5_mend 79 = .ok (.getfield 16, 3) := by decide +kernel
theorem dX5_mend_82 : decode cX5_mend 82 = .ok (.iload_n 3, 1) := by decide +kernel
theorem dX5_mend_83 : decode cX5_mend 83 = .ok (.iaload, 1) := by decide +kernel
theorem dX5_mend_84 : decode cX5_mend 84 = .ok (.iastore, 1) := by decide +kernel
theorem dX5_mend_85 : decode cX5_mend 85 = .ok (.iload 4, 2) := by decide +kernel
theorem dX5_mend_87 : decode cX5_mend 87 = .ok (.ireturn, 1) := by decide +kernel
theorem dX5_send_0 : decode cX5_send 0 = .ok (.aload_n 0, 1) := by decide +kernel
theorem dX5_send_1 : decode cX5_send 1 = .ok (.getfield 22, 3) := by decide +kernel
theorem dX5_send_4 : decode cX5_send 4 = .ok (.iload_n 1, 1) := by decide +kernel
theorem dX5_send_5 : decode cX5_send 5 = .ok (.aload_n 0, 1) := by decide +kernel
theorem dX5_send_6 : decode cX5_send 6 = .ok (.getfield 16, 3) := by decide +kernel
theorem dX5_send_9 : decode cX5_send 9 = .ok (.iload_n 1, 1) := by decide +kernel
theorem dX5_send_10 : decode cX5_send 10 = .ok (.iaload, 1) := by decide +kernel
theorem dX5_send_11 : decode cX5_send 11 = .ok (.iload_n 2, 1) := by decide +kernel
theorem dX5_send_12 : decode cX5_send 12 = .ok (.if_icmp .ne 12, 3) := by decide +kernel
theorem dX5_send_15 : decode cX5_send 15 = .ok (.aload_n 0, 1) := by decide +kernel
theorem dX5_send_16 : decode cX5_send 16 = .ok (.getfield 22, 3) := by decide +kernel
theorem dX5_send_19 : decode cX5_send 19 = .ok (.iload_n 1, 1) := by decide +kernel
theorem dX5_send_20 : decode cX5_send 20 = .ok (.iaload, 1) := by decide +kernel
theorem dX5_send_21 : decode cX5_send 21 = .ok (.goto 7, 3) := by decide +kernel
theorem dX5_send_24 : decode cX5_send 24 = .ok (.aload_n 0, 1) := by decide +kernel
theorem dX5_send_25 : decode cX5_send 25 = .ok (.getfield 113, 3) := by decide +kernel
theorem dX5_send_28 : decode cX5_send 28 = .ok (.iastore, 1) := by decide +kernel
theorem dX5_send_29 : decode cX5_send 29 = .ok (.aload_n 0, 1) := by decide +kernel
theorem dX5_send_30 : decode cX5_send 30 = .ok (.getfield 16, 3) := by decide +kernel
theorem dX5_send_33 : decode cX5_send 33 = .ok (.iload_n 1, 1) := by decide +kernel
theorem dX5_send_34 : decode cX5_send 34 = .ok (.iload_n 2, 1) := by decide +kernel
theorem dX5_send_35 : decode cX5_send 35 = .ok (.iastore, 1) := by decide +kernel
theorem dX5_send_36 : decode cX5_send 36 = .ok (.return_, 1) := by decide +kernel
set_option maxRecDepth 20000 in
theorem ggX5_stop_X5_send : GoodIn wsX5_stop wsX5_send := goodIn_r _ [8, 9, 2, 3, 10, 11, 12, 13, 14, 15, 16, 17, 18, 19, 20, 21, 22, 23, 24, 25, 26, 27, 28, 29, 30, 31, 32, 33, 34, 35, 36, 37, 38, 39, 40, 41, 42, 43, 44] (by decide +kernel) (by decide +kernel)
set_option maxRecDepth 20000 in
theorem gX5_stop_X5_send : GoodIn wsX5_stop (wsV RX5 137 RX5 yX5_send wsX5_send) := goodIn_app (goodIn_of _ (by decide +kernel)) ggX5_stop_X5_send
theorem dX5_stop_0 : decode cX5_stop 0 = .ok (.aload_n 0, 1) := by decide +kernel
theorem dX5_stop_1 : decode cX5_stop 1 = .ok (.getfield 41, 3) := by decide +kernel
theorem dX5_stop_4 : decode cX5_stop 4 = .ok (.iload_n 1, 1) := by decide +kernel
theorem dX5_stop_5 : decode cX5_stop 5 = .ok (.aload_n 0, 1) := by decide +kernel
theorem dX5_stop_6 : decode cX5_stop 6 = .ok (.getfield 16, 3) := by decide +kernel
theorem dX5_stop_9 : decode cX5_stop 9 = .ok (.iload_n 1, 1) := by decide +kernel
theorem dX5_stop_10 : decode cX5_stop 10 = .ok (.iaload, 1) := by decide +kernel
theorem dX5_stop_11 : decode cX5_stop 11 = .ok (.ifCond .ne 12, 3) := by decide +kernel
theorem dX5_stop_14 : decode cX5_stop 14 = .ok (.aload_n 0, 1) := by decide +kernel
theorem dX5_stop_15 : decode cX5_stop 15 = .ok (.getfield 41, 3) := by decide +kernel
theorem dX5_stop_18 : decode cX5_stop 18 = .ok (.iload_n 1, 1) := by decide +kernel
theorem dX5_stop_19 : decode cX5_stop 19 = .ok (.iaload, 1) := by decide +kernel
theorem dX5_stop_20 : decode cX5_stop 20 = .ok (.goto 7, 3) := by decide +kernel
theorem dX5_stop_23 : decode cX5_stop 23 = .ok (.aload_n 0, 1) := by decide +kernel
theorem dX5_stop_24 : decode cX5_stop 24 = .ok (.getfield 113, 3) := by decide +kernel
theorem dX5_stop_27 : decode cX5_stop 27 = .ok (.iastore, 1) := by decide +kernel
theorem dX5_stop_28 : decode cX5_stop 28 = .ok (.aload_n 0, 1) := by decide +kernel
theorem dX5_stop_29 : decode cX5_stop 29 = .ok (.iload_n 1, 1) := by decide +kernel
theorem dX5_stop_30 : decode cX5_stop 30 = .ok (.iconst 0, 1) := by decide +kernel
theorem dX5_stop_31 : decode cX5_stop 31 = .ok (.invokevirtual 137, 3) := by decide +kernel
theorem dX5_stop_34 : decode cX5_stop 34 = .ok (.return_, 1) := by decide +kernel
theorem dX5_isHalted_0 : decode cX5_isHalted 0 = .ok (.bipush 14, 2) := by decide +kernel
theorem dX5_isHalted_2 : decode cX5_isHalted 2 = .ok (.iload_n 1, 1) := by decide +kernel
theorem dX5_isHalted_3 : decode cX5_isHalted 3 = .ok (.imul, 1) := by decide +kernel
theorem dX5_isHalted_4 : decode cX5_isHalted 4 = .ok (.istore_n 2, 1) := by decide +kernel
theorem dX5_isHalted_5 : decode cX5_isHalted 5 = .ok (.aload_n 0, 1) := by decide +kernel
theorem dX5_isHalted_6 : decode cX5_isHalted 6 = .ok (.getfield 16, 3) := by decide +kernel
theorem dX5_isHalted_9 : decode cX5_isHalted 9 = .ok (.iload_n 2, 1) := by decide +kernel
theorem dX5_isHalted_10 : decode cX5_isHalted 10 = .ok (.iaload, 1) := by decide +kernel
theorem dX5_isHalted_11 : decode cX5_isHalted 11 = .ok (.iconst 1, 1) := by decide +kernel
theorem dX5_isHalted_12 : decode cX5_isHalted 12 = .ok (.if_icmp .ne 33, 3) := by decide +kernel
theorem dX5_isHalted_15 : decode cX5_isHalted 15 = .ok (.aload_n 0, 1) := by decide +kernel
theorem dX5_isHalted_16 : decode cX5_isHalted 16 = .ok (.getfield 19, 3) := by decide +kernel
theorem dX5_isHalted_19 : decode cX5_isHalted 19 = .ok (.iload_n 2, 1) := by decide +kernel
theorem dX5_isHalted_20 : decode cX5_isHalted 20 = .ok (.iaload, 1) := by decide +kernel
theorem dX5_isHalted_21 : decode cX5_isHalted 21 = .ok (.iconst 1, 1) := by decide +kernel
theorem dX5_isHalted_22 : decode cX5_isHalted 22 = .ok (.if_icmp .eq 19, 3) := by decide +kernel
theorem dX5_isHalted_25 : decode cX5_isHalted 25 = .ok (.aload_n 0, 1) := by decide +kernel
theorem dX5_isHalted_26 : decode cX5_isHalted 26 = .ok (.getfield 113, 3) := by decide +kernel
theorem dX5_isHalted_29 : decode cX5_isHalted 29 = .ok (.aload_n 0, 1) := by decide +kernel
theorem dX5_isHalted_30 : decode cX5_isHalted 30 = .ok (.getfield 22, 3) := by decide +kernel
theorem dX5_isHalted_33 : decode cX5_isHalted 33 = .ok (.iload_n 2, 1) := by decide +kernel
theorem dX5_isHalted_34 : decode cX5_isHalted 34 = .ok (.iaload, 1) := by decide +kernel
theorem dX5_isHalted_35 : decode cX5_isHalted 35 = .ok (.isub, 1) := by decide +kernel
theorem dX5_isHalted_36 : decode cX5_isHalted 36 = .ok (.bipush 60, 2) := by decide +kernel
theorem dX5_isHalted_38 : decode cX5_isHalted 38 = .ok (.if_icmp .lt 7, 3) := by decide +kernel
theorem dX5_isHalted_41 : decode cX5_isHalted 41 = .ok (.iconst 1, 1) := by decide +kernel
theorem dX5_isHalted_42 : decode cX5_isHalted 42 = .ok (.goto 4, 3) := by decide +kernel
theorem dX5_isHalted_45 : decode cX5_isHalted 45 = .ok (.iconst 0, 1) := by decide +kernel
theorem dX5_isHalted_46 : decode cX5_isHalted 46 = .ok (.ireturn, 1) := by decide +kernel
set_option maxRecDepth 20000 in
theorem ggX5_act_X5_stop : GoodIn wsX5_act wsX5_stop := goodIn_r _ [13, 14, 7, 4, 15, 16, 17, 12, 18, 5, 19, 20, 21, 22, 23, 24, 25, 26, 27, 28, 29, 30, 31, 32, 33, 34, 35, 36, 37, 38, 39, 40, 41, 42, 43, 44, 45, 46, 47, 48, 49, 50, 51, 52, 53] (by decide +kernel) (by decide +kernel)
set_option maxRecDepth 20000 in
theorem gX5_act_X5_stop : GoodIn wsX5_act (wsV RX5 141 RX5 yX5_stop wsX5_stop) := goodIn_app (goodIn_of _ (by decide +kernel)) ggX5_act_X5_stop
theorem dX5_act_0 : decode cX5_act 0 = .ok (.iconst 0, 1) := by decide +kernel
theorem dX5_act_1 : decode cX5_act 1 = .ok (.istore_n 1, 1) := by decide +kernel
theorem dX5_act_2 : decode cX5_act 2 = .ok (.iload_n 1, 1) := by decide +kernel
theorem dX5_act_3 : decode cX5_act 3 = .ok (.iconst 2, 1) := by decide +kernel
theorem dX5_act_4 : decode cX5_act 4 = .ok (.if_icmp .ge 143, 3) := by decide +kernel
theorem dX5_act_7 : decode cX5_act 7 = .ok (.iconst 0, 1) := by decide +kernel
theorem dX5_act_8 : decode cX5_act 8 = .ok (.istore_n 2, 1) := by decide +kernel
theorem dX5_act_9 : decode cX5_act 9 = .ok (.iload_n 2, 1) := by decide +kernel
theorem dX5_act_10 : decode cX5_act 10 = .ok (.iconst 2, 1) := by decide +kernel
theorem dX5_act_11 : decode cX5_act 11 = .ok (.aload_n 0, 1) := by decide +kernel
theorem dX5_act_12 : decode cX5_act 12 = .ok (.getfield 7, 3) := by decide +kernel
theorem dX5_act_15 : decode cX5_act 15 = .ok (.iload_n 1, 1) := by decide +kernel
theorem dX5_act_16 : decode cX5_act 16 = .ok (.iaload, 1) := by decide +kernel
theorem dX5_act_17 : decode cX5_act 17 = .ok (.iadd, 1) := by decide +kernel
theorem dX5_act_18 : decode cX5_act 18 = .ok (.if_icmp .ge 123, 3) := by decide +kernel
theorem dX5_act_21 : decode cX5_act 21 = .ok (.bipush 14, 2) := by decide +kernel
theorem dX5_act_23 : decode cX5_act 23 = .ok (.iload_n 1, 1) := by decide +kernel
theorem dX5_act_24 : decode cX5_act 24 = .ok (.imul, 1) := by decide +kernel
theorem dX5_act_25 : decode cX5_act 25 = .ok (.iload_n 2, 1) := by decide +kernel
theorem dX5_act_26 : decode cX5_act 26 = .ok (.iadd, 1) := by decide +kernel
theorem dX5_act_27 : decode cX5_act 27 = .ok (.istore_n 3, 1) := by decide +kernel
theorem dX5_act_28 : decode cX5_act 28 = .ok (.aload_n 0, 1) := by decide +kernel
theorem dX5_act_29 : decode cX5_act 29 = .ok (.getfield 19, 3) := by decide +kernel
theorem dX5_act_32 : decode cX5_act 32 = .ok (.iload_n 3, 1) := by decide +kernel
theorem dX5_act_33 : decode cX5_act 33 = .ok (.aload_n 0, 1) := by decide +kernel
theorem dX5_act_34 : decode cX5_act 34 = .ok (.getfield 25, 3) := by decide +kernel
theorem dX5_act_37 : decode cX5_act 37 = .ok (.iload_n 3, 1) := by decide +kernel
theorem dX5_act_38 : decode cX5_act 38 = .ok (.baload, 1) := by decide +kernel
theorem dX5_act_39 : decode cX5_act 39 = .ok (.ifCond .ne 32, 3) := by decide +kernel
theorem dX5_act_42 : decode cX5_act 42 = .ok (.aload_n 0, 1) := by decide +kernel
theorem dX5_act_43 : decode cX5_act 43 = .ok (.getfield 113, 3) := by decide +kernel
theorem dX5_act_46 : decode cX5_act 46 = .ok (.aload_n 0, 1) := by decide +kernel
theorem dX5_act_47 : decode cX5_act 47 = .ok (.getfield 22, 3) := by decide +kernel
theorem dX5_act_50 : decode cX5_act 50 = .ok (.iload_n 3, 1) := by decide +kernel
theorem dX5_act_51 : decode cX5_act 51 = .ok (.iaload, 1) := by decide +kernel
theorem dX5_act_52 : decode cX5_act 52 = .ok (.isub, 1) := by decide +kernel
theorem dX5_act_53 : decode cX5_act 53 = .ok (.aload_n 0, 1) := by decide +kernel
theorem dX5_act_54 : decode cX5_act 54 = .ok (.getfield 13, 3) := by decide +kernel
theorem dX5_act_57 : decode cX5_act 57 = .ok (.iload_n 3, 1) := by decide +kernel
theorem dX5_act_58 : decode cX5_act 58 = .ok (.iaload, 1) := by decide +kernel
theorem dX5_act_59 : decode cX5_act 59 = .ok (.if_icmp .lt 12, 3) := by decide +kernel
theorem dX5_act_62 : decode cX5_act 62 = .ok (.aload_n 0, 1) := by decide +kernel
theorem dX5_act_63 : decode cX5_act 63 = .ok (.getfield 16, 3) := by decide +kernel
theorem dX5_act_66 : decode cX5_act 66 = .ok (.iload_n 3, 1) := by decide +kernel
theorem dX5_act_67 : decode cX5_act 67 = .ok (.iaload, 1) := by decide +kernel
theorem dX5_act_68 : decode cX5_act 68 = .ok (.goto 9, 3) := by decide +kernel
theorem dX5_act_71 : decode cX5_act 71 = .ok (.aload_n 0, 1) := by decide +kernel
theorem dX5_act_72 : decode cX5_act 72 = .ok (.getfield 19, 3) := by decide +kernel
theorem dX5_act_75 : decode cX5_act 75 = .ok (.iload_n 3, 1) := by decide +kernel
theorem dX5_act_76 : decode cX5_act 76 = .ok (.iaload, 1) := by decide +kernel
theorem dX5_act_77 : decode cX5_act 77 = .ok (.iastore, 1) := by decide +kernel
theorem dX5_act_78 : decode cX5_act 78 = .ok (.iload_n 2, 1) := by decide +kernel
theorem dX5_act_79 : decode cX5_act 79 = .ok (.iconst 1, 1) := by decide +kernel
theorem dX5_act_80 : decode cX5_act 80 = .ok (.if_icmp .le 55, 3) := by decide +kernel
theorem dX5_act_83 : decode cX5_act 83 = .ok (.aload_n 0, 1) := by decide +kernel
theorem dX5_act_84 : decode cX5_act 84 = .ok (.getfield 29, 3) := by decide +kernel
theorem dX5_act_87 : decode cX5_act 87 = .ok (.iload_n 3, 1) := by decide +kernel
theorem dX5_act_88 : decode cX5_act 88 = .ok (.baload, 1) := by decide +kernel
theorem dX5_act_89 : decode cX5_act 89 = .ok (.ifCond .ne 46, 3) := by decide +kernel
theorem dX5_act_92 : decode cX5_act 92 = .ok (.aload_n 0, 1) := by decide +kernel
theorem dX5_act_93 : decode cX5_act 93 = .ok (.getfield 19, 3) := by decide +kernel
theorem dX5_act_96 : decode cX5_act 96 = .ok (.iload_n 3, 1) := by decide +kernel
theorem dX5_act_97 : decode cX5_act 97 = .ok (.iaload, 1) := by decide +kernel
theorem dX5_act_98 : decode cX5_act 98 = .ok (.aload_n 0, 1) := by decide +kernel
theorem dX5_act_99 : decode cX5_act 99 = .ok (.getfield 16, 3) := by decide +kernel
theorem dX5_act_102 : decode cX5_act 102 = .ok (.iload_n 3, 1) := by decide +kernel
theorem dX5_act_103 : decode cX5_act 103 = .ok (.iaload, 1) := by decide +kernel
theorem dX5_act_104 : decode cX5_act 104 = .ok (.if_icmp .eq 31, 3) := by decide +kernel
theorem dX5_act_107 : decode cX5_act 107 = .ok (.aload_n 0, 1) := by decide +kernel
theorem dX5_act_108 : decode cX5_act 108 = .ok (.getfield 113, 3) := by decide +kernel
theorem dX5_act_111 : decode cX5_act 111 = .ok (.aload_n 0, 1) := by decide +kernel
theorem dX5_act_112 : decode cX5_act 112 = .ok (.getfield 22, 3) := by decide +kernel
theorem dX5_act_115 : decode cX5_act 115 = .ok (.iload_n 3, 1) := by decide +kernel
theorem dX5_act_116 : decode cX5_act 116 = .ok (.iaload, 1) := by decide +kernel
theorem dX5_act_117 : decode cX5_act 117 = .ok (.isub, 1) := by decide +kernel
theorem dX5_act_118 : decode cX5_act 118 = .ok (.bipush 10, 2) := by decide +kernel
theorem dX5_act_120 : decode cX5_act 120 = .ok (.if_icmp .lt 15, 3) := by decide +kernel
theorem dX5_act_123 : decode cX5_act 123 = .ok (.aload_n 0, 1) := by decide +kernel
theorem dX5_act_124 : decode cX5_act 124 = .ok (.getfield 29, 3) := by decide +kernel
theorem dX5_act_127 : decode cX5_act 127 = .ok (.iload_n 3, 1) := by decide +kernel
theorem dX5_act_128 : decode cX5_act 128 = .ok (.iconst 1, 1) := by decide +kernel
theorem dX5_act_129 : decode cX5_act 129 = .ok (.bastore, 1) := by decide +kernel
theorem dX5_act_130 : decode cX5_act 130 = .ok (.aload_n 0, 1) := by decide +kernel
theorem dX5_act_131 : decode cX5_act 131 = .ok (.iload_n 3, 1) := by decide +kernel
theorem dX5_act_132 : decode cX5_act 132 = .ok (.invokevirtual 141, 3) := by decide +kernel
theorem dX5_act_135 : decode cX5_act 135 = .ok (.iinc 2 1, 3) := by decide +kernel
theorem dX5_act_138 : decode cX5_act 138 = .ok (.goto (-129), 3) := by decide +kernel
theorem dX5_act_141 : decode cX5_act 141 = .ok (.iinc 1 1, 3) := by decide +kernel
theorem dX5_act_144 : decode cX5_act 144 = .ok (.goto (-142), 3) := by decide +kernel
theorem dX5_act_147 : decode cX5_act 147 = .ok (.return_, 1) := by decide +kernel
set_option maxRecDepth 20000 in
theorem ggX5_isCandidate_X5_isOn : GoodIn wsX5_isCandidate wsX5_isOn := goodIn_r _ [6, 1, 7, 8, 9, 10, 11, 12, 13, 14, 15, 16, 17, 18, 19, 20, 21, 22, 23, 24, 25, 26, 27, 28, 29, 30, 31, 32, 33, 34, 35, 36, 37, 38, 39, 40, 41, 42, 43] (by decide +kernel) (by decide +kernel)
set_option maxRecDepth 20000 in
theorem gX5_isCandidate_X5_isOn : GoodIn wsX5_isCandidate (wsV RX5 131 RX5 yX5_isOn wsX5_isOn) := goodIn_app (goodIn_of _ (by decide +kernel)) ggX5_isCandidate_X5_isOn
theorem dX5_isCandidate_0 : decode cX5_isCandidate 0 = .ok (.iconst 0, 1) := by decide +kernel
theorem dX5_isCandidate_1 : decode cX5_isCandidate 1 = .ok (.istore_n 3, 1) := by decide +kernel
theorem dX5_isCandidate_2 : decode cX5_isCandidate 2 = .ok (.iconst 0, 1) := by decide +kernel
theorem dX5_isCandidate_3 : decode cX5_isCandidate 3 = .ok (.istore 4, 2) := by decide +kernel
theorem dX5_isCandidate_5 : decode cX5_isCandidate 5 = .ok (.iload 4, 2) := by decide +kernel
theorem dX5_isCandidate_7 : decode cX5_isCandidate 7 = .ok (.aload_n 0, 1) := by decide +kernel
theorem dX5_isCandidate_8 : decode cX5_isCandidate 8 = .ok (.getfield 95, 3) := by decide +kernel
theorem dX5_isCandidate_11 : decode cX5_isCandidate 11 = .ok (.if_icmp .ge 60, 3) := by decide +kernel
theorem dX5_isCandidate_14 : decode cX5_isCandidate 14 = .ok (.iload 4, 2) := by decide +kernel
theorem dX5_isCandidate_16 : decode cX5_isCandidate 16 = .ok (.iload_n 2, 1) := by decide +kernel
theorem dX5_isCandidate_17 : decode cX5_isCandidate 17 = .ok (.if_icmp .ge 10, 3) := by decide +kernel
theorem dX5_isCandidate_20 : decode cX5_isCandidate 20 = .ok (.iload_n 2, 1) := by decide +kernel
theorem dX5_isCandidate_21 : decode cX5_isCandidate 21 = .ok (.iload 4, 2) := by decide +kernel
theorem dX5_isCandidate_23 : decode cX5_isCandidate 23 = .ok (.isub, 1) := by decide +kernel
theorem dX5_isCandidate_24 : decode cX5_isCandidate 24 = .ok (.goto 7, 3) := by decide +kernel
theorem dX5_isCandidate_27 : decode cX5_isCandidate 27 = .ok (.iload 4, 2) := by decide +kernel
theorem dX5_isCandidate_29 : decode cX5_isCandidate 29 = .ok (.iload_n 2, 1) := by decide +kernel
theorem dX5_isCandidate_30 : decode cX5_isCandidate 30 = .ok (.isub, 1) := by decide +kernel
theorem dX5_isCandidate_31 : decode cX5_isCandidate 31 = .ok (.istore 5, 2) := by decide +kernel
theorem dX5_isCandidate_33 : decode cX5_isCandidate 33 = .ok (.iload_n 3, 1) := by decide +kernel
theorem dX5_isCandidate_34 : decode cX5_isCandidate 34 = .ok (.ifCond .ne 25, 3) := by decide +kernel
theorem dX5_isCandidate_37 : decode cX5_isCandidate 37 = .ok (.iload 5, 2) := by decide +kernel
theorem dX5_isCandidate_39 : decode cX5_isCandidate 39 = .ok (.iconst 1, 1) := by decide +kernel
theorem dX5_isCandidate_40 : decode cX5_isCandidate 40 = .ok (.if_icmp .lt 23, 3) := by decide +kernel
theorem dX5_isCandidate_43 : decode cX5_isCandidate 43 = .ok (.iload 5, 2) := by decide +kernel
theorem dX5_isCandidate_45 : decode cX5_isCandidate 45 = .ok (.iconst 3, 1) := by decide +kernel
theorem dX5_isCandidate_46 : decode cX5_isCandidate 46 = .ok (.if_icmp .gt 17, 3) := by decide +kernel
theorem dX5_isCandidate_49 : decode cX5_isCandidate 49 = .ok (.aload_n 0, 1) := by decide +kernel
theorem dX5_isCandidate_50 : decode cX5_isCandidate 50 = .ok (.iload_n 1, 1) := by decide +kernel
theorem dX5_isCandidate_51 : decode cX5_isCandidate 51 = .ok (.iload 4, 2) := by decide +kernel
theorem dX5_isCandidate_53 : decode cX5_isCandidate 53 = .ok (.invokevirtual 131, 3) := by decide +kernel
theorem dX5_isCandidate_56 : decode cX5_isCandidate 56 = .ok (.ifCond .eq 7, 3) := by decide +kernel
theorem dX5_isCandidate_59 : decode cX5_isCandidate 59 = .ok (.iconst 1, 1) := by decide +kernel
theorem dX5_isCandidate_60 : decode cX5_isCandidate 60 = .ok (.goto 4, 3) := by decide +kernel
theorem dX5_isCandidate_63 : decode cX5_isCandidate 63 = .ok (.iconst 0, 1) := by decide +kernel
theorem dX5_isCandidate_64 : decode cX5_isCandidate 64 = .ok (.istore_n 3, 1) := by decide +kernel
theorem dX5_isCandidate_65 : decode cX5_isCandidate 65 = .ok (.iinc 4 1, 3) := by decide +kernel
theorem dX5_isCandidate_68 : decode cX5_isCandidate 68 = .ok (.goto (-63), 3) := by decide +kernel
theorem dX5_isCandidate_71 : decode cX5_isCandidate 71 = .ok (.aload_n 0, 1) := by decide +kernel
theorem dX5_isCandidate_72 : decode cX5_isCandidate 72 = .ok (.iload_n 1, 1) := by decide +kernel
theorem dX5_isCandidate_73 : decode cX5_isCandidate 73 = .ok (.iload_n 2, 1) := by decide +kernel
theorem dX5_isCandidate_74 : decode cX5_isCandidate 74 = .ok (.invokevirtual 131, 3) := by decide +kernel
theorem dX5_isCandidate_77 : decode cX5_isCandidate 77 = .ok (.ifCond .eq 11, 3) := by decide +kernel
theorem dX5_isCandidate_80 : decode cX5_isCandidate 80 = .ok (.iload_n 3, 1) := by decide +kernel
theorem dX5_isCandidate_81 : decode cX5_isCandidate 81 = .ok (.ifCond .eq 7, 3) := by decide +kernel
theorem dX5_isCandidate_84 : decode cX5_isCandidate 84 = .ok (.iconst 1, 1) := by decide +kernel
theorem dX5_isCandidate_85 : decode cX5_isCandidate 85 = .ok (.goto 4, 3) := by decide +kernel
theorem dX5_isCandidate_88 : decode cX5_isCandidate 88 = .ok (.iconst 0, 1) := by decide +kernel
theorem dX5_isCandidate_89 : decode cX5_isCandidate 89 = .ok (.ireturn, 1) := by decide +kernel
set_option maxRecDepth 20000 in
theorem ggX5_judge_X5_isCandidate : GoodIn wsX5_judge wsX5_isCandidate := goodIn_r _ [10, 1, 11, 12, 13, 9, 14, 15, 16, 21, 22, 23, 24, 25, 26, 27, 28, 29, 30, 31, 32, 33, 34, 35, 36, 37, 38, 39, 40, 41, 42, 43, 44, 45, 46, 47, 48, 49, 50, 51, 52, 53, 54, 55] (by decide +kernel) (by decide +kernel)
set_option maxRecDepth 20000 in
theorem gX5_judge_X5_isCandidate : GoodIn wsX5_judge (wsV RX5 145 RX5 yX5_isCandidate wsX5_isCandidate) := goodIn_app (goodIn_of _ (by decide +kernel)) ggX5_judge_X5_isCandidate
set_option maxRecDepth 20000 in
theorem ggX5_judge_X5_leastOn : GoodIn wsX5_judge wsX5_leastOn := goodIn_r _ [20, 1, 11, 12, 13, 9, 14, 15, 16, 21, 22, 23, 24, 25, 26, 27, 28, 29, 30, 31, 32, 33, 34, 35, 36, 37, 38, 39, 40, 41, 42, 43, 44, 45, 46, 47, 48, 49, 50, 51, 52, 53, 54, 55] (by decide +kernel) (by decide +kernel)
set_option maxRecDepth 20000 in
theorem gX5_judge_X5_leastOn : GoodIn wsX5_judge (wsV RX5 134 RX5 yX5_leastOn wsX5_leastOn) := goodIn_app (goodIn_of _ (by decide +kernel)) ggX5_judge_X5_leastOn
theorem dX5_judge_0 : decode cX5_judge 0 = .ok (.iconst (-1), 1) := by decide +kernel
theorem dX5_judge_1 : decode cX5_judge 1 = .ok (.istore_n 2, 1) := by decide +kernel
theorem dX5_judge_2 : decode cX5_judge 2 = .ok (.aload_n 0, 1) := by decide +kernel
theorem dX5_judge_3 : decode cX5_judge 3 = .ok (.getfield 95, 3) := by decide +kernel
theorem dX5_judge_6 : decode cX5_judge 6 = .ok (.iconst 1, 1) := by decide +kernel
theorem dX5_judge_7 : decode cX5_judge 7 = .ok (.isub, 1) := by decide +kernel
theorem dX5_judge_8 : decode cX5_judge 8 = .ok (.istore_n 3, 1) := by decide +kernel
theorem dX5_judge_9 : decode cX5_judge 9 = .ok (.iload_n 3, 1) := by decide +kernel
theorem dX5_judge_10 : decode cX5_judge 10 = .ok (.ifCond .lt 24, 3) := by decide +kernel
theorem dX5_judge_13 : decode cX5_judge 13 = .ok (.aload_n 0, 1) := by decide +kernel
theorem dX5_judge_14 : decode cX5_judge 14 = .ok (.iload_n 1, 1) := by decide +kernel
theorem dX5_judge_15 : decode cX5_judge 15 = .ok (.iload_n 3, 1) := by decide +kernel
theorem dX5_judge_16 : decode cX5_judge 16 = .ok (.invokevirtual 145, 3) := by decide +kernel
theorem dX5_judge_19 : decode cX5_judge 19 = .ok (.ifCond .eq 7, 3) := by decide +kernel
theorem dX5_judge_22 : decode cX5_judge 22 = .ok (.iload_n 3, 1) := by decide +kernel
theorem dX5_judge_23 : decode cX5_judge 23 = .ok (.goto 4, 3) := by decide +kernel
theorem dX5_judge_26 : decode cX5_judge 26 = .ok (.iload_n 2, 1) := by decide +kernel
theorem dX5_judge_27 : decode cX5_judge 27 = .ok (.istore_n 2, 1) := by decide +kernel
theorem dX5_judge_28 : decode cX5_judge 28 = .ok (.iinc 3 (-1), 3) := by decide +kernel
theorem dX5_judge_31 : decode cX5_judge 31 = .ok (.goto (-22), 3) := by decide +kernel
theorem dX5_judge_34 : decode cX5_judge 34 = .ok (.iconst (-1), 1) := by decide +kernel
theorem dX5_judge_35 : decode cX5_judge 35 = .ok (.istore_n 3, 1) := by decide +kernel
theorem dX5_judge_36 : decode cX5_judge 36 = .ok (.iconst 0, 1) := by decide +kernel
theorem dX5_judge_37 : decode cX5_judge 37 = .ok (.istore 4, 2) := by decide +kernel
theorem dX5_judge_39 : decode cX5_judge 39 = .ok (.iload 4, 2) := by decide +kernel
theorem dX5_judge_41 : decode cX5_judge 41 = .ok (.aload_n 0, 1) := by decide +kernel
theorem dX5_judge_42 : decode cX5_judge 42 = .ok (.getfield 95, 3) := by decide +kernel
theorem dX5_judge_45 : decode cX5_judge 45 = .ok (.if_icmp .ge 79, 3) := by decide +kernel
theorem dX5_judge_48 : decode cX5_judge 48 = .ok (.iload 4, 2) := by decide +kernel
theorem dX5_judge_50 : decode cX5_judge 50 = .ok (.iload_n 2, 1) := by decide +kernel
theorem dX5_judge_51 : decode cX5_judge 51 = .ok (.if_icmp .eq 18, 3) := by decide +kernel
theorem dX5_judge_54 : decode cX5_judge 54 = .ok (.aload_n 0, 1) := by decide +kernel
theorem dX5_judge_55 : decode cX5_judge 55 = .ok (.getfield 53, 3) := by decide +kernel
theorem dX5_judge_58 : decode cX5_judge 58 = .ok (.bipush 24, 2) := by decide +kernel
theorem dX5_judge_60 : decode cX5_judge 60 = .ok (.iload_n 1, 1) := by decide +kernel
theorem dX5_judge_61 : decode cX5_judge 61 = .ok (.imul, 1) := by decide +kernel
theorem dX5_judge_62 : decode cX5_judge 62 = .ok (.iload 4, 2) := by decide +kernel
theorem dX5_judge_64 : decode cX5_judge 64 = .ok (.iadd, 1) := by decide +kernel
theorem dX5_judge_65 : decode cX5_judge 65 = .ok (.baload, 1) := by decide +kernel
theorem dX5_judge_66 : decode cX5_judge 66 = .ok (.ifCond .eq 7, 3) := by decide +kernel
theorem dX5_judge_69 : decode cX5_judge 69 = .ok (.iconst 1, 1) := by decide +kernel
theorem dX5_judge_70 : decode cX5_judge 70 = .ok (.goto 4, 3) := by decide +kernel
theorem dX5_judge_73 : decode cX5_judge 73 = .ok (.iconst 0, 1) := by decide +kernel
theorem dX5_judge_74 : decode cX5_judge 74 = .ok (.istore 5, 2) := by decide +kernel
theorem dX5_judge_76 : decode cX5_judge 76 = .ok (.iload 5, 2) := by decide +kernel
theorem dX5_judge_78 : decode cX5_judge 78 = .ok (.ifCond .eq 38, 3) := by decide +kernel
theorem dX5_judge_81 : decode cX5_judge 81 = .ok (.iload_n 3, 1) := by decide +kernel
theorem dX5_judge_82 : decode cX5_judge 82 = .ok (.ifCond .lt 29, 3) := by decide +kernel
theorem dX5_judge_85 : decode cX5_judge 85 = .ok (.aload_n 0, 1) := by decide +kernel
theorem dX5_judge_86 : decode cX5_judge 86 = .ok (.getfield 56, 3) := by decide +kernel
theorem dX5_judge_89 : decode cX5_judge 89 = .ok (.bipush 24, 2) := by decide +kernel
theorem dX5_judge_91 : decode cX5_judge 91 = .ok (.iload_n 1, 1) := by decide +kernel
theorem dX5_judge_92 : decode cX5_judge 92 = .ok (.imul, 1) := by decide +kernel
theorem dX5_judge_93 : decode cX5_judge 93 = .ok (.iload 4, 2) := by decide +kernel
theorem dX5_judge_95 : decode cX5_judge 95 = .ok (.iadd, 1) := by decide +kernel
theorem dX5_judge_96 : decode cX5_judge 96 = .ok (.iaload, 1) := by decide +kernel
theorem dX5_judge_97 : decode cX5_judge 97 = .ok (.aload_n 0, 1) := by decide +kernel
theorem dX5_judge_98 : decode cX5_judge 98 = .ok (.getfield 56, 3) := by decide +kernel
theorem dX5_judge_101 : decode cX5_judge 101 = .ok (.bipush 24, 2) := by decide +kernel
theorem dX5_judge_103 : decode cX5_judge 103 = .ok (.iload_n 1, 1) := by decide +kernel
theorem dX5_judge_104 : decode cX5_judge 104 = .ok (.imul, 1) := by decide +kernel
theorem dX5_judge_105 : decode cX5_judge 105 = .ok (.iload_n 3, 1) := by decide +kernel
theorem dX5_judge_106 : decode cX5_judge 106 = .ok (.iadd, 1) := by decide +kernel
theorem dX5_judge_107 : decode cX5_judge 107 = .ok (.iaload, 1) := by decide +kernel
theorem dX5_judge_108 : decode cX5_judge 108 = .ok (.if_icmp .le 8, 3) := by decide +kernel
theorem dX5_judge_111 : decode cX5_judge 111 = .ok (.iload 4, 2) := by decide +kernel
theorem dX5_judge_113 : decode cX5_judge 113 = .ok (.goto 4, 3) := by decide +kernel
theorem dX5_judge_116 : decode cX5_judge 116 = .ok (.iload_n 3, 1) := by decide +kernel
theorem dX5_judge_117 : decode cX5_judge 117 = .ok (.istore_n 3, 1) := by decide +kernel
theorem dX5_judge_118 : decode cX5_judge 118 = .ok (.iinc 4 1, 3) := by decide +kernel
theorem dX5_judge_121 : decode cX5_judge 121 = .ok (.goto (-82), 3) := by decide +kernel
theorem dX5_judge_124 : decode cX5_judge 124 = .ok (.iload_n 3, 1) := by decide +kernel
theorem dX5_judge_125 : decode cX5_judge 125 = .ok (.ifCond .ge 47, 3) := by decide +kernel
theorem dX5_judge_128 : decode cX5_judge 128 = .ok (.aload_n 0, 1) := by decide +kernel
theorem dX5_judge_129 : decode cX5_judge 129 = .ok (.getfield 71, 3) := by decide +kernel
theorem dX5_judge_132 : decode cX5_judge 132 = .ok (.iload_n 1, 1) := by decide +kernel
theorem dX5_judge_133 : decode cX5_judge 133 = .ok (.iaload, 1) := by decide +kernel
theorem dX5_judge_134 : decode cX5_judge 134 = .ok (.iconst 2, 1) := by decide +kernel
theorem dX5_judge_135 : decode cX5_judge 135 = .ok (.if_icmp .eq 91, 3) := by decide +kernel
theorem dX5_judge_138 : decode cX5_judge 138 = .ok (.aload_n 0, 1) := by decide +kernel
theorem dX5_judge_139 : decode cX5_judge 139 = .ok (.getfield 74, 3) := by decide +kernel
theorem dX5_judge_142 : decode cX5_judge 142 = .ok (.iload_n 1, 1) := by decide +kernel
theorem dX5_judge_143 : decode cX5_judge 143 = .ok (.aload_n 0, 1) := by decide +kernel
theorem dX5_judge_144 : decode cX5_judge 144 = .ok (.iload_n 1, 1) := by decide +kernel
theorem dX5_judge_145 : decode cX5_judge 145 = .ok (.invokevirtual 134, 3) := by decide +kernel
theorem dX5_judge_148 : decode cX5_judge 148 = .ok (.iastore, 1) := by decide +kernel
theorem dX5_judge_149 : decode cX5_judge 149 = .ok (.aload_n 0, 1) := by decide +kernel
theorem dX5_judge_150 : decode cX5_judge 150 = .ok (.getfield 71, 3) := by decide +kernel
theorem dX5_judge_153 : decode cX5_judge 153 = .ok (.iload_n 1, 1) := by decide +kernel
theorem dX5_judge_154 : decode cX5_judge 154 = .ok (.aload_n 0, 1) := by decide +kernel
theorem dX5_judge_155 : decode cX5_judge 155 = .ok (.getfield 74, 3) := by decide +kernel
theorem dX5_judge_158 : decode cX5_judge 158 = .ok (.iload_n 1, 1) := by decide +kernel
theorem dX5_judge_159 : decode cX5_judge 159 = .ok (.iaload, 1) := by decide +kernel
theorem dX5_judge_160 : decode cX5_judge 160 = .ok (.ifCond .ge 7, 3) := by decide +kernel
theorem dX5_judge_163 : decode cX5_judge 163 = .ok (.iconst 0, 1) := by decide +kernel
theorem dX5_judge_164 : decode cX5_judge 164 = .ok (.goto 4, 3) := by decide +kernel
theorem dX5_judge_167 : decode cX5_judge 167 = .ok (.iconst 1, 1) := by decide +kernel
theorem dX5_judge_168 : decode cX5_judge 168 = .ok (.iastore, 1) := by decide +kernel
theorem dX5_judge_169 : decode cX5_judge 169 = .ok (.goto 57, 3) := by decide +kernel
theorem dX5_judge_172 : decode cX5_judge 172 = .ok (.aload_n 0, 1) := by decide +kernel
theorem dX5_judge_173 : decode cX5_judge 173 = .ok (.getfield 71, 3) := by decide +kernel
theorem dX5_judge_176 : decode cX5_judge 176 = .ok (.iload_n 1, 1) := by decide +kernel
theorem dX5_judge_177 : decode cX5_judge 177 = .ok (.iaload, 1) := by decide +kernel
theorem dX5_judge_178 : decode cX5_judge 178 = .ok (.iconst 2, 1) := by decide +kernel
theorem dX5_judge_179 : decode cX5_judge 179 = .ok (.if_icmp .ne 33, 3) := by decide +kernel
theorem dX5_judge_182 : decode cX5_judge 182 = .ok (.aload_n 0, 1) := by decide +kernel
theorem dX5_judge_183 : decode cX5_judge 183 = .ok (.getfield 56, 3) := by decide +kernel
theorem dX5_judge_186 : decode cX5_judge 186 = .ok (.bipush 24, 2) := by decide +kernel
theorem dX5_judge_188 : decode cX5_judge 188 = .ok (.iload_n 1, 1) := by decide +kernel
theorem dX5_judge_189 : decode cX5_judge 189 = .ok (.imul, 1) := by decide +kernel
theorem dX5_judge_190 : decode cX5_judge 190 = .ok (.iload_n 3, 1) := by decide +kernel
theorem dX5_judge_191 : decode cX5_judge 191 = .ok (.iadd, 1) := by decide +kernel
theorem dX5_judge_192 : decode cX5_judge 192 = .ok (.iaload, 1) := by decide +kernel
theorem dX5_judge_193 : decode cX5_judge 193 = .ok (.aload_n 0, 1) := by decide +kernel
theorem dX5_judge_194 : decode cX5_judge 194 = .ok (.getfield 56, 3) := by decide +kernel
theorem dX5_judge_197 : decode cX5_judge 197 = .ok (.bipush 24, 2) := by decide +kernel
theorem dX5_judge_199 : decode cX5_judge 199 = .ok (.iload_n 1, 1) := by decide +kernel
theorem dX5_judge_200 : decode cX5_judge 200 = .ok (.imul, 1) := by decide +kernel
theorem dX5_judge_201 : decode cX5_judge 201 = .ok (.aload_n 0, 1) := by decide +kernel
theorem dX5_judge_202 : decode cX5_judge 202 = .ok (.getfield 74, 3) := by decide +kernel
theorem dX5_judge_205 : decode cX5_judge 205 = .ok (.iload_n 1, 1) := by decide +kernel
theorem dX5_judge_206 : decode cX5_judge 206 = .ok (.iaload, 1) := by decide +kernel
theorem dX5_judge_207 : decode cX5_judge 207 = .ok (.iadd, 1) := by decide +kernel
theorem dX5_judge_208 : decode cX5_judge 208 = .ok (.iaload, 1) := by decide +kernel
theorem dX5_judge_209 : decode cX5_judge 209 = .ok (.if_icmp .le 17, 3) := by decide +kernel
theorem dX5_judge_212 : decode cX5_judge 212 = .ok (.aload_n 0, 1) := by decide +kernel
theorem dX5_judge_213 : decode cX5_judge 213 = .ok (.getfield 71, 3) := by decide +kernel
theorem dX5_judge_216 : decode cX5_judge 216 = .ok (.iload_n 1, 1) := by decide +kernel
theorem dX5_judge_217 : decode cX5_judge 217 = .ok (.iconst 2, 1) := by decide +kernel
theorem dX5_judge_218 : decode cX5_judge 218 = .ok (.iastore, 1) := by decide +kernel
theorem dX5_judge_219 : decode cX5_judge 219 = .ok (.aload_n 0, 1) := by decide +kernel
theorem dX5_judge_220 : decode cX5_judge 220 = .ok (.getfield 74, 3) := by decide +kernel
theorem dX5_judge_223 : decode cX5_judge 223 = .ok (.iload_n 1, 1) := by decide +kernel
theorem dX5_judge_224 : decode cX5_judge 224 = .ok (.iload_n 3, 1) := by decide +kernel
theorem dX5_judge_225 : decode cX5_judge 225 = .ok (.iastore, 1) := by decide +kernel
theorem dX5_judge_226 : decode cX5_judge 226 = .ok (.return_, 1) := by decide +kernel
theorem dX5_burning_0 : decode cX5_burning 0 = .ok (.aload_n 0, 1) := by decide +kernel
theorem dX5_burning_1 : decode cX5_burning 1 = .ok (.getfield 71, 3) := by decide +kernel
theorem dX5_burning_4 : decode cX5_burning 4 = .ok (.iconst 0, 1) := by decide +kernel
theorem dX5_burning_5 : decode cX5_burning 5 = .ok (.iaload, 1) := by decide +kernel
theorem dX5_burning_6 : decode cX5_burning 6 = .ok (.iconst 2, 1) := by decide +kernel
theorem dX5_burning_7 : decode cX5_burning 7 = .ok (.if_icmp .ne 47, 3) := by decide +kernel
theorem dX5_burning_10 : decode cX5_burning 10 = .ok (.aload_n 0, 1) := by decide +kernel
theorem dX5_burning_11 : decode cX5_burning 11 = .ok (.getfield 71, 3) := by decide +kernel
theorem dX5_burning_14 : decode cX5_burning 14 = .ok (.iconst 1, 1) := by decide +kernel
theorem dX5_burning_15 : decode cX5_burning 15 = .ok (.iaload, 1) := by decide +kernel
theorem dX5_burning_16 : decode cX5_burning 16 = .ok (.iconst 2, 1) := by decide +kernel
theorem dX5_burning_17 : decode cX5_burning 17 = .ok (.if_icmp .ne 37, 3) := by decide +kernel
theorem dX5_burning_20 : decode cX5_burning 20 = .ok (.aload_n 0, 1) := by decide +kernel
theorem dX5_burning_21 : decode cX5_burning 21 = .ok (.getfield 56, 3) := by decide +kernel
theorem dX5_burning_24 : decode cX5_burning 24 = .ok (.bipush 24, 2) := by decide +kernel
theorem dX5_burning_26 : decode cX5_burning 26 = .ok (.aload_n 0, 1) := by decide +kernel
theorem dX5_burning_27 : decode cX5_burning 27 = .ok (.getfield 74, 3) := by decide +kernel
theorem dX5_burning_30 : decode cX5_burning 30 = .ok (.iconst 1, 1) := by decide +kernel
theorem dX5_burning_31 : decode cX5_burning 31 = .ok (.iaload, 1) := by decide +kernel
theorem dX5_burning_32 : decode cX5_burning 32 = .ok (.iadd, 1) := by decide +kernel
theorem dX5_burning_33 : decode cX5_burning 33 = .ok (.iaload, 1) := by decide +kernel
theorem dX5_burning_34 : decode cX5_burning 34 = .ok (.aload_n 0, 1) := by decide +kernel
theorem dX5_burning_35 : decode cX5_burning 35 = .ok (.getfield 56, 3) := by decide +kernel
theorem dX5_burning_38 : decode cX5_burning 38 = .ok (.aload_n 0, 1) := by decide +kernel
theorem dX5_burning_39 : decode cX5_burning 39 = .ok (.getfield 74, 3) := by decide +kernel
theorem dX5_burning_42 : decode cX5_burning 42 = .ok (.iconst 0, 1) := by decide +kernel
theorem dX5_burning_43 : decode cX5_burning 43 = .ok (.iaload, 1) := by decide +kernel
theorem dX5_burning_44 : decode cX5_burning 44 = .ok (.iaload, 1) := by decide +kernel
theorem dX5_burning_45 : decode cX5_burning 45 = .ok (.if_icmp .le 7, 3) := by decide +kernel
theorem dX5_burning_48 : decode cX5_burning 48 = .ok (.iconst 1, 1) := by decide +kernel
theorem dX5_burning_49 : decode cX5_burning 49 = .ok (.goto 4, 3) := by decide +kernel
theorem dX5_burning_52 : decode cX5_burning 52 = .ok (.iconst 0, 1) := by decide +kernel
theorem dX5_burning_53 : decode cX5_burning 53 = .ok (.ireturn, 1) := by decide +kernel
theorem dX5_burning_54 : decode cX5_burning 54 = .ok (.aload_n 0, 1) := by decide +kernel
theorem dX5_burning_55 : decode cX5_burning 55 = .ok (.getfield 71, 3) := by decide +kernel
theorem dX5_burning_58 : decode cX5_burning 58 = .ok (.iconst 0, 1) := by decide +kernel
theorem dX5_burning_59 : decode cX5_burning 59 = .ok (.iaload, 1) := by decide +kernel
theorem dX5_burning_60 : decode cX5_burning 60 = .ok (.iconst 2, 1) := by decide +kernel
theorem dX5_burning_61 : decode cX5_burning 61 = .ok (.if_icmp .ne 7, 3) := by decide +kernel
theorem dX5_burning_64 : decode cX5_burning 64 = .ok (.iconst 0, 1) := by decide +kernel
theorem dX5_burning_65 : decode cX5_burning 65 = .ok (.goto 18, 3) := by decide +kernel
theorem dX5_burning_68 : decode cX5_burning 68 = .ok (.aload_n 0, 1) := by decide +kernel
theorem dX5_burning_69 : decode cX5_burning 69 = .ok (.getfield 71, 3) := by decide +kernel
theorem dX5_burning_72 : decode cX5_burning 72 = .ok (.iconst 1, 1) := by decide +kernel
theorem dX5_burning_73 : decode cX5_burning 73 = .ok (.iaload, 1) := by decide +kernel
theorem dX5_burning_74 : decode cX5_burning 74 = .ok (.iconst 2, 1) := by decide +kernel
theorem dX5_burning_75 : decode cX5_burning 75 = .ok (.if_icmp .ne 7, 3) := by decide +kernel
theorem dX5_burning_78 : decode cX5_burning 78 = .ok (.iconst 1, 1) := by decide +kernel
theorem dX5_burning_79 : decode cX5_burning 79 = .ok (.goto 4, 3) := by decide +kernel
theorem dX5_burning_82 : decode cX5_burning 82 = .ok (.iconst (-1), 1) := by decide +kernel
theorem dX5_burning_83 : decode cX5_burning 83 = .ok (.ireturn, 1) := by decide +kernel
theorem dX5_want_0 : decode cX5_want 0 = .ok (.iconst 0, 1) := by decide +kernel
theorem dX5_want_1 : decode cX5_want 1 = .ok (.istore_n 2, 1) := by decide +kernel
theorem dX5_want_2 : decode cX5_want 2 = .ok (.iload_n 2, 1) := by decide +kernel
theorem dX5_want_3 : decode cX5_want 3 = .ok (.iconst 2, 1) := by decide +kernel
theorem dX5_want_4 : decode cX5_want 4 = .ok (.if_icmp .ge 107, 3) := by decide +kernel
theorem dX5_want_7 : decode cX5_want 7 = .ok (.iload_n 1, 1) := by decide +kernel
theorem dX5_want_8 : decode cX5_want 8 = .ok (.ifCond .ge 7, 3) := by decide +kernel
theorem dX5_want_11 : decode cX5_want 11 = .ok (.iconst 0, 1) := by decide +kernel
theorem dX5_want_12 : decode cX5_want 12 = .ok (.goto 14, 3) := by decide +kernel
theorem dX5_want_15 : decode cX5_want 15 = .ok (.bipush 24, 2) := by decide +kernel
theorem dX5_want_17 : decode cX5_want 17 = .ok (.iload_n 1, 1) := by decide +kernel
theorem dX5_want_18 : decode cX5_want 18 = .ok (.imul, 1) := by decide +kernel
theorem dX5_want_19 : decode cX5_want 19 = .ok (.aload_n 0, 1) := by decide +kernel
theorem dX5_want_20 : decode cX5_want 20 = .ok (.getfield 74, 3) := by decide +kernel
theorem dX5_want_23 : decode cX5_want 23 = .ok (.iload_n 1, 1) := by decide +kernel
theorem dX5_want_24 : decode cX5_want 24 = .ok (.iaload, 1) := by decide +kernel
theorem dX5_want_25 : decode cX5_want 25 = .ok (.iadd, 1) := by decide +kernel
theorem dX5_want_26 : decode cX5_want 26 = .ok (.istore_n 3, 1) := by decide +kernel
theorem dX5_want_27 : decode cX5_want 27 = .ok (.aload_n 0, 1) := by decide +kernel
theorem dX5_want_28 : decode cX5_want 28 = .ok (.getfield 86, 3) := by decide +kernel
theorem dX5_want_31 : decode cX5_want 31 = .ok (.iload_n 2, 1) := by decide +kernel
theorem dX5_want_32 : decode cX5_want 32 = .ok (.iload_n 1, 1) := by decide +kernel
theorem dX5_want_33 : decode cX5_want 33 = .ok (.ifCond .ge 12, 3) := by decide +kernel
theorem dX5_want_36 : decode cX5_want 36 = .ok (.aload_n 0, 1) := by decide +kernel
theorem dX5_want_37 : decode cX5_want 37 = .ok (.getfield 80, 3) := by decide +kernel
theorem dX5_want_40 : decode cX5_want 40 = .ok (.iload_n 2, 1) := by decide +kernel
theorem dX5_want_41 : decode cX5_want 41 = .ok (.iaload, 1) := by decide +kernel
theorem dX5_want_42 : decode cX5_want 42 = .ok (.goto 23, 3) := by decide +kernel
theorem dX5_want_45 : decode cX5_want 45 = .ok (.iload_n 2, 1) := by decide +kernel
theorem dX5_want_46 : decode cX5_want 46 = .ok (.iload_n 1, 1) := by decide +kernel
theorem dX5_want_47 : decode cX5_want 47 = .ok (.if_icmp .ne 12, 3) := by decide +kernel
theorem dX5_want_50 : decode cX5_want 50 = .ok (.aload_n 0, 1) := by decide +kernel
theorem dX5_want_51 : decode cX5_want 51 = .ok (.getfield 59, 3) := by decide +kernel
theorem dX5_want_54 : decode cX5_want 54 = .ok (.iload_n 3, 1) := by decide +kernel
theorem dX5_want_55 : decode cX5_want 55 = .ok (.iaload, 1) := by decide +kernel
theorem dX5_want_56 : decode cX5_want 56 = .ok (.goto 9, 3) := by decide +kernel
theorem dX5_want_59 : decode cX5_want 59 = .ok (.aload_n 0, 1) := by decide +kernel
theorem dX5_want_60 : decode cX5_want 60 = .ok (.getfield 65, 3) := by decide +kernel
theorem dX5_want_63 : decode cX5_want 63 = .ok (.iload_n 3, 1) := by decide +kernel
theorem dX5_want_64 : decode cX5_want 64 = .ok (.iaload, 1) := by decide +kernel
theorem dX5_want_65 : decode cX5_want 65 = .ok (.iastore, 1) := by decide +kernel
theorem dX5_want_66 : decode cX5_want 66 = .ok (.aload_n 0, 1) := by decide +kernel
theorem dX5_want_67 : decode cX5_want 67 = .ok (.getfield 89, 3) := by decide +kernel
theorem dX5_want_70 : decode cX5_want 70 = .ok (.iload_n 2, 1) := by decide +kernel
theorem dX5_want_71 : decode cX5_want 71 = .ok (.iload_n 1, 1) := by decide +kernel
theorem dX5_want_72 : decode cX5_want 72 = .ok (.ifCond .ge 12, 3) := by decide +kernel
theorem dX5_want_75 : decode cX5_want 75 = .ok (.aload_n 0, 1) := by decide +kernel
theorem dX5_want_76 : decode cX5_want 76 = .ok (.getfield 83, 3) := by decide +kernel
theorem dX5_want_79 : decode cX5_want 79 = .ok (.iload_n 2, 1) := by decide +kernel
theorem dX5_want_80 : decode cX5_want 80 = .ok (.iaload, 1) := by decide +kernel
theorem dX5_want_81 : decode cX5_want 81 = .ok (.goto 23, 3) := by decide +kernel
theorem dX5_want_84 : decode cX5_want 84 = .ok (.iload_n 2, 1) := by decide +kernel
theorem dX5_want_85 : decode cX5_want 85 = .ok (.iload_n 1, 1) := by decide +kernel
theorem dX5_want_86 : decode cX5_want 86 = .ok (.if_icmp .ne 12, 3) := by decide +kernel
theorem dX5_want_89 : decode cX5_want 89 = .ok (.aload_n 0, 1) := by decide +kernel
theorem dX5_want_90 : decode cX5_want 90 = .ok (.getfield 62, 3) := by decide +kernel
theorem dX5_want_93 : decode cX5_want 93 = .ok (.iload_n 3, 1) := by decide +kernel
theorem dX5_want_94 : decode cX5_want 94 = .ok (.iaload, 1) := by decide +kernel
theorem dX5_want_95 : decode cX5_want 95 = .ok (.goto 9, 3) := by decide +kernel
theorem dX5_want_98 : decode cX5_want 98 = .ok (.aload_n 0, 1) := by decide +kernel
theorem dX5_want_99 : decode cX5_want 99 = .ok (.getfield 68, 3) := by decide +kernel
theorem dX5_want_102 : decode cX5_want 102 = .ok (.iload_n 3, 1) := by decide +kernel
theorem dX5_want_103 : decode cX5_want 103 = .ok (.iaload, 1) := by decide +kernel
theorem dX5_want_104 : decode cX5_want 104 = .ok (.iastore, 1) := by decide +kernel
theorem dX5_want_105 : decode cX5_want 105 = .ok (.iinc 2 1, 3) := by decide +kernel
theorem dX5_want_108 : decode cX5_want 108 = .ok (.goto (-106), 3) := by decide +kernel
theorem dX5_want_111 : decode cX5_want 111 = .ok (.return_, 1) := by decide +kernel
set_option maxRecDepth 20000 in
theorem ggX5_traffic_X5_send : GoodIn wsX5_traffic wsX5_send := goodIn_r _ [10, 11, 3, 12, 17, 18, 19, 20, 21, 22, 23, 24, 25, 26, 27, 28, 29, 30, 31, 32, 33, 34, 35, 36, 37, 38, 39, 40, 41, 42, 43, 44, 45, 46, 47, 48, 49, 50, 51] (by decide +kernel) (by decide +kernel)
set_option maxRecDepth 20000 in
theorem gX5_traffic_X5_send : GoodIn wsX5_traffic (wsV RX5 137 RX5 yX5_send wsX5_send) := goodIn_app (goodIn_of _ (by decide +kernel)) ggX5_traffic_X5_send
set_option maxRecDepth 20000 in
theorem ggX5_traffic_X5_isHalted : GoodIn wsX5_traffic wsX5_isHalted := goodIn_r _ [16, 3, 4, 12, 11, 17, 18, 19, 20, 21, 22, 23, 24, 25, 26, 27, 28, 29, 30, 31, 32, 33, 34, 35, 36, 37, 38, 39, 40, 41, 42, 43, 44, 45, 46, 47, 48, 49, 50, 51] (by decide +kernel) (by decide +kernel)
set_option maxRecDepth 20000 in
theorem gX5_traffic_X5_isHalted : GoodIn wsX5_traffic (wsV RX5 148 RX5 yX5_isHalted wsX5_isHalted) := goodIn_app (goodIn_of _ (by decide +kernel)) ggX5_traffic_X5_isHalted
theorem dX5_traffic_0 : decode cX5_traffic 0 = .ok (.iconst 0, 1) := by decide +kernel
theorem dX5_traffic_1 : decode cX5_traffic 1 = .ok (.istore_n 2, 1) := by decide +kernel
theorem dX5_traffic_2 : decode cX5_traffic 2 = .ok (.iload_n 2, 1) := by decide +kernel
theorem dX5_traffic_3 : decode cX5_traffic 3 = .ok (.iconst 2, 1) := by decide +kernel
theorem dX5_traffic_4 : decode cX5_traffic 4 = .ok (.if_icmp .ge 83, 3) := by decide +kernel
theorem dX5_traffic_7 : decode cX5_traffic 7 = .ok (.bipush 14, 2) := by decide +kernel
theorem dX5_traffic_9 : decode cX5_traffic 9 = .ok (.iload_n 2, 1) := by decide +kernel
theorem dX5_traffic_10 : decode cX5_traffic 10 = .ok (.imul, 1) := by decide +kernel
theorem dX5_traffic_11 : decode cX5_traffic 11 = .ok (.istore_n 3, 1) := by decide +kernel
theorem dX5_traffic_12 : decode cX5_traffic 12 = .ok (.iload_n 1, 1) := by decide +kernel
theorem dX5_traffic_13 : decode cX5_traffic 13 = .ok (.ifCond .ne 46, 3) := by decide +kernel
theorem dX5_traffic_16 : decode cX5_traffic 16 = .ok (.aload_n 0, 1) := by decide +kernel
theorem dX5_traffic_17 : decode cX5_traffic 17 = .ok (.getfield 71, 3) := by decide +kernel
theorem dX5_traffic_20 : decode cX5_traffic 20 = .ok (.iload_n 2, 1) := by decide +kernel
theorem dX5_traffic_21 : decode cX5_traffic 21 = .ok (.iaload, 1) := by decide +kernel
theorem dX5_traffic_22 : decode cX5_traffic 22 = .ok (.iconst 1, 1) := by decide +kernel
theorem dX5_traffic_23 : decode cX5_traffic 23 = .ok (.if_icmp .eq 36, 3) := by decide +kernel
theorem dX5_traffic_26 : decode cX5_traffic 26 = .ok (.aload_n 0, 1) := by decide +kernel
theorem dX5_traffic_27 : decode cX5_traffic 27 = .ok (.getfield 77, 3) := by decide +kernel
theorem dX5_traffic_30 : decode cX5_traffic 30 = .ok (.iload_n 2, 1) := by decide +kernel
theorem dX5_traffic_31 : decode cX5_traffic 31 = .ok (.baload, 1) := by decide +kernel
theorem dX5_traffic_32 : decode cX5_traffic 32 = .ok (.ifCond .ne 27, 3) := by decide +kernel
theorem dX5_traffic_35 : decode cX5_traffic 35 = .ok (.aload_n 0, 1) := by decide +kernel
theorem dX5_traffic_36 : decode cX5_traffic 36 = .ok (.getfield 16, 3) := by decide +kernel
theorem dX5_traffic_39 : decode cX5_traffic 39 = .ok (.iload_n 3, 1) := by decide +kernel
theorem dX5_traffic_40 : decode cX5_traffic 40 = .ok (.iconst 1, 1) := by decide +kernel
theorem dX5_traffic_41 : decode cX5_traffic 41 = .ok (.iadd, 1) := by decide +kernel
theorem dX5_traffic_42 : decode cX5_traffic 42 = .ok (.iaload, 1) := by decide +kernel
theorem dX5_traffic_43 : decode cX5_traffic 43 = .ok (.iconst 1, 1) := by decide +kernel
theorem dX5_traffic_44 : decode cX5_traffic 44 = .ok (.if_icmp .eq 15, 3) := by decide +kernel
theorem dX5_traffic_47 : decode cX5_traffic 47 = .ok (.aload_n 0, 1) := by decide +kernel
theorem dX5_traffic_48 : decode cX5_traffic 48 = .ok (.getfield 19, 3) := by decide +kernel
theorem dX5_traffic_51 : decode cX5_traffic 51 = .ok (.iload_n 3, 1) := by decide +kernel
theorem dX5_traffic_52 : decode cX5_traffic 52 = .ok (.iconst 1, 1) := by decide +kernel
theorem dX5_traffic_53 : decode cX5_traffic 53 = .ok (.iadd, 1) := by decide +kernel
theorem dX5_traffic_54 : decode cX5_traffic 54 = .ok (.iaload, 1) := by decide +kernel
theorem dX5_traffic_55 : decode cX5_traffic 55 = .ok (.iconst 1, 1) := by decide +kernel
theorem dX5_traffic_56 : decode cX5_traffic 56 = .ok (.if_icmp .ne 7, 3) := by decide +kernel
theorem dX5_traffic_59 : decode cX5_traffic 59 = .ok (.iconst 1, 1) := by decide +kernel
theorem dX5_traffic_60 : decode cX5_traffic 60 = .ok (.goto 4, 3) := by decide +kernel
theorem dX5_traffic_63 : decode cX5_traffic 63 = .ok (.iconst 0, 1) := by decide +kernel
theorem dX5_traffic_64 : decode cX5_traffic 64 = .ok (.istore 4, 2) := by decide +kernel
theorem dX5_traffic_66 : decode cX5_traffic 66 = .ok (.aload_n 0, 1) := by decide +kernel
theorem dX5_traffic_67 : decode cX5_traffic 67 = .ok (.iload_n 3, 1) := by decide +kernel
theorem dX5_traffic_68 : decode cX5_traffic 68 = .ok (.iload 4, 2) := by decide +kernel
theorem dX5_traffic_70 : decode cX5_traffic 70 = .ok (.ifCond .eq 7, 3) := by decide +kernel
theorem dX5_traffic_73 : decode cX5_traffic 73 = .ok (.iconst 1, 1) := by decide +kernel
theorem dX5_traffic_74 : decode cX5_traffic 74 = .ok (.goto 4, 3) := by decide +kernel
theorem dX5_traffic_77 : decode cX5_traffic 77 = .ok (.iconst 0, 1) := by decide +kernel
theorem dX5_traffic_78 : decode cX5_traffic 78 = .ok (.invokevirtual 137, 3) := by decide +kernel
theorem dX5_traffic_81 : decode cX5_traffic 81 = .ok (.iinc 2 1, 3) := by decide +kernel
theorem dX5_traffic_84 : decode cX5_traffic 84 = .ok (.goto (-82), 3) := by decide +kernel
theorem dX5_traffic_87 : decode cX5_traffic 87 = .ok (.iconst 0, 1) := by decide +kernel
theorem dX5_traffic_88 : decode cX5_traffic 88 = .ok (.istore_n 2, 1) := by decide +kernel
theorem dX5_traffic_89 : decode cX5_traffic 89 = .ok (.iload_n 2, 1) := by decide +kernel
theorem dX5_traffic_90 : decode cX5_traffic 90 = .ok (.iconst 2, 1) := by decide +kernel
theorem dX5_traffic_91 : decode cX5_traffic 91 = .ok (.if_icmp .ge 98, 3) := by decide +kernel
theorem dX5_traffic_94 : decode cX5_traffic 94 = .ok (.bipush 14, 2) := by decide +kernel
theorem dX5_traffic_96 : decode cX5_traffic 96 = .ok (.iload_n 2, 1) := by decide +kernel
theorem dX5_traffic_97 : decode cX5_traffic 97 = .ok (.imul, 1) := by decide +kernel
theorem dX5_traffic_98 : decode cX5_traffic 98 = .ok (.iconst 1, 1) := by decide +kernel
theorem dX5_traffic_99 : decode cX5_traffic 99 = .ok (.iadd, 1) := by decide +kernel
theorem dX5_traffic_100 : decode cX5_traffic 100 = .ok (.istore_n 3, 1) := by decide +kernel
theorem dX5_traffic_101 : decode cX5_traffic 101 = .ok (.iload_n 1, 1) := by decide +kernel
theorem dX5_traffic_102 : decode cX5_traffic 102 = .ok (.ifCond .eq 25, 3) := by decide +kernel
theorem dX5_traffic_105 : decode cX5_traffic 105 = .ok (.aload_n 0, 1) := by decide +kernel
theorem dX5_traffic_106 : decode cX5_traffic 106 = .ok (.getfield 16, 3) := by decide +kernel
theorem dX5_traffic_109 : decode cX5_traffic 109 = .ok (.iload_n 3, 1) := by decide +kernel
theorem dX5_traffic_110 : decode cX5_traffic 110 = .ok (.iaload, 1) := by decide +kernel
theorem dX5_traffic_111 : decode cX5_traffic 111 = .ok (.iconst 1, 1) := by decide +kernel
theorem dX5_traffic_112 : decode cX5_traffic 112 = .ok (.if_icmp .eq 11, 3) := by decide +kernel
theorem dX5_traffic_115 : decode cX5_traffic 115 = .ok (.aload_n 0, 1) := by decide +kernel
theorem dX5_traffic_116 : decode cX5_traffic 116 = .ok (.iload_n 2, 1) := by decide +kernel
theorem dX5_traffic_117 : decode cX5_traffic 117 = .ok (.invokevirtual 148, 3) := by decide +kernel
theorem dX5_traffic_120 : decode cX5_traffic 120 = .ok (.ifCond .eq 7, 3) := by decide +kernel
theorem dX5_traffic_123 : decode cX5_traffic 123 = .ok (.iconst 1, 1) := by decide +kernel
theorem dX5_traffic_124 : decode cX5_traffic 124 = .ok (.goto 4, 3) := by decide +kernel
theorem dX5_traffic_127 : decode cX5_traffic 127 = .ok (.iconst 0, 1) := by decide +kernel
theorem dX5_traffic_128 : decode cX5_traffic 128 = .ok (.istore 4, 2) := by decide +kernel
theorem dX5_traffic_130 : decode cX5_traffic 130 = .ok (.aload_n 0, 1) := by decide +kernel
theorem dX5_traffic_131 : decode cX5_traffic 131 = .ok (.aload_n 0, 1) := by decide +kernel
theorem dX5_traffic_132 : decode cX5_traffic 132 = .ok (.getfield 151, 3) := by decide +kernel
theorem dX5_traffic_135 : decode cX5_traffic 135 = .ok (.ifCond .ne 25, 3) := by decide +kernel
theorem dX5_traffic_138 : decode cX5_traffic 138 = .ok (.iload 4, 2) := by decide +kernel
theorem dX5_traffic_140 : decode cX5_traffic 140 = .ok (.ifCond .eq 24, 3) := by decide +kernel
theorem dX5_traffic_143 : decode cX5_traffic 143 = .ok (.aload_n 0, 1) := by decide +kernel
theorem dX5_traffic_144 : decode cX5_traffic 144 = .ok (.getfield 16, 3) := by decide +kernel
theorem dX5_traffic_147 : decode cX5_traffic 147 = .ok (.iload_n 3, 1) := by decide +kernel
theorem dX5_traffic_148 : decode cX5_traffic 148 = .ok (.iaload, 1) := by decide +kernel
theorem dX5_traffic_149 : decode cX5_traffic 149 = .ok (.ifCond .ne 15, 3) := by decide +kernel
theorem dX5_traffic_152 : decode cX5_traffic 152 = .ok (.aload_n 0, 1) := by decide +kernel
theorem dX5_traffic_153 : decode cX5_traffic 153 = .ok (.iload_n 2, 1) := by decide +kernel
theorem dX5_traffic_154 : decode cX5_traffic 154 = .ok (.invokevirtual 148, 3) := by decide +kernel
theorem dX5_traffic_157 : decode cX5_traffic 157 = .ok (.ifCond .ne 7, 3) := by decide +kernel
theorem dX5_traffic_160 : decode cX5_traffic 160 = .ok (.iconst 1, 1) := by decide +kernel
theorem dX5_traffic_161 : decode cX5_traffic 161 = .ok (.goto 4, 3) := by decide +kernel
theorem dX5_traffic_164 : decode cX5_traffic 164 = .ok (.iconst 0, 1) := by decide +kernel
theorem dX5_traffic_165 : decode cX5_traffic 165 = .ok (.putfield 151, 3) := by decide +kernel
theorem dX5_traffic_168 : decode cX5_traffic 168 = .ok (.aload_n 0, 1) := by decide +kernel
theorem dX5_traffic_169 : decode cX5_traffic 169 = .ok (.iload_n 3, 1) := by decide +kernel
theorem dX5_traffic_170 : decode cX5_traffic 170 = .ok (.iload 4, 2) := by decide +kernel
theorem dX5_traffic_172 : decode cX5_traffic 172 = .ok (.ifCond .eq 7, 3) := by decide +kernel
theorem dX5_traffic_175 : decode cX5_traffic 175 = .ok (.iconst 1, 1) := by decide +kernel
theorem dX5_traffic_176 : decode cX5_traffic 176 = .ok (.goto 4, 3) := by decide +kernel
theorem dX5_traffic_179 : decode cX5_traffic 179 = .ok (.iconst 0, 1) := by decide +kernel
theorem dX5_traffic_180 : decode cX5_traffic 180 = .ok (.invokevirtual 137, 3) := by decide +kernel
theorem dX5_traffic_183 : decode cX5_traffic 183 = .ok (.iinc 2 1, 3) := by decide +kernel
theorem dX5_traffic_186 : decode cX5_traffic 186 = .ok (.goto (-97), 3) := by decide +kernel
theorem dX5_traffic_189 : decode cX5_traffic 189 = .ok (.return_, 1) := by decide +kernel
theorem dX5_blowing_0 : decode cX5_blowing 0 = .ok (.iconst 0, 1) := by decide +kernel
theorem dX5_blowing_1 : decode cX5_blowing 1 = .ok (.istore_n 3, 1) := by decide +kernel
theorem dX5_blowing_2 : decode cX5_blowing 2 = .ok (.iconst 0, 1) := by decide +kernel
theorem dX5_blowing_3 : decode cX5_blowing 3 = .ok (.istore 4, 2) := by decide +kernel
theorem dX5_blowing_5 : decode cX5_blowing 5 = .ok (.iload 4, 2) := by decide +kernel
theorem dX5_blowing_7 : decode cX5_blowing 7 = .ok (.aload_n 0, 1) := by decide +kernel
theorem dX5_blowing_8 : decode cX5_blowing 8 = .ok (.getfield 7, 3) := by decide +kernel
theorem dX5_blowing_11 : decode cX5_blowing 11 = .ok (.iload_n 1, 1) := by decide +kernel
theorem dX5_blowing_12 : decode cX5_blowing 12 = .ok (.iaload, 1) := by decide +kernel
theorem dX5_blowing_13 : decode cX5_blowing 13 = .ok (.if_icmp .ge 35, 3) := by decide +kernel
theorem dX5_blowing_16 : decode cX5_blowing 16 = .ok (.iload_n 3, 1) := by decide +kernel
theorem dX5_blowing_17 : decode cX5_blowing 17 = .ok (.aload_n 0, 1) := by decide +kernel
theorem dX5_blowing_18 : decode cX5_blowing 18 = .ok (.getfield 16, 3) := by decide +kernel
theorem dX5_blowing_21 : decode cX5_blowing 21 = .ok (.bipush 14, 2) := by decide +kernel
theorem dX5_blowing_23 : decode cX5_blowing 23 = .ok (.iload_n 1, 1) := by decide +kernel
theorem dX5_blowing_24 : decode cX5_blowing 24 = .ok (.imul, 1) := by decide +kernel
theorem dX5_blowing_25 : decode cX5_blowing 25 = .ok (.iconst 2, 1) := by decide +kernel
theorem dX5_blowing_26 : decode cX5_blowing 26 = .ok (.iadd, 1) := by decide +kernel
theorem dX5_blowing_27 : decode cX5_blowing 27 = .ok (.iload 4, 2) := by decide +kernel
theorem dX5_blowing_29 : decode cX5_blowing 29 = .ok (.iadd, 1) := by decide +kernel
theorem dX5_blowing_30 : decode cX5_blowing 30 = .ok (.iaload, 1) := by decide +kernel
theorem dX5_blowing_31 : decode cX5_blowing 31 = .ok (.iload_n 2, 1) := by decide +kernel
theorem dX5_blowing_32 : decode cX5_blowing 32 = .ok (.if_icmp .ne 7, 3) := by decide +kernel
theorem dX5_blowing_35 : decode cX5_blowing 35 = .ok (.iconst 1, 1) := by decide +kernel
theorem dX5_blowing_36 : decode cX5_blowing 36 = .ok (.goto 4, 3) := by decide +kernel
theorem dX5_blowing_39 : decode cX5_blowing 39 = .ok (.iconst 0, 1) := by decide +kernel
theorem dX5_blowing_40 : decode cX5_blowing 40 = .ok (.iadd, 1) := by decide +kernel
theorem dX5_blowing_41 : decode cX5_blowing 41 = .ok (.istore_n 3, 1) := by decide +kernel
theorem dX5_blowing_42 : decode cX5_blowing 42 = .ok (.iinc 4 1, 3) := by decide +kernel
theorem dX5_blowing_45 : decode cX5_blowing 45 = .ok (.goto (-40), 3) := by decide +kernel
theorem dX5_blowing_48 : decode cX5_blowing 48 = .ok (.iload_n 3, 1) := by decide +kernel
theorem dX5_blowing_49 : decode cX5_blowing 49 = .ok (.ireturn, 1) := by decide +kernel
theorem dX5_longest_0 : decode cX5_longest 0 = .ok (.iconst (-1), 1) := by decide +kernel
theorem dX5_longest_1 : decode cX5_longest 1 = .ok (.istore_n 3, 1) := by decide +kernel
theorem dX5_longest_2 : decode cX5_longest 2 = .ok (.bipush 14, 2) := by decide +kernel
theorem dX5_longest_4 : decode cX5_longest 4 = .ok (.iload_n 1, 1) := by decide +kernel
theorem dX5_longest_5 : decode cX5_longest 5 = .ok (.imul, 1) := by decide +kernel
theorem dX5_longest_6 : decode cX5_longest 6 = .ok (.iconst 2, 1) := by decide +kernel
theorem dX5_longest_7 : decode cX5_longest 7 = .ok (.iadd, 1) := by decide +kernel
theorem dX5_longest_8 : decode cX5_longest 8 = .ok (.aload_n 0, 1) := by decide +kernel
theorem dX5_longest_9 : decode cX5_longest 9 = .ok (.getfield 7, 3) := by decide +kernel
theorem dX5_longest_12 : decode cX5_longest 12 = .ok (.iload_n 1, 1) := by decide +kernel
theorem dX5_longest_13 : decode cX5_longest 13 = .ok (.iaload, 1) := by decide +kernel
theorem dX5_longest_14 : decode cX5_longest 14 = .ok (.iadd, 1) := by decide +kernel
theorem dX5_longest_15 : decode cX5_longest 15 = .ok (.iconst 1, 1) := by decide +kernel
theorem dX5_longest_16 : decode cX5_longest 16 = .ok (.isub, 1) := by decide +kernel
theorem dX5_longest_17 : decode cX5_longest 17 = .ok (.istore 4, 2) := by decide +kernel
theorem dX5_longest_19 : decode cX5_longest 19 = .ok (.iload 4, 2) := by decide +kernel
theorem dX5_longest_21 : decode cX5_longest 21 = .ok (.bipush 14, 2) := by decide +kernel
theorem dX5_longest_23 : decode cX5_longest 23 = .ok (.iload_n 1, 1) := by decide +kernel
theorem dX5_longest_24 : decode cX5_longest 24 = .ok (.imul, 1) := by decide +kernel
theorem dX5_longest_25 : decode cX5_longest 25 = .ok (.iconst 2, 1) := by decide +kernel
theorem dX5_longest_26 : decode cX5_longest 26 = .ok (.iadd, 1) := by decide +kernel
theorem dX5_longest_27 : decode cX5_longest 27 = .ok (.if_icmp .lt 73, 3) := by decide +kernel
theorem dX5_longest_30 : decode cX5_longest 30 = .ok (.aload_n 0, 1) := by decide +kernel
theorem dX5_longest_31 : decode cX5_longest 31 = .ok (.getfield 16, 3) := by decide +kernel
theorem dX5_longest_34 : decode cX5_longest 34 = .ok (.iload 4, 2) := by decide +kernel
theorem dX5_longest_36 : decode cX5_longest 36 = .ok (.iaload, 1) := by decide +kernel
theorem dX5_longest_37 : decode cX5_longest 37 = .ok (.ifCond .eq 22, 3) := by decide +kernel
theorem dX5_longest_40 : decode cX5_longest 40 = .ok (.iload_n 2, 1) := by decide +kernel
theorem dX5_longest_41 : decode cX5_longest 41 = .ok (.ifCond .eq 14, 3) := by decide +kernel
theorem dX5_longest_44 : decode cX5_longest 44 = .ok (.aload_n 0, 1) := by decide +kernel
theorem dX5_longest_45 : decode cX5_longest 45 = .ok (.getfield 16, 3) := by decide +kernel
theorem dX5_longest_48 : decode cX5_longest 48 = .ok (.iload 4, 2) := by decide +kernel
theorem dX5_longest_50 : decode cX5_longest 50 = .ok (.iaload, 1) := by decide +kernel
theorem dX5_longest_51 : decode cX5_longest 51 = .ok (.iload_n 2, 1) := by decide +kernel
theorem dX5_longest_52 : decode cX5_longest 52 = .ok (.if_icmp .ne 7, 3) := by decide +kernel
theorem dX5_longest_55 : decode cX5_longest 55 = .ok (.iconst 1, 1) := by decide +kernel
theorem dX5_longest_56 : decode cX5_longest 56 = .ok (.goto 4, 3) := by decide +kernel
theorem dX5_longest_59 : decode cX5_longest 59 = .ok (.iconst 0, 1) := by decide +kernel
theorem dX5_longest_60 : decode cX5_longest 60 = .ok (.istore 5, 2) := by decide +kernel
theorem dX5_longest_62 : decode cX5_longest 62 = .ok (.iload 5, 2) := by decide +kernel
theorem dX5_longest_64 : decode cX5_longest 64 = .ok (.ifCond .eq 28, 3) := by decide +kernel
theorem dX5_longest_67 : decode cX5_longest 67 = .ok (.iload_n 3, 1) := by decide +kernel
theorem dX5_longest_68 : decode cX5_longest 68 = .ok (.ifCond .lt 19, 3) := by decide +kernel
theorem dX5_longest_71 : decode cX5_longest 71 = .ok (.aload_n 0, 1) := by decide +kernel
theorem dX5_longest_72 : decode cX5_longest 72 = .ok (.getfield 35, 3) := by decide +kernel
theorem dX5_longest_75 : decode cX5_longest 75 = .ok (.iload 4, 2) := by decide +kernel
theorem dX5_longest_77 : decode cX5_longest 77 = .ok (.iaload, 1) := by decide +kernel
theorem dX5_longest_78 : decode cX5_longest 78 = .ok (.aload_n 0, 1) := by decide +kernel
theorem dX5_longest_79 : decode cX5_longest 79 = .ok (.getfield 35, 3) := by decide +kernel
theorem dX5_longest_82 : decode cX5_longest 82 = .ok (.iload_n 3, 1) := by decide +kernel
theorem dX5_longest_83 : decode cX5_longest 83 = .ok (.iaload, 1) := by decide +kernel
theorem dX5_longest_84 : decode cX5_longest 84 = .ok (.if_icmp .lt 8, 3) := by decide +kernel
theorem dX5_longest_87 : decode cX5_longest 87 = .ok (.iload 4, 2) := by decide +kernel
theorem dX5_longest_89 : decode cX5_longest 89 = .ok (.goto 4, 3) := by decide +kernel
theorem dX5_longest_92 : decode cX5_longest 92 = .ok (.iload_n 3, 1) := by decide +kernel
theorem dX5_longest_93 : decode cX5_longest 93 = .ok (.istore_n 3, 1) := by decide +kernel
theorem dX5_longest_94 : decode cX5_longest 94 = .ok (.iinc 4 (-1), 3) := by decide +kernel
theorem dX5_longest_97 : decode cX5_longest 97 = .ok (.goto (-78), 3) := by decide +kernel
theorem dX5_longest_100 : decode cX5_longest 100 = .ok (.iload_n 3, 1) := by decide +kernel
theorem dX5_longest_101 : decode cX5_longest 101 = .ok (.ireturn, 1) := by decide +kernel
set_option maxRecDepth 20000 in
theorem ggX5_calm_X5_stop : GoodIn wsX5_calm wsX5_stop := goodIn_r _ [9, 10, 2, 11, 12, 13, 14, 8, 15, 16, 26, 27, 28, 29, 30, 31, 32, 33, 34, 35, 36, 37, 38, 39, 40, 41, 42, 43, 44, 45, 46, 47, 48, 49, 50, 51, 52, 53, 54, 55, 56, 57, 58, 59, 60] (by decide +kernel) (by decide +kernel)
set_option maxRecDepth 20000 in
theorem gX5_calm_X5_stop : GoodIn wsX5_calm (wsV RX5 141 RX5 yX5_stop wsX5_stop) := goodIn_app (goodIn_of _ (by decide +kernel)) ggX5_calm_X5_stop
set_option maxRecDepth 20000 in
theorem ggX5_calm_X5_blowing : GoodIn wsX5_calm wsX5_blowing := goodIn_r _ [20, 1, 2, 26, 27, 28, 29, 30, 31, 32, 33, 34, 35, 36, 37, 38, 39, 40, 41, 42, 43, 44, 45, 46, 47, 48, 49, 50, 51, 52, 53, 54, 55, 56, 57, 58, 59, 60] (by decide +kernel) (by decide +kernel)
set_option maxRecDepth 20000 in
theorem gX5_calm_X5_blowing : GoodIn wsX5_calm (wsV RX5 155 RX5 yX5_blowing wsX5_blowing) := goodIn_app (goodIn_of _ (by decide +kernel)) ggX5_calm_X5_blowing
set_option maxRecDepth 20000 in
theorem ggX5_calm_X5_longest : GoodIn wsX5_calm wsX5_longest := goodIn_r _ [24, 1, 2, 25, 26, 27, 28, 29, 30, 31, 32, 33, 34, 35, 36, 37, 38, 39, 40, 41, 42, 43, 44, 45, 46, 47, 48, 49, 50, 51, 52, 53, 54, 55, 56, 57, 58, 59, 60] (by decide +kernel) (by decide +kernel)
set_option maxRecDepth 20000 in
theorem gX5_calm_X5_longest : GoodIn wsX5_calm (wsV RX5 159 RX5 yX5_longest wsX5_longest) := goodIn_app (goodIn_of _ (by decide +kernel)) ggX5_calm_X5_longest
theorem dX5_calm_0 : decode cX5_calm 0 = .ok (.bipush 14, 2) := by decide +kernel
theorem dX5_calm_2 : decode cX5_calm 2 = .ok (.iload_n 1, 1) := by decide +kernel
theorem dX5_calm_3 : decode cX5_calm 3 = .ok (.imul, 1) := by decide +kernel
theorem dX5_calm_4 : decode cX5_calm 4 = .ok (.iconst 2, 1) := by decide +kernel
theorem dX5_calm_5 : decode cX5_calm 5 = .ok (.iadd, 1) := by decide +kernel
theorem dX5_calm_6 : decode cX5_calm 6 = .ok (.istore_n 3, 1) := by decide +kernel
theorem dX5_calm_7 : decode cX5_calm 7 = .ok (.iload_n 3, 1) := by decide +kernel
theorem dX5_calm_8 : decode cX5_calm 8 = .ok (.bipush 14, 2) := by decide +kernel
theorem dX5_calm_10 : decode cX5_calm 10 = .ok (.iload_n 1, 1) := by decide +kernel
theorem dX5_calm_11 : decode cX5_calm 11 = .ok (.imul, 1) := by decide +kernel
theorem dX5_calm_12 : decode cX5_calm 12 = .ok (.iconst 2, 1) := by decide +kernel
theorem dX5_calm_13 : decode cX5_calm 13 = .ok (.iadd, 1) := by decide +kernel
theorem dX5_calm_14 : decode cX5_calm 14 = .ok (.aload_n 0, 1) := by decide +kernel
theorem dX5_calm_15 : decode cX5_calm 15 = .ok (.getfield 7, 3) := by decide +kernel
theorem dX5_calm_18 : decode cX5_calm 18 = .ok (.iload_n 1, 1) := by decide +kernel
theorem dX5_calm_19 : decode cX5_calm 19 = .ok (.iaload, 1) := by decide +kernel
theorem dX5_calm_20 : decode cX5_calm 20 = .ok (.iadd, 1) := by decide +kernel
theorem dX5_calm_21 : decode cX5_calm 21 = .ok (.if_icmp .ge 34, 3) := by decide +kernel
theorem dX5_calm_24 : decode cX5_calm 24 = .ok (.iload_n 2, 1) := by decide +kernel
theorem dX5_calm_25 : decode cX5_calm 25 = .ok (.ifCond .eq 30, 3) := by decide +kernel
theorem dX5_calm_28 : decode cX5_calm 28 = .ok (.aload_n 0, 1) := by decide +kernel
theorem dX5_calm_29 : decode cX5_calm 29 = .ok (.getfield 16, 3) := by decide +kernel
theorem dX5_calm_32 : decode cX5_calm 32 = .ok (.iload_n 3, 1) := by decide +kernel
theorem dX5_calm_33 : decode cX5_calm 33 = .ok (.iaload, 1) := by decide +kernel
theorem dX5_calm_34 : decode cX5_calm 34 = .ok (.aload_n 0, 1) := by decide +kernel
theorem dX5_calm_35 : decode cX5_calm 35 = .ok (.getfield 86, 3) := by decide +kernel
theorem dX5_calm_38 : decode cX5_calm 38 = .ok (.iload_n 1, 1) := by decide +kernel
theorem dX5_calm_39 : decode cX5_calm 39 = .ok (.iaload, 1) := by decide +kernel
theorem dX5_calm_40 : decode cX5_calm 40 = .ok (.ineg, 1) := by decide +kernel
theorem dX5_calm_41 : decode cX5_calm 41 = .ok (.if_icmp .ne 8, 3) := by decide +kernel
theorem dX5_calm_44 : decode cX5_calm 44 = .ok (.aload_n 0, 1) := by decide +kernel
theorem dX5_calm_45 : decode cX5_calm 45 = .ok (.iload_n 3, 1) := by decide +kernel
theorem dX5_calm_46 : decode cX5_calm 46 = .ok (.invokevirtual 141, 3) := by decide +kernel
theorem dX5_calm_49 : decode cX5_calm 49 = .ok (.iinc 3 1, 3) := by decide +kernel
theorem dX5_calm_52 : decode cX5_calm 52 = .ok (.goto (-45), 3) := by decide +kernel
theorem dX5_calm_55 : decode cX5_calm 55 = .ok (.aload_n 0, 1) := by decide +kernel
theorem dX5_calm_56 : decode cX5_calm 56 = .ok (.iload_n 1, 1) := by decide +kernel
theorem dX5_calm_57 : decode cX5_calm 57 = .ok (.aload_n 0, 1) := by decide +kernel
theorem dX5_calm_58 : decode cX5_calm 58 = .ok (.getfield 86, 3) := by decide +kernel
theorem dX5_calm_61 : decode cX5_calm 61 = .ok (.iload_n 1, 1) := by decide +kernel
theorem dX5_calm_62 : decode cX5_calm 62 = .ok (.iaload, 1) := by decide +kernel
theorem dX5_calm_63 : decode cX5_calm 63 = .ok (.invokevirtual 155, 3) := by decide +kernel
theorem dX5_calm_66 : decode cX5_calm 66 = .ok (.aload_n 0, 1) := by decide +kernel
theorem dX5_calm_67 : decode cX5_calm 67 = .ok (.getfield 89, 3) := by decide +kernel
theorem dX5_calm_70 : decode cX5_calm 70 = .ok (.iload_n 1, 1) := by decide +kernel
theorem dX5_calm_71 : decode cX5_calm 71 = .ok (.iaload, 1) := by decide +kernel
theorem dX5_calm_72 : decode cX5_calm 72 = .ok (.if_icmp .le 21, 3) := by decide +kernel
theorem dX5_calm_75 : decode cX5_calm 75 = .ok (.aload_n 0, 1) := by decide +kernel
theorem dX5_calm_76 : decode cX5_calm 76 = .ok (.aload_n 0, 1) := by decide +kernel
theorem dX5_calm_77 : decode cX5_calm 77 = .ok (.iload_n 1, 1) := by decide +kernel
theorem dX5_calm_78 : decode cX5_calm 78 = .ok (.aload_n 0, 1) := by decide +kernel
theorem dX5_calm_79 : decode cX5_calm 79 = .ok (.getfield 86, 3) := by decide +kernel
theorem dX5_calm_82 : decode cX5_calm 82 = .ok (.iload_n 1, 1) := by decide +kernel
theorem dX5_calm_83 : decode cX5_calm 83 = .ok (.iaload, 1) := by decide +kernel
theorem dX5_calm_84 : decode cX5_calm 84 = .ok (.invokevirtual 159, 3) := by decide +kernel
theorem dX5_calm_87 : decode cX5_calm 87 = .ok (.invokevirtual 141, 3) := by decide +kernel
theorem dX5_calm_90 : decode cX5_calm 90 = .ok (.goto (-35), 3) := by decide +kernel
theorem dX5_calm_93 : decode cX5_calm 93 = .ok (.return_, 1) := by decide +kernel
theorem dX5_loadOf_0 : decode cX5_loadOf 0 = .ok (.iconst 0, 1) := by decide +kernel
theorem dX5_loadOf_1 : decode cX5_loadOf 1 = .ok (.istore_n 1, 1) := by decide +kernel
theorem dX5_loadOf_2 : decode cX5_loadOf 2 = .ok (.iconst 0, 1) := by decide +kernel
theorem dX5_loadOf_3 : decode cX5_loadOf 3 = .ok (.istore_n 2, 1) := by decide +kernel
theorem dX5_loadOf_4 : decode cX5_loadOf 4 = .ok (.iload_n 2, 1) := by decide +kernel
theorem dX5_loadOf_5 : decode cX5_loadOf 5 = .ok (.bipush 28, 2) := by decide +kernel
theorem dX5_loadOf_7 : decode cX5_loadOf 7 = .ok (.if_icmp .ge 76, 3) := by decide +kernel
theorem dX5_loadOf_10 : decode cX5_loadOf 10 = .ok (.iload_n 2, 1) := by decide +kernel
theorem dX5_loadOf_11 : decode cX5_loadOf 11 = .ok (.bipush 14, 2) := by decide +kernel
theorem dX5_loadOf_13 : decode cX5_loadOf 13 = .ok (.irem, 1) := by decide +kernel
theorem dX5_loadOf_14 : decode cX5_loadOf 14 = .ok (.iconst 1, 1) := by decide +kernel
theorem dX5_loadOf_15 : decode cX5_loadOf 15 = .ok (.if_icmp .le 16, 3) := by decide +kernel
theorem dX5_loadOf_18 : decode cX5_loadOf 18 = .ok (.aload_n 0, 1) := by decide +kernel
theorem dX5_loadOf_19 : decode cX5_loadOf 19 = .ok (.getfield 16, 3) := by decide +kernel
theorem dX5_loadOf_22 : decode cX5_loadOf 22 = .ok (.iload_n 2, 1) := by decide +kernel
theorem dX5_loadOf_23 : decode cX5_loadOf 23 = .ok (.iaload, 1) := by decide +kernel
theorem dX5_loadOf_24 : decode cX5_loadOf 24 = .ok (.ifCond .eq 7, 3) := by decide +kernel
theorem dX5_loadOf_27 : decode cX5_loadOf 27 = .ok (.iconst 1, 1) := by decide +kernel
theorem dX5_loadOf_28 : decode cX5_loadOf 28 = .ok (.goto 4, 3) := by decide +kernel
theorem dX5_loadOf_31 : decode cX5_loadOf 31 = .ok (.iconst 0, 1) := by decide +kernel
theorem dX5_loadOf_32 : decode cX5_loadOf 32 = .ok (.istore_n 3, 1) := by decide +kernel
theorem dX5_loadOf_33 : decode cX5_loadOf 33 = .ok (.iload_n 1, 1) := by decide +kernel
theorem dX5_loadOf_34 : decode cX5_loadOf 34 = .ok (.iload_n 3, 1) := by decide +kernel
theorem dX5_loadOf_35 : decode cX5_loadOf 35 = .ok (.ifCond .ne 7, 3) := by decide +kernel
theorem dX5_loadOf_38 : decode cX5_loadOf 38 = .ok (.iconst 0, 1) := by decide +kernel
theorem dX5_loadOf_39 : decode cX5_loadOf 39 = .ok (.goto 36, 3) := by decide +kernel
theorem dX5_loadOf_42 : decode cX5_loadOf 42 = .ok (.aload_n 0, 1) := by decide +kernel
theorem dX5_loadOf_43 : decode cX5_loadOf 43 = .ok (.getfield 113, 3) := by decide +kernel
theorem dX5_loadOf_46 : decode cX5_loadOf 46 = .ok (.aload_n 0, 1) := by decide +kernel
theorem dX5_loadOf_47 : decode cX5_loadOf 47 = .ok (.getfield 44, 3) := by decide +kernel
theorem dX5_loadOf_50 : decode cX5_loadOf 50 = .ok (.iload_n 2, 1) := by decide +kernel
theorem dX5_loadOf_51 : decode cX5_loadOf 51 = .ok (.iaload, 1) := by decide +kernel
theorem dX5_loadOf_52 : decode cX5_loadOf 52 = .ok (.isub, 1) := by decide +kernel
theorem dX5_loadOf_53 : decode cX5_loadOf 53 = .ok (.bipush 10, 2) := by decide +kernel
theorem dX5_loadOf_55 : decode cX5_loadOf 55 = .ok (.if_icmp .ge 14, 3) := by decide +kernel
theorem dX5_loadOf_58 : decode cX5_loadOf 58 = .ok (.iconst 3, 1) := by decide +kernel
theorem dX5_loadOf_59 : decode cX5_loadOf 59 = .ok (.aload_n 0, 1) := by decide +kernel
theorem dX5_loadOf_60 : decode cX5_loadOf 60 = .ok (.getfield 32, 3) := by decide +kernel
theorem dX5_loadOf_63 : decode cX5_loadOf 63 = .ok (.iload_n 2, 1) := by decide +kernel
theorem dX5_loadOf_64 : decode cX5_loadOf 64 = .ok (.iaload, 1) := by decide +kernel
theorem dX5_loadOf_65 : decode cX5_loadOf 65 = .ok (.imul, 1) := by decide +kernel
theorem dX5_loadOf_66 : decode cX5_loadOf 66 = .ok (.goto 9, 3) := by decide +kernel
theorem dX5_loadOf_69 : decode cX5_loadOf 69 = .ok (.aload_n 0, 1) := by decide +kernel
theorem dX5_loadOf_70 : decode cX5_loadOf 70 = .ok (.getfield 32, 3) := by decide +kernel
theorem dX5_loadOf_73 : decode cX5_loadOf 73 = .ok (.iload_n 2, 1) := by decide +kernel
theorem dX5_loadOf_74 : decode cX5_loadOf 74 = .ok (.iaload, 1) := by decide +kernel
theorem dX5_loadOf_75 : decode cX5_loadOf 75 = .ok (.iadd, 1) := by decide +kernel
theorem dX5_loadOf_76 : decode cX5_loadOf 76 = .ok (.istore_n 1, 1) := by decide +kernel
theorem dX5_loadOf_77 : decode cX5_loadOf 77 = .ok (.iinc 2 1, 3) := by decide +kernel
theorem dX5_loadOf_80 : decode cX5_loadOf 80 = .ok (.goto (-76), 3) := by decide +kernel
theorem dX5_loadOf_83 : decode cX5_loadOf 83 = .ok (.iload_n 1, 1) := by decide +kernel
theorem dX5_loadOf_84 : decode cX5_loadOf 84 = .ok (.ireturn, 1) := by decide +kernel
set_option maxRecDepth 20000 in
theorem ggX5_relieve_X5_loadOf : GoodIn wsX5_relieve wsX5_loadOf := goodIn_r _ [6, 7, 8, 9, 10, 27, 28, 29, 30, 31, 32, 33, 34, 35, 36, 37, 38, 39, 40, 41, 42, 43, 44, 45, 46, 47, 48, 49, 50, 51, 52, 53, 54, 55, 56, 57, 58, 59, 60, 61] (by decide +kernel) (by decide +kernel)
set_option maxRecDepth 20000 in
theorem gX5_relieve_X5_loadOf : GoodIn wsX5_relieve (wsV RX5 162 RX5 yX5_loadOf wsX5_loadOf) := goodIn_app (goodIn_of _ (by decide +kernel)) ggX5_relieve_X5_loadOf
set_option maxRecDepth 20000 in
theorem ggX5_relieve_X5_longest : GoodIn wsX5_relieve wsX5_longest := goodIn_r _ [14, 15, 7, 16, 27, 28, 29, 30, 31, 32, 33, 34, 35, 36, 37, 38, 39, 40, 41, 42, 43, 44, 45, 46, 47, 48, 49, 50, 51, 52, 53, 54, 55, 56, 57, 58, 59, 60, 61] (by decide +kernel) (by decide +kernel)
set_option maxRecDepth 20000 in
theorem gX5_relieve_X5_longest : GoodIn wsX5_relieve (wsV RX5 159 RX5 yX5_longest wsX5_longest) := goodIn_app (goodIn_of _ (by decide +kernel)) ggX5_relieve_X5_longest
set_option maxRecDepth 20000 in
theorem ggX5_relieve_X5_stop : GoodIn wsX5_relieve wsX5_stop := goodIn_r _ [20, 21, 7, 8, 22, 23, 24, 5, 25, 26, 27, 28, 29, 30, 31, 32, 33, 34, 35, 36, 37, 38, 39, 40, 41, 42, 43, 44, 45, 46, 47, 48, 49, 50, 51, 52, 53, 54, 55, 56, 57, 58, 59, 60, 61] (by decide +kernel) (by decide +kernel)
set_option maxRecDepth 20000 in
theorem gX5_relieve_X5_stop : GoodIn wsX5_relieve (wsV RX5 141 RX5 yX5_stop wsX5_stop) := goodIn_app (goodIn_of _ (by decide +kernel)) ggX5_relieve_X5_stop
theorem dX5_relieve_0 : decode cX5_relieve 0 = .ok (.aload_n 0, 1) := by decide +kernel
theorem dX5_relieve_1 : decode cX5_relieve 1 = .ok (.invokevirtual 162, 3) := by decide +kernel
theorem dX5_relieve_4 : decode cX5_relieve 4 = .ok (.aload_n 0, 1) := by decide +kernel
theorem dX5_relieve_5 : decode cX5_relieve 5 = .ok (.getfield 103, 3) := by decide +kernel
theorem dX5_relieve_8 : decode cX5_relieve 8 = .ok (.if_icmp .le 33, 3) := by decide +kernel
theorem dX5_relieve_11 : decode cX5_relieve 11 = .ok (.aload_n 0, 1) := by decide +kernel
theorem dX5_relieve_12 : decode cX5_relieve 12 = .ok (.iload_n 1, 1) := by decide +kernel
theorem dX5_relieve_13 : decode cX5_relieve 13 = .ok (.iconst 0, 1) := by decide +kernel
theorem dX5_relieve_14 : decode cX5_relieve 14 = .ok (.invokevirtual 159, 3) := by decide +kernel
theorem dX5_relieve_17 : decode cX5_relieve 17 = .ok (.istore_n 2, 1) := by decide +kernel
theorem dX5_relieve_18 : decode cX5_relieve 18 = .ok (.aload_n 0, 1) := by decide +kernel
theorem dX5_relieve_19 : decode cX5_relieve 19 = .ok (.iload_n 2, 1) := by decide +kernel
theorem dX5_relieve_20 : decode cX5_relieve 20 = .ok (.ifCond .ge 14, 3) := by decide +kernel
theorem dX5_relieve_23 : decode cX5_relieve 23 = .ok (.aload_n 0, 1) := by decide +kernel
theorem dX5_relieve_24 : decode cX5_relieve 24 = .ok (.iconst 1, 1) := by decide +kernel
theorem dX5_relieve_25 : decode cX5_relieve 25 = .ok (.iload_n 1, 1) := by decide +kernel
