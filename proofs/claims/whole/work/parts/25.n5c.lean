theorem dX5_relieve_26 : decode cX5_relieve 26 = .ok (.isub, 1) := by decide +kernel
theorem dX5_relieve_27 : decode cX5_relieve 27 = .ok (.iconst 0, 1) := by decide +kernel
theorem dX5_relieve_28 : decode cX5_relieve 28 = .ok (.invokevirtual 159, 3) := by decide +kernel
theorem dX5_relieve_31 : decode cX5_relieve 31 = .ok (.goto 4, 3) := by decide +kernel
theorem dX5_relieve_34 : decode cX5_relieve 34 = .ok (.iload_n 2, 1) := by decide +kernel
theorem dX5_relieve_35 : decode cX5_relieve 35 = .ok (.invokevirtual 141, 3) := by decide +kernel
theorem dX5_relieve_38 : decode cX5_relieve 38 = .ok (.goto (-38), 3) := by decide +kernel
theorem dX5_relieve_41 : decode cX5_relieve 41 = .ok (.return_, 1) := by decide +kernel
theorem dX5_startsOf_0 : decode cX5_startsOf 0 = .ok (.iconst 0, 1) := by decide +kernel
theorem dX5_startsOf_1 : decode cX5_startsOf 1 = .ok (.istore_n 1, 1) := by decide +kernel
theorem dX5_startsOf_2 : decode cX5_startsOf 2 = .ok (.aload_n 0, 1) := by decide +kernel
theorem dX5_startsOf_3 : decode cX5_startsOf 3 = .ok (.getfield 113, 3) := by decide +kernel
theorem dX5_startsOf_6 : decode cX5_startsOf 6 = .ok (.bipush 10, 2) := by decide +kernel
theorem dX5_startsOf_8 : decode cX5_startsOf 8 = .ok (.if_icmp .ge 7, 3) := by decide +kernel
theorem dX5_startsOf_11 : decode cX5_startsOf 11 = .ok (.iconst 0, 1) := by decide +kernel
theorem dX5_startsOf_12 : decode cX5_startsOf 12 = .ok (.goto 10, 3) := by decide +kernel
theorem dX5_startsOf_15 : decode cX5_startsOf 15 = .ok (.aload_n 0, 1) := by decide +kernel
theorem dX5_startsOf_16 : decode cX5_startsOf 16 = .ok (.getfield 113, 3) := by decide +kernel
theorem dX5_startsOf_19 : decode cX5_startsOf 19 = .ok (.bipush 9, 2) := by decide +kernel
theorem dX5_startsOf_21 : decode cX5_startsOf 21 = .ok (.isub, 1) := by decide +kernel
theorem dX5_startsOf_22 : decode cX5_startsOf 22 = .ok (.istore_n 2, 1) := by decide +kernel
theorem dX5_startsOf_23 : decode cX5_startsOf 23 = .ok (.iload_n 2, 1) := by decide +kernel
theorem dX5_startsOf_24 : decode cX5_startsOf 24 = .ok (.aload_n 0, 1) := by decide +kernel
theorem dX5_startsOf_25 : decode cX5_startsOf 25 = .ok (.getfield 113, 3) := by decide +kernel
theorem dX5_startsOf_28 : decode cX5_startsOf 28 = .ok (.if_icmp .gt 18, 3) := by decide +kernel
theorem dX5_startsOf_31 : decode cX5_startsOf 31 = .ok (.iload_n 1, 1) := by decide +kernel
theorem dX5_startsOf_32 : decode cX5_startsOf 32 = .ok (.aload_n 0, 1) := by decide +kernel
theorem dX5_startsOf_33 : decode cX5_startsOf 33 = .ok (.getfield 92, 3) := by decide +kernel
theorem dX5_startsOf_36 : decode cX5_startsOf 36 = .ok (.iload_n 2, 1) := by decide +kernel
theorem dX5_startsOf_37 : decode cX5_startsOf 37 = .ok (.iaload, 1) := by decide +kernel
theorem dX5_startsOf_38 : decode cX5_startsOf 38 = .ok (.iadd, 1) := by decide +kernel
theorem dX5_startsOf_39 : decode cX5_startsOf 39 = .ok (.istore_n 1, 1) := by decide +kernel
theorem dX5_startsOf_40 : decode cX5_startsOf 40 = .ok (.iinc 2 1, 3) := by decide +kernel
theorem dX5_startsOf_43 : decode cX5_startsOf 43 = .ok (.goto (-20), 3) := by decide +kernel
theorem dX5_startsOf_46 : decode cX5_startsOf 46 = .ok (.iload_n 1, 1) := by decide +kernel
theorem dX5_startsOf_47 : decode cX5_startsOf 47 = .ok (.ireturn, 1) := by decide +kernel
theorem dX5_hasRested_0 : decode cX5_hasRested 0 = .ok (.aload_n 0, 1) := by decide +kernel
theorem dX5_hasRested_1 : decode cX5_hasRested 1 = .ok (.getfield 38, 3) := by decide +kernel
theorem dX5_hasRested_4 : decode cX5_hasRested 4 = .ok (.iload_n 1, 1) := by decide +kernel
theorem dX5_hasRested_5 : decode cX5_hasRested 5 = .ok (.iaload, 1) := by decide +kernel
theorem dX5_hasRested_6 : decode cX5_hasRested 6 = .ok (.ifCond .eq 31, 3) := by decide +kernel
theorem dX5_hasRested_9 : decode cX5_hasRested 9 = .ok (.aload_n 0, 1) := by decide +kernel
theorem dX5_hasRested_10 : decode cX5_hasRested 10 = .ok (.getfield 38, 3) := by decide +kernel
theorem dX5_hasRested_13 : decode cX5_hasRested 13 = .ok (.iload_n 1, 1) := by decide +kernel
theorem dX5_hasRested_14 : decode cX5_hasRested 14 = .ok (.iaload, 1) := by decide +kernel
theorem dX5_hasRested_15 : decode cX5_hasRested 15 = .ok (.iload_n 2, 1) := by decide +kernel
theorem dX5_hasRested_16 : decode cX5_hasRested 16 = .ok (.if_icmp .eq 21, 3) := by decide +kernel
theorem dX5_hasRested_19 : decode cX5_hasRested 19 = .ok (.aload_n 0, 1) := by decide +kernel
theorem dX5_hasRested_20 : decode cX5_hasRested 20 = .ok (.getfield 113, 3) := by decide +kernel
theorem dX5_hasRested_23 : decode cX5_hasRested 23 = .ok (.aload_n 0, 1) := by decide +kernel
theorem dX5_hasRested_24 : decode cX5_hasRested 24 = .ok (.getfield 41, 3) := by decide +kernel
theorem dX5_hasRested_27 : decode cX5_hasRested 27 = .ok (.iload_n 1, 1) := by decide +kernel
theorem dX5_hasRested_28 : decode cX5_hasRested 28 = .ok (.iaload, 1) := by decide +kernel
theorem dX5_hasRested_29 : decode cX5_hasRested 29 = .ok (.isub, 1) := by decide +kernel
theorem dX5_hasRested_30 : decode cX5_hasRested 30 = .ok (.aload_n 0, 1) := by decide +kernel
theorem dX5_hasRested_31 : decode cX5_hasRested 31 = .ok (.getfield 99, 3) := by decide +kernel
theorem dX5_hasRested_34 : decode cX5_hasRested 34 = .ok (.if_icmp .lt 7, 3) := by decide +kernel
theorem dX5_hasRested_37 : decode cX5_hasRested 37 = .ok (.iconst 1, 1) := by decide +kernel
theorem dX5_hasRested_38 : decode cX5_hasRested 38 = .ok (.goto 4, 3) := by decide +kernel
theorem dX5_hasRested_41 : decode cX5_hasRested 41 = .ok (.iconst 0, 1) := by decide +kernel
theorem dX5_hasRested_42 : decode cX5_hasRested 42 = .ok (.ireturn, 1) := by decide +kernel
set_option maxRecDepth 20000 in
theorem ggX5_starting_X5_blowing : GoodIn wsX5_starting wsX5_blowing := goodIn_r _ [18, 3, 4, 38, 39, 40, 41, 42, 43, 44, 45, 46, 47, 48, 49, 50, 51, 52, 53, 54, 55, 56, 57, 58, 59, 60, 61, 62, 63, 64, 65, 66, 67, 68, 69, 70, 71, 72] (by decide +kernel) (by decide +kernel)
set_option maxRecDepth 20000 in
theorem gX5_starting_X5_blowing : GoodIn wsX5_starting (wsV RX5 155 RX5 yX5_blowing wsX5_blowing) := goodIn_app (goodIn_of _ (by decide +kernel)) ggX5_starting_X5_blowing
set_option maxRecDepth 20000 in
theorem ggX5_starting_X5_hasRested : GoodIn wsX5_starting wsX5_hasRested := goodIn_r _ [22, 10, 12, 23, 24, 38, 39, 40, 41, 42, 43, 44, 45, 46, 47, 48, 49, 50, 51, 52, 53, 54, 55, 56, 57, 58, 59, 60, 61, 62, 63, 64, 65, 66, 67, 68, 69, 70, 71, 72] (by decide +kernel) (by decide +kernel)
set_option maxRecDepth 20000 in
theorem gX5_starting_X5_hasRested : GoodIn wsX5_starting (wsV RX5 166 RX5 yX5_hasRested wsX5_hasRested) := goodIn_app (goodIn_of _ (by decide +kernel)) ggX5_starting_X5_hasRested
set_option maxRecDepth 20000 in
theorem ggX5_starting_X5_startsOf : GoodIn wsX5_starting wsX5_startsOf := goodIn_r _ [28, 12, 13, 38, 39, 40, 41, 42, 43, 44, 45, 46, 47, 48, 49, 50, 51, 52, 53, 54, 55, 56, 57, 58, 59, 60, 61, 62, 63, 64, 65, 66, 67, 68, 69, 70, 71, 72] (by decide +kernel) (by decide +kernel)
set_option maxRecDepth 20000 in
theorem gX5_starting_X5_startsOf : GoodIn wsX5_starting (wsV RX5 169 RX5 yX5_startsOf wsX5_startsOf) := goodIn_app (goodIn_of _ (by decide +kernel)) ggX5_starting_X5_startsOf
set_option maxRecDepth 20000 in
theorem ggX5_starting_X5_loadOf : GoodIn wsX5_starting wsX5_loadOf := goodIn_r _ [32, 4, 12, 11, 7, 38, 39, 40, 41, 42, 43, 44, 45, 46, 47, 48, 49, 50, 51, 52, 53, 54, 55, 56, 57, 58, 59, 60, 61, 62, 63, 64, 65, 66, 67, 68, 69, 70, 71, 72] (by decide +kernel) (by decide +kernel)
set_option maxRecDepth 20000 in
theorem gX5_starting_X5_loadOf : GoodIn wsX5_starting (wsV RX5 162 RX5 yX5_loadOf wsX5_loadOf) := goodIn_app (goodIn_of _ (by decide +kernel)) ggX5_starting_X5_loadOf
set_option maxRecDepth 20000 in
theorem ggX5_starting_X5_send : GoodIn wsX5_starting wsX5_send := goodIn_r _ [36, 37, 4, 12, 38, 39, 40, 41, 42, 43, 44, 45, 46, 47, 48, 49, 50, 51, 52, 53, 54, 55, 56, 57, 58, 59, 60, 61, 62, 63, 64, 65, 66, 67, 68, 69, 70, 71, 72] (by decide +kernel) (by decide +kernel)
set_option maxRecDepth 20000 in
theorem gX5_starting_X5_send : GoodIn wsX5_starting (wsV RX5 137 RX5 yX5_send wsX5_send) := goodIn_app (goodIn_of _ (by decide +kernel)) ggX5_starting_X5_send
theorem dX5_starting_0 : decode cX5_starting 0 = .ok (.aload_n 0, 1) := by decide +kernel
theorem dX5_starting_1 : decode cX5_starting 1 = .ok (.getfield 86, 3) := by decide +kernel
theorem dX5_starting_4 : decode cX5_starting 4 = .ok (.iload_n 1, 1) := by decide +kernel
theorem dX5_starting_5 : decode cX5_starting 5 = .ok (.iaload, 1) := by decide +kernel
theorem dX5_starting_6 : decode cX5_starting 6 = .ok (.istore_n 2, 1) := by decide +kernel
theorem dX5_starting_7 : decode cX5_starting 7 = .ok (.aload_n 0, 1) := by decide +kernel
theorem dX5_starting_8 : decode cX5_starting 8 = .ok (.iload_n 1, 1) := by decide +kernel
theorem dX5_starting_9 : decode cX5_starting 9 = .ok (.iload_n 2, 1) := by decide +kernel
theorem dX5_starting_10 : decode cX5_starting 10 = .ok (.ineg, 1) := by decide +kernel
theorem dX5_starting_11 : decode cX5_starting 11 = .ok (.invokevirtual 155, 3) := by decide +kernel
theorem dX5_starting_14 : decode cX5_starting 14 = .ok (.ifCond .ne 223, 3) := by decide +kernel
theorem dX5_starting_17 : decode cX5_starting 17 = .ok (.aload_n 0, 1) := by decide +kernel
theorem dX5_starting_18 : decode cX5_starting 18 = .ok (.iload_n 1, 1) := by decide +kernel
theorem dX5_starting_19 : decode cX5_starting 19 = .ok (.iload_n 2, 1) := by decide +kernel
theorem dX5_starting_20 : decode cX5_starting 20 = .ok (.invokevirtual 155, 3) := by decide +kernel
theorem dX5_starting_23 : decode cX5_starting 23 = .ok (.aload_n 0, 1) := by decide +kernel
theorem dX5_starting_24 : decode cX5_starting 24 = .ok (.getfield 89, 3) := by decide +kernel
theorem dX5_starting_27 : decode cX5_starting 27 = .ok (.iload_n 1, 1) := by decide +kernel
theorem dX5_starting_28 : decode cX5_starting 28 = .ok (.iaload, 1) := by decide +kernel
theorem dX5_starting_29 : decode cX5_starting 29 = .ok (.if_icmp .ge 208, 3) := by decide +kernel
theorem dX5_starting_32 : decode cX5_starting 32 = .ok (.iconst (-1), 1) := by decide +kernel
theorem dX5_starting_33 : decode cX5_starting 33 = .ok (.istore_n 3, 1) := by decide +kernel
theorem dX5_starting_34 : decode cX5_starting 34 = .ok (.bipush 14, 2) := by decide +kernel
theorem dX5_starting_36 : decode cX5_starting 36 = .ok (.iload_n 1, 1) := by decide +kernel
theorem dX5_starting_37 : decode cX5_starting 37 = .ok (.imul, 1) := by decide +kernel
theorem dX5_starting_38 : decode cX5_starting 38 = .ok (.iconst 2, 1) := by decide +kernel
theorem dX5_starting_39 : decode cX5_starting 39 = .ok (.iadd, 1) := by decide +kernel
theorem dX5_starting_40 : decode cX5_starting 40 = .ok (.aload_n 0, 1) := by decide +kernel
theorem dX5_starting_41 : decode cX5_starting 41 = .ok (.getfield 7, 3) := by decide +kernel
theorem dX5_starting_44 : decode cX5_starting 44 = .ok (.iload_n 1, 1) := by decide +kernel
theorem dX5_starting_45 : decode cX5_starting 45 = .ok (.iaload, 1) := by decide +kernel
theorem dX5_starting_46 : decode cX5_starting 46 = .ok (.iadd, 1) := by decide +kernel
theorem dX5_starting_47 : decode cX5_starting 47 = .ok (.iconst 1, 1) := by decide +kernel
theorem dX5_starting_48 : decode cX5_starting 48 = .ok (.isub, 1) := by decide +kernel
theorem dX5_starting_49 : decode cX5_starting 49 = .ok (.istore 4, 2) := by decide +kernel
theorem dX5_starting_51 : decode cX5_starting 51 = .ok (.iload 4, 2) := by decide +kernel
theorem dX5_starting_53 : decode cX5_starting 53 = .ok (.bipush 14, 2) := by decide +kernel
theorem dX5_starting_55 : decode cX5_starting 55 = .ok (.iload_n 1, 1) := by decide +kernel
theorem dX5_starting_56 : decode cX5_starting 56 = .ok (.imul, 1) := by decide +kernel
theorem dX5_starting_57 : decode cX5_starting 57 = .ok (.iconst 2, 1) := by decide +kernel
theorem dX5_starting_58 : decode cX5_starting 58 = .ok (.iadd, 1) := by decide +kernel
theorem dX5_starting_59 : decode cX5_starting 59 = .ok (.if_icmp .lt 78, 3) := by decide +kernel
theorem dX5_starting_62 : decode cX5_starting 62 = .ok (.aload_n 0, 1) := by decide +kernel
theorem dX5_starting_63 : decode cX5_starting 63 = .ok (.getfield 16, 3) := by decide +kernel
theorem dX5_starting_66 : decode cX5_starting 66 = .ok (.iload 4, 2) := by decide +kernel
theorem dX5_starting_68 : decode cX5_starting 68 = .ok (.iaload, 1) := by decide +kernel
theorem dX5_starting_69 : decode cX5_starting 69 = .ok (.ifCond .ne 27, 3) := by decide +kernel
theorem dX5_starting_72 : decode cX5_starting 72 = .ok (.aload_n 0, 1) := by decide +kernel
theorem dX5_starting_73 : decode cX5_starting 73 = .ok (.getfield 29, 3) := by decide +kernel
theorem dX5_starting_76 : decode cX5_starting 76 = .ok (.iload 4, 2) := by decide +kernel
theorem dX5_starting_78 : decode cX5_starting 78 = .ok (.baload, 1) := by decide +kernel
theorem dX5_starting_79 : decode cX5_starting 79 = .ok (.ifCond .ne 17, 3) := by decide +kernel
theorem dX5_starting_82 : decode cX5_starting 82 = .ok (.aload_n 0, 1) := by decide +kernel
theorem dX5_starting_83 : decode cX5_starting 83 = .ok (.iload 4, 2) := by decide +kernel
theorem dX5_starting_85 : decode cX5_starting 85 = .ok (.iload_n 2, 1) := by decide +kernel
theorem dX5_starting_86 : decode cX5_starting 86 = .ok (.invokevirtual 166, 3) := by decide +kernel
theorem dX5_starting_89 : decode cX5_starting 89 = .ok (.ifCond .eq 7, 3) := by decide +kernel
theorem dX5_starting_92 : decode cX5_starting 92 = .ok (.iconst 1, 1) := by decide +kernel
theorem dX5_starting_93 : decode cX5_starting 93 = .ok (.goto 4, 3) := by decide +kernel
theorem dX5_starting_96 : decode cX5_starting 96 = .ok (.iconst 0, 1) := by decide +kernel
theorem dX5_starting_97 : decode cX5_starting 97 = .ok (.istore 5, 2) := by decide +kernel
theorem dX5_starting_99 : decode cX5_starting 99 = .ok (.iload 5, 2) := by decide +kernel
theorem dX5_starting_101 : decode cX5_starting 101 = .ok (.ifCond .eq 28, 3) := by decide +kernel
theorem dX5_starting_104 : decode cX5_starting 104 = .ok (.iload_n 3, 1) := by decide +kernel
theorem dX5_starting_105 : decode cX5_starting 105 = .ok (.ifCond .lt 19, 3) := by decide +kernel
theorem dX5_starting_108 : decode cX5_starting 108 = .ok (.aload_n 0, 1) := by decide +kernel
theorem dX5_starting_109 : decode cX5_starting 109 = .ok (.getfield 35, 3) := by decide +kernel
theorem dX5_starting_112 : decode cX5_starting 112 = .ok (.iload 4, 2) := by decide +kernel
theorem dX5_starting_114 : decode cX5_starting 114 = .ok (.iaload, 1) := by decide +kernel
theorem dX5_starting_115 : decode cX5_starting 115 = .ok (.aload_n 0, 1) := by decide +kernel
theorem dX5_starting_116 : decode cX5_starting 116 = .ok (.getfield 35, 3) := by decide +kernel
theorem dX5_starting_119 : decode cX5_starting 119 = .ok (.iload_n 3, 1) := by decide +kernel
theorem dX5_starting_120 : decode cX5_starting 120 = .ok (.iaload, 1) := by decide +kernel
theorem dX5_starting_121 : decode cX5_starting 121 = .ok (.if_icmp .gt 8, 3) := by decide +kernel
theorem dX5_starting_124 : decode cX5_starting 124 = .ok (.iload 4, 2) := by decide +kernel
theorem dX5_starting_126 : decode cX5_starting 126 = .ok (.goto 4, 3) := by decide +kernel
theorem dX5_starting_129 : decode cX5_starting 129 = .ok (.iload_n 3, 1) := by decide +kernel
theorem dX5_starting_130 : decode cX5_starting 130 = .ok (.istore_n 3, 1) := by decide +kernel
theorem dX5_starting_131 : decode cX5_starting 131 = .ok (.iinc 4 (-1), 3) := by decide +kernel
theorem dX5_starting_134 : decode cX5_starting 134 = .ok (.goto (-83), 3) := by decide +kernel
theorem dX5_starting_137 : decode cX5_starting 137 = .ok (.iload_n 3, 1) := by decide +kernel
theorem dX5_starting_138 : decode cX5_starting 138 = .ok (.ifCond .ge 5, 3) := by decide +kernel
theorem dX5_starting_141 : decode cX5_starting 141 = .ok (.iconst 1, 1) := by decide +kernel
theorem dX5_starting_142 : decode cX5_starting 142 = .ok (.ireturn, 1) := by decide +kernel
theorem dX5_starting_143 : decode cX5_starting 143 = .ok (.aload_n 0, 1) := by decide +kernel
theorem dX5_starting_144 : decode cX5_starting 144 = .ok (.invokevirtual 169, 3) := by decide +kernel
theorem dX5_starting_147 : decode cX5_starting 147 = .ok (.iconst 3, 1) := by decide +kernel
theorem dX5_starting_148 : decode cX5_starting 148 = .ok (.if_icmp .ge 23, 3) := by decide +kernel
theorem dX5_starting_151 : decode cX5_starting 151 = .ok (.aload_n 0, 1) := by decide +kernel
theorem dX5_starting_152 : decode cX5_starting 152 = .ok (.invokevirtual 162, 3) := by decide +kernel
theorem dX5_starting_155 : decode cX5_starting 155 = .ok (.iconst 3, 1) := by decide +kernel
theorem dX5_starting_156 : decode cX5_starting 156 = .ok (.aload_n 0, 1) := by decide +kernel
theorem dX5_starting_157 : decode cX5_starting 157 = .ok (.getfield 32, 3) := by decide +kernel
theorem dX5_starting_160 : decode cX5_starting 160 = .ok (.iload_n 3, 1) := by decide +kernel
theorem dX5_starting_161 : decode cX5_starting 161 = .ok (.iaload, 1) := by decide +kernel
theorem dX5_starting_162 : decode cX5_starting 162 = .ok (.imul, 1) := by decide +kernel
theorem dX5_starting_163 : decode cX5_starting 163 = .ok (.iadd, 1) := by decide +kernel
theorem dX5_starting_164 : decode cX5_starting 164 = .ok (.aload_n 0, 1) := by decide +kernel
theorem dX5_starting_165 : decode cX5_starting 165 = .ok (.getfield 103, 3) := by decide +kernel
theorem dX5_starting_168 : decode cX5_starting 168 = .ok (.if_icmp .le 5, 3) := by decide +kernel
theorem dX5_starting_171 : decode cX5_starting 171 = .ok (.iconst 0, 1) := by decide +kernel
theorem dX5_starting_172 : decode cX5_starting 172 = .ok (.ireturn, 1) := by decide +kernel
theorem dX5_starting_173 : decode cX5_starting 173 = .ok (.aload_n 0, 1) := by decide +kernel
theorem dX5_starting_174 : decode cX5_starting 174 = .ok (.aload_n 0, 1) := by decide +kernel
theorem dX5_starting_175 : decode cX5_starting 175 = .ok (.getfield 151, 3) := by decide +kernel
theorem dX5_starting_178 : decode cX5_starting 178 = .ok (.ifCond .ne 12, 3) := by decide +kernel
theorem dX5_starting_181 : decode cX5_starting 181 = .ok (.aload_n 0, 1) := by decide +kernel
theorem dX5_starting_182 : decode cX5_starting 182 = .ok (.iload_n 3, 1) := by decide +kernel
theorem dX5_starting_183 : decode cX5_starting 183 = .ok (.iload_n 2, 1) := by decide +kernel
theorem dX5_starting_184 : decode cX5_starting 184 = .ok (.invokevirtual 166, 3) := by decide +kernel
theorem dX5_starting_187 : decode cX5_starting 187 = .ok (.ifCond .ne 7, 3) := by decide +kernel
theorem dX5_starting_190 : decode cX5_starting 190 = .ok (.iconst 1, 1) := by decide +kernel
theorem dX5_starting_191 : decode cX5_starting 191 = .ok (.goto 4, 3) := by decide +kernel
theorem dX5_starting_194 : decode cX5_starting 194 = .ok (.iconst 0, 1) := by decide +kernel
theorem dX5_starting_195 : decode cX5_starting 195 = .ok (.putfield 151, 3) := by decide +kernel
theorem dX5_starting_198 : decode cX5_starting 198 = .ok (.aload_n 0, 1) := by decide +kernel
theorem dX5_starting_199 : decode cX5_starting 199 = .ok (.iload_n 3, 1) := by decide +kernel
theorem dX5_starting_200 : decode cX5_starting 200 = .ok (.iload_n 2, 1) := by decide +kernel
theorem dX5_starting_201 : decode cX5_starting 201 = .ok (.invokevirtual 137, 3) := by decide +kernel
theorem dX5_starting_204 : decode cX5_starting 204 = .ok (.aload_n 0, 1) := by decide +kernel
theorem dX5_starting_205 : decode cX5_starting 205 = .ok (.getfield 38, 3) := by decide +kernel
theorem dX5_starting_208 : decode cX5_starting 208 = .ok (.iload_n 3, 1) := by decide +kernel
theorem dX5_starting_209 : decode cX5_starting 209 = .ok (.iload_n 2, 1) := by decide +kernel
theorem dX5_starting_210 : decode cX5_starting 210 = .ok (.iastore, 1) := by decide +kernel
theorem dX5_starting_211 : decode cX5_starting 211 = .ok (.aload_n 0, 1) := by decide +kernel
theorem dX5_starting_212 : decode cX5_starting 212 = .ok (.getfield 44, 3) := by decide +kernel
theorem dX5_starting_215 : decode cX5_starting 215 = .ok (.iload_n 3, 1) := by decide +kernel
theorem dX5_starting_216 : decode cX5_starting 216 = .ok (.aload_n 0, 1) := by decide +kernel
theorem dX5_starting_217 : decode cX5_starting 217 = .ok (.getfield 113, 3) := by decide +kernel
theorem dX5_starting_220 : decode cX5_starting 220 = .ok (.iastore, 1) := by decide +kernel
theorem dX5_starting_221 : decode cX5_starting 221 = .ok (.aload_n 0, 1) := by decide +kernel
theorem dX5_starting_222 : decode cX5_starting 222 = .ok (.getfield 92, 3) := by decide +kernel
theorem dX5_starting_225 : decode cX5_starting 225 = .ok (.aload_n 0, 1) := by decide +kernel
theorem dX5_starting_226 : decode cX5_starting 226 = .ok (.getfield 113, 3) := by decide +kernel
theorem dX5_starting_229 : decode cX5_starting 229 = .ok (.dup2, 1) := by decide +kernel
theorem dX5_starting_230 : decode cX5_starting 230 = .ok (.iaload, 1) := by decide +kernel
theorem dX5_starting_231 : decode cX5_starting 231 = .ok (.iconst 1, 1) := by decide +kernel
theorem dX5_starting_232 : decode cX5_starting 232 = .ok (.iadd, 1) := by decide +kernel
theorem dX5_starting_233 : decode cX5_starting 233 = .ok (.iastore, 1) := by decide +kernel
theorem dX5_starting_234 : decode cX5_starting 234 = .ok (.goto (-227), 3) := by decide +kernel
theorem dX5_starting_237 : decode cX5_starting 237 = .ok (.iconst 1, 1) := by decide +kernel
theorem dX5_starting_238 : decode cX5_starting 238 = .ok (.ireturn, 1) := by decide +kernel
set_option maxRecDepth 20000 in
theorem ggX5_look_X5_loadOf : GoodIn wsX5_look wsX5_loadOf := goodIn_r _ [9, 3, 10, 11, 12, 23, 24, 25, 26, 27, 28, 29, 30, 31, 32, 33, 34, 35, 36, 37, 38, 39, 40, 41, 42, 43, 44, 45, 46, 47, 48, 49, 50, 51, 52, 53, 54, 55, 56, 57] (by decide +kernel) (by decide +kernel)
set_option maxRecDepth 20000 in
theorem gX5_look_X5_loadOf : GoodIn wsX5_look (wsV RX5 162 RX5 yX5_loadOf wsX5_loadOf) := goodIn_app (goodIn_of _ (by decide +kernel)) ggX5_look_X5_loadOf
set_option maxRecDepth 20000 in
theorem ggX5_look_X5_startsOf : GoodIn wsX5_look wsX5_startsOf := goodIn_r _ [16, 10, 17, 23, 24, 25, 26, 27, 28, 29, 30, 31, 32, 33, 34, 35, 36, 37, 38, 39, 40, 41, 42, 43, 44, 45, 46, 47, 48, 49, 50, 51, 52, 53, 54, 55, 56, 57] (by decide +kernel) (by decide +kernel)
set_option maxRecDepth 20000 in
theorem gX5_look_X5_startsOf : GoodIn wsX5_look (wsV RX5 169 RX5 yX5_startsOf wsX5_startsOf) := goodIn_app (goodIn_of _ (by decide +kernel)) ggX5_look_X5_startsOf
set_option maxRecDepth 20000 in
theorem ggX5_look_X5_blowing : GoodIn wsX5_look wsX5_blowing := goodIn_r _ [21, 22, 3, 23, 24, 25, 26, 27, 28, 29, 30, 31, 32, 33, 34, 35, 36, 37, 38, 39, 40, 41, 42, 43, 44, 45, 46, 47, 48, 49, 50, 51, 52, 53, 54, 55, 56, 57] (by decide +kernel) (by decide +kernel)
set_option maxRecDepth 20000 in
theorem gX5_look_X5_blowing : GoodIn wsX5_look (wsV RX5 155 RX5 yX5_blowing wsX5_blowing) := goodIn_app (goodIn_of _ (by decide +kernel)) ggX5_look_X5_blowing
theorem dX5_look_0 : decode cX5_look 0 = .ok (.aload_n 0, 1) := by decide +kernel
theorem dX5_look_1 : decode cX5_look 1 = .ok (.aload_n 0, 1) := by decide +kernel
theorem dX5_look_2 : decode cX5_look 2 = .ok (.getfield 151, 3) := by decide +kernel
theorem dX5_look_5 : decode cX5_look 5 = .ok (.ifCond .ne 22, 3) := by decide +kernel
theorem dX5_look_8 : decode cX5_look 8 = .ok (.aload_n 0, 1) := by decide +kernel
theorem dX5_look_9 : decode cX5_look 9 = .ok (.invokevirtual 162, 3) := by decide +kernel
theorem dX5_look_12 : decode cX5_look 12 = .ok (.aload_n 0, 1) := by decide +kernel
theorem dX5_look_13 : decode cX5_look 13 = .ok (.getfield 103, 3) := by decide +kernel
theorem dX5_look_16 : decode cX5_look 16 = .ok (.if_icmp .gt 11, 3) := by decide +kernel
theorem dX5_look_19 : decode cX5_look 19 = .ok (.aload_n 0, 1) := by decide +kernel
theorem dX5_look_20 : decode cX5_look 20 = .ok (.invokevirtual 169, 3) := by decide +kernel
theorem dX5_look_23 : decode cX5_look 23 = .ok (.iconst 3, 1) := by decide +kernel
theorem dX5_look_24 : decode cX5_look 24 = .ok (.if_icmp .le 7, 3) := by decide +kernel
theorem dX5_look_27 : decode cX5_look 27 = .ok (.iconst 1, 1) := by decide +kernel
theorem dX5_look_28 : decode cX5_look 28 = .ok (.goto 4, 3) := by decide +kernel
theorem dX5_look_31 : decode cX5_look 31 = .ok (.iconst 0, 1) := by decide +kernel
theorem dX5_look_32 : decode cX5_look 32 = .ok (.putfield 151, 3) := by decide +kernel
theorem dX5_look_35 : decode cX5_look 35 = .ok (.iconst 0, 1) := by decide +kernel
theorem dX5_look_36 : decode cX5_look 36 = .ok (.istore_n 1, 1) := by decide +kernel
theorem dX5_look_37 : decode cX5_look 37 = .ok (.iload_n 1, 1) := by decide +kernel
theorem dX5_look_38 : decode cX5_look 38 = .ok (.iconst 2, 1) := by decide +kernel
theorem dX5_look_39 : decode cX5_look 39 = .ok (.if_icmp .ge 86, 3) := by decide +kernel
theorem dX5_look_42 : decode cX5_look 42 = .ok (.aload_n 0, 1) := by decide +kernel
theorem dX5_look_43 : decode cX5_look 43 = .ok (.aload_n 0, 1) := by decide +kernel
theorem dX5_look_44 : decode cX5_look 44 = .ok (.getfield 151, 3) := by decide +kernel
theorem dX5_look_47 : decode cX5_look 47 = .ok (.ifCond .ne 21, 3) := by decide +kernel
theorem dX5_look_50 : decode cX5_look 50 = .ok (.aload_n 0, 1) := by decide +kernel
theorem dX5_look_51 : decode cX5_look 51 = .ok (.iload_n 1, 1) := by decide +kernel
theorem dX5_look_52 : decode cX5_look 52 = .ok (.iconst 1, 1) := by decide +kernel
theorem dX5_look_53 : decode cX5_look 53 = .ok (.invokevirtual 155, 3) := by decide +kernel
theorem dX5_look_56 : decode cX5_look 56 = .ok (.ifCond .le 16, 3) := by decide +kernel
theorem dX5_look_59 : decode cX5_look 59 = .ok (.aload_n 0, 1) := by decide +kernel
theorem dX5_look_60 : decode cX5_look 60 = .ok (.iload_n 1, 1) := by decide +kernel
theorem dX5_look_61 : decode cX5_look 61 = .ok (.iconst (-1), 1) := by decide +kernel
theorem dX5_look_62 : decode cX5_look 62 = .ok (.invokevirtual 155, 3) := by decide +kernel
theorem dX5_look_65 : decode cX5_look 65 = .ok (.ifCond .le 7, 3) := by decide +kernel
theorem dX5_look_68 : decode cX5_look 68 = .ok (.iconst 1, 1) := by decide +kernel
theorem dX5_look_69 : decode cX5_look 69 = .ok (.goto 4, 3) := by decide +kernel
theorem dX5_look_72 : decode cX5_look 72 = .ok (.iconst 0, 1) := by decide +kernel
theorem dX5_look_73 : decode cX5_look 73 = .ok (.putfield 151, 3) := by decide +kernel
theorem dX5_look_76 : decode cX5_look 76 = .ok (.aload_n 0, 1) := by decide +kernel
theorem dX5_look_77 : decode cX5_look 77 = .ok (.aload_n 0, 1) := by decide +kernel
theorem dX5_look_78 : decode cX5_look 78 = .ok (.getfield 151, 3) := by decide +kernel
theorem dX5_look_81 : decode cX5_look 81 = .ok (.ifCond .ne 30, 3) := by decide +kernel
theorem dX5_look_84 : decode cX5_look 84 = .ok (.aload_n 0, 1) := by decide +kernel
theorem dX5_look_85 : decode cX5_look 85 = .ok (.getfield 16, 3) := by decide +kernel
theorem dX5_look_88 : decode cX5_look 88 = .ok (.bipush 14, 2) := by decide +kernel
theorem dX5_look_90 : decode cX5_look 90 = .ok (.iload_n 1, 1) := by decide +kernel
theorem dX5_look_91 : decode cX5_look 91 = .ok (.imul, 1) := by decide +kernel
theorem dX5_look_92 : decode cX5_look 92 = .ok (.iconst 1, 1) := by decide +kernel
theorem dX5_look_93 : decode cX5_look 93 = .ok (.iadd, 1) := by decide +kernel
theorem dX5_look_94 : decode cX5_look 94 = .ok (.iaload, 1) := by decide +kernel
theorem dX5_look_95 : decode cX5_look 95 = .ok (.iconst 1, 1) := by decide +kernel
theorem dX5_look_96 : decode cX5_look 96 = .ok (.if_icmp .ne 19, 3) := by decide +kernel
theorem dX5_look_99 : decode cX5_look 99 = .ok (.aload_n 0, 1) := by decide +kernel
theorem dX5_look_100 : decode cX5_look 100 = .ok (.getfield 16, 3) := by decide +kernel
theorem dX5_look_103 : decode cX5_look 103 = .ok (.bipush 14, 2) := by decide +kernel
theorem dX5_look_105 : decode cX5_look 105 = .ok (.iload_n 1, 1) := by decide +kernel
theorem dX5_look_106 : decode cX5_look 106 = .ok (.imul, 1) := by decide +kernel
theorem dX5_look_107 : decode cX5_look 107 = .ok (.iaload, 1) := by decide +kernel
theorem dX5_look_108 : decode cX5_look 108 = .ok (.ifCond .ne 7, 3) := by decide +kernel
theorem dX5_look_111 : decode cX5_look 111 = .ok (.iconst 1, 1) := by decide +kernel
theorem dX5_look_112 : decode cX5_look 112 = .ok (.goto 4, 3) := by decide +kernel
theorem dX5_look_115 : decode cX5_look 115 = .ok (.iconst 0, 1) := by decide +kernel
theorem dX5_look_116 : decode cX5_look 116 = .ok (.putfield 151, 3) := by decide +kernel
theorem dX5_look_119 : decode cX5_look 119 = .ok (.iinc 1 1, 3) := by decide +kernel
theorem dX5_look_122 : decode cX5_look 122 = .ok (.goto (-85), 3) := by decide +kernel
theorem dX5_look_125 : decode cX5_look 125 = .ok (.aload_n 0, 1) := by decide +kernel
theorem dX5_look_126 : decode cX5_look 126 = .ok (.dup, 1) := by decide +kernel
theorem dX5_look_127 : decode cX5_look 127 = .ok (.getfield 172, 3) := by decide +kernel
theorem dX5_look_130 : decode cX5_look 130 = .ok (.aload_n 0, 1) := by decide +kernel
theorem dX5_look_131 : decode cX5_look 131 = .ok (.getfield 151, 3) := by decide +kernel
theorem dX5_look_134 : decode cX5_look 134 = .ok (.ifCond .eq 7, 3) := by decide +kernel
theorem dX5_look_137 : decode cX5_look 137 = .ok (.iconst 1, 1) := by decide +kernel
theorem dX5_look_138 : decode cX5_look 138 = .ok (.goto 4, 3) := by decide +kernel
theorem dX5_look_141 : decode cX5_look 141 = .ok (.iconst 0, 1) := by decide +kernel
theorem dX5_look_142 : decode cX5_look 142 = .ok (.iadd, 1) := by decide +kernel
theorem dX5_look_143 : decode cX5_look 143 = .ok (.putfield 172, 3) := by decide +kernel
theorem dX5_look_146 : decode cX5_look 146 = .ok (.return_, 1) := by decide +kernel
set_option maxRecDepth 20000 in
theorem ggX5_tick_X5_act : GoodIn wsX5_tick wsX5_act := goodIn_r _ [9, 10, 11, 12, 1, 13, 14, 4, 15, 16, 17, 18, 8, 19, 20, 21, 22, 23, 24, 116, 117, 118, 119, 120, 121, 122, 123, 124, 125, 126, 127, 128, 129, 130, 131, 132, 133, 134, 135, 136, 137, 138, 139, 140, 141, 142, 143, 144, 145, 146, 147, 148, 149, 150] (by decide +kernel) (by decide +kernel)
set_option maxRecDepth 20000 in
theorem gX5_tick_X5_act : GoodIn wsX5_tick (wsV RX5 175 RX5 yX5_act wsX5_act) := goodIn_app (goodIn_of _ (by decide +kernel)) ggX5_tick_X5_act
set_option maxRecDepth 20000 in
theorem ggX5_tick_X5_judge : GoodIn wsX5_tick wsX5_judge := goodIn_r _ [28, 29, 30, 31, 32, 33, 34, 35, 36, 8, 37, 38, 39, 40, 41, 42, 43, 44, 45, 46, 47, 116, 117, 118, 119, 120, 121, 122, 123, 124, 125, 126, 127, 128, 129, 130, 131, 132, 133, 134, 135, 136, 137, 138, 139, 140, 141, 142, 143, 144, 145, 146, 147, 148, 149, 150] (by decide +kernel) (by decide +kernel)
set_option maxRecDepth 20000 in
theorem gX5_tick_X5_judge : GoodIn wsX5_tick (wsV RX5 178 RX5 yX5_judge wsX5_judge) := goodIn_app (goodIn_of _ (by decide +kernel)) ggX5_tick_X5_judge
set_option maxRecDepth 20000 in
theorem ggX5_tick_X5_burning : GoodIn wsX5_tick wsX5_burning := goodIn_r _ [51, 32, 31, 33, 116, 117, 118, 119, 120, 121, 122, 123, 124, 125, 126, 127, 128, 129, 130, 131, 132, 133, 134, 135, 136, 137, 138, 139, 140, 141, 142, 143, 144, 145, 146, 147, 148, 149, 150] (by decide +kernel) (by decide +kernel)
set_option maxRecDepth 20000 in
theorem gX5_tick_X5_burning : GoodIn wsX5_tick (wsV RX5 181 RX5 yX5_burning wsX5_burning) := goodIn_app (goodIn_of _ (by decide +kernel)) ggX5_tick_X5_burning
set_option maxRecDepth 20000 in
theorem ggX5_tick_X5_want : GoodIn wsX5_tick wsX5_want := goodIn_r _ [55, 33, 56, 57, 58, 59, 60, 61, 62, 63, 116, 117, 118, 119, 120, 121, 122, 123, 124, 125, 126, 127, 128, 129, 130, 131, 132, 133, 134, 135, 136, 137, 138, 139, 140, 141, 142, 143, 144, 145, 146, 147, 148, 149, 150] (by decide +kernel) (by decide +kernel)
set_option maxRecDepth 20000 in
theorem gX5_tick_X5_want : GoodIn wsX5_tick (wsV RX5 184 RX5 yX5_want wsX5_want) := goodIn_app (goodIn_of _ (by decide +kernel)) ggX5_tick_X5_want
set_option maxRecDepth 20000 in
theorem ggX5_tick_X5_traffic : GoodIn wsX5_tick wsX5_traffic := goodIn_r _ [67, 32, 68, 4, 11, 2, 21, 22, 23, 8, 24, 13, 1, 69, 70, 71, 72, 116, 117, 118, 119, 120, 121, 122, 123, 124, 125, 126, 127, 128, 129, 130, 131, 132, 133, 134, 135, 136, 137, 138, 139, 140, 141, 142, 143, 144, 145, 146, 147, 148, 149, 150] (by decide +kernel) (by decide +kernel)
set_option maxRecDepth 20000 in
theorem gX5_tick_X5_traffic : GoodIn wsX5_tick (wsV RX5 187 RX5 yX5_traffic wsX5_traffic) := goodIn_app (goodIn_of _ (by decide +kernel)) ggX5_tick_X5_traffic
set_option maxRecDepth 20000 in
theorem ggX5_tick_X5_isHalted : GoodIn wsX5_tick wsX5_isHalted := goodIn_r _ [72, 4, 11, 1, 13, 116, 117, 118, 119, 120, 121, 122, 123, 124, 125, 126, 127, 128, 129, 130, 131, 132, 133, 134, 135, 136, 137, 138, 139, 140, 141, 142, 143, 144, 145, 146, 147, 148, 149, 150] (by decide +kernel) (by decide +kernel)
set_option maxRecDepth 20000 in
theorem gX5_tick_X5_isHalted : GoodIn wsX5_tick (wsV RX5 148 RX5 yX5_isHalted wsX5_isHalted) := goodIn_app (goodIn_of _ (by decide +kernel)) ggX5_tick_X5_isHalted
set_option maxRecDepth 20000 in
theorem ggX5_tick_X5_calm : GoodIn wsX5_tick wsX5_calm := goodIn_r _ [76, 10, 4, 56, 60, 16, 17, 18, 8, 19, 20, 1, 21, 22, 23, 24, 13, 77, 78, 79, 80, 81, 82, 83, 84, 3, 116, 117, 118, 119, 120, 121, 122, 123, 124, 125, 126, 127, 128, 129, 130, 131, 132, 133, 134, 135, 136, 137, 138, 139, 140, 141, 142, 143, 144, 145, 146, 147, 148, 149, 150] (by decide +kernel) (by decide +kernel)
set_option maxRecDepth 20000 in
theorem gX5_tick_X5_calm : GoodIn wsX5_tick (wsV RX5 191 RX5 yX5_calm wsX5_calm) := goodIn_app (goodIn_of _ (by decide +kernel)) ggX5_tick_X5_calm
set_option maxRecDepth 20000 in
theorem ggX5_tick_X5_relieve : GoodIn wsX5_tick wsX5_relieve := goodIn_r _ [88, 89, 90, 91, 92, 8, 93, 4, 1, 94, 95, 81, 82, 83, 84, 10, 3, 16, 17, 18, 19, 20, 21, 22, 23, 24, 13, 116, 117, 118, 119, 120, 121, 122, 123, 124, 125, 126, 127, 128, 129, 130, 131, 132, 133, 134, 135, 136, 137, 138, 139, 140, 141, 142, 143, 144, 145, 146, 147, 148, 149, 150] (by decide +kernel) (by decide +kernel)
set_option maxRecDepth 20000 in
theorem gX5_tick_X5_relieve : GoodIn wsX5_tick (wsV RX5 195 RX5 yX5_relieve wsX5_relieve) := goodIn_app (goodIn_of _ (by decide +kernel)) ggX5_tick_X5_relieve
set_option maxRecDepth 20000 in
theorem ggX5_tick_X5_starting : GoodIn wsX5_tick wsX5_starting := goodIn_r _ [99, 56, 60, 10, 4, 15, 3, 95, 89, 2, 100, 94, 1, 101, 77, 78, 79, 8, 80, 102, 103, 104, 105, 20, 106, 107, 108, 109, 110, 90, 91, 92, 93, 21, 22, 23, 24, 13, 116, 117, 118, 119, 120, 121, 122, 123, 124, 125, 126, 127, 128, 129, 130, 131, 132, 133, 134, 135, 136, 137, 138, 139, 140, 141, 142, 143, 144, 145, 146, 147, 148, 149, 150] (by decide +kernel) (by decide +kernel)
set_option maxRecDepth 20000 in
theorem gX5_tick_X5_starting : GoodIn wsX5_tick (wsV RX5 198 RX5 yX5_starting wsX5_starting) := goodIn_app (goodIn_of _ (by decide +kernel)) ggX5_tick_X5_starting
set_option maxRecDepth 20000 in
theorem ggX5_tick_X5_look : GoodIn wsX5_tick wsX5_look := goodIn_r _ [114, 2, 89, 4, 115, 90, 91, 92, 8, 93, 1, 94, 95, 107, 108, 109, 110, 101, 77, 78, 79, 80, 10, 116, 117, 118, 119, 120, 121, 122, 123, 124, 125, 126, 127, 128, 129, 130, 131, 132, 133, 134, 135, 136, 137, 138, 139, 140, 141, 142, 143, 144, 145, 146, 147, 148, 149, 150] (by decide +kernel) (by decide +kernel)
set_option maxRecDepth 20000 in
theorem gX5_tick_X5_look : GoodIn wsX5_tick (wsV RX5 201 RX5 yX5_look wsX5_look) := goodIn_app (goodIn_of _ (by decide +kernel)) ggX5_tick_X5_look
theorem dX5_tick_0 : decode cX5_tick 0 = .ok (.aload_n 0, 1) := by decide +kernel
theorem dX5_tick_1 : decode cX5_tick 1 = .ok (.dup, 1) := by decide +kernel
theorem dX5_tick_2 : decode cX5_tick 2 = .ok (.getfield 113, 3) := by decide +kernel
theorem dX5_tick_5 : decode cX5_tick 5 = .ok (.iconst 1, 1) := by decide +kernel
theorem dX5_tick_6 : decode cX5_tick 6 = .ok (.iadd, 1) := by decide +kernel
theorem dX5_tick_7 : decode cX5_tick 7 = .ok (.putfield 113, 3) := by decide +kernel
theorem dX5_tick_10 : decode cX5_tick 10 = .ok (.aload_n 0, 1) := by decide +kernel
theorem dX5_tick_11 : decode cX5_tick 11 = .ok (.iconst 0, 1) := by decide +kernel
theorem dX5_tick_12 : decode cX5_tick 12 = .ok (.putfield 151, 3) := by decide +kernel
theorem dX5_tick_15 : decode cX5_tick 15 = .ok (.aload_n 0, 1) := by decide +kernel
theorem dX5_tick_16 : decode cX5_tick 16 = .ok (.invokevirtual 175, 3) := by decide +kernel
theorem dX5_tick_19 : decode cX5_tick 19 = .ok (.aload_n 0, 1) := by decide +kernel
theorem dX5_tick_20 : decode cX5_tick 20 = .ok (.iconst 0, 1) := by decide +kernel
theorem dX5_tick_21 : decode cX5_tick 21 = .ok (.invokevirtual 178, 3) := by decide +kernel
theorem dX5_tick_24 : decode cX5_tick 24 = .ok (.aload_n 0, 1) := by decide +kernel
theorem dX5_tick_25 : decode cX5_tick 25 = .ok (.iconst 1, 1) := by decide +kernel
theorem dX5_tick_26 : decode cX5_tick 26 = .ok (.invokevirtual 178, 3) := by decide +kernel
theorem dX5_tick_29 : decode cX5_tick 29 = .ok (.aload_n 0, 1) := by decide +kernel
theorem dX5_tick_30 : decode cX5_tick 30 = .ok (.invokevirtual 181, 3) := by decide +kernel
theorem dX5_tick_33 : decode cX5_tick 33 = .ok (.istore_n 1, 1) := by decide +kernel
theorem dX5_tick_34 : decode cX5_tick 34 = .ok (.aload_n 0, 1) := by decide +kernel
theorem dX5_tick_35 : decode cX5_tick 35 = .ok (.iload_n 1, 1) := by decide +kernel
theorem dX5_tick_36 : decode cX5_tick 36 = .ok (.invokevirtual 184, 3) := by decide +kernel
theorem dX5_tick_39 : decode cX5_tick 39 = .ok (.aload_n 0, 1) := by decide +kernel
theorem dX5_tick_40 : decode cX5_tick 40 = .ok (.iload_n 1, 1) := by decide +kernel
theorem dX5_tick_41 : decode cX5_tick 41 = .ok (.ifCond .lt 7, 3) := by decide +kernel
theorem dX5_tick_44 : decode cX5_tick 44 = .ok (.iconst 1, 1) := by decide +kernel
theorem dX5_tick_45 : decode cX5_tick 45 = .ok (.goto 4, 3) := by decide +kernel
theorem dX5_tick_48 : decode cX5_tick 48 = .ok (.iconst 0, 1) := by decide +kernel
theorem dX5_tick_49 : decode cX5_tick 49 = .ok (.invokevirtual 187, 3) := by decide +kernel
theorem dX5_tick_52 : decode cX5_tick 52 = .ok (.iconst 0, 1) := by decide +kernel
theorem dX5_tick_53 : decode cX5_tick 53 = .ok (.istore_n 2, 1) := by decide +kernel
theorem dX5_tick_54 : decode cX5_tick 54 = .ok (.iload_n 2, 1) := by decide +kernel
theorem dX5_tick_55 : decode cX5_tick 55 = .ok (.iconst 2, 1) := by decide +kernel
theorem dX5_tick_56 : decode cX5_tick 56 = .ok (.if_icmp .ge 31, 3) := by decide +kernel
theorem dX5_tick_59 : decode cX5_tick 59 = .ok (.aload_n 0, 1) := by decide +kernel
theorem dX5_tick_60 : decode cX5_tick 60 = .ok (.iload_n 2, 1) := by decide +kernel
theorem dX5_tick_61 : decode cX5_tick 61 = .ok (.iload_n 1, 1) := by decide +kernel
theorem dX5_tick_62 : decode cX5_tick 62 = .ok (.ifCond .lt 11, 3) := by decide +kernel
theorem dX5_tick_65 : decode cX5_tick 65 = .ok (.aload_n 0, 1) := by decide +kernel
theorem dX5_tick_66 : decode cX5_tick 66 = .ok (.iload_n 2, 1) := by decide +kernel
theorem dX5_tick_67 : decode cX5_tick 67 = .ok (.invokevirtual 148, 3) := by decide +kernel
theorem dX5_tick_70 : decode cX5_tick 70 = .ok (.ifCond .eq 7, 3) := by decide +kernel
theorem dX5_tick_73 : decode cX5_tick 73 = .ok (.iconst 1, 1) := by decide +kernel
theorem dX5_tick_74 : decode cX5_tick 74 = .ok (.goto 4, 3) := by decide +kernel
theorem dX5_tick_77 : decode cX5_tick 77 = .ok (.iconst 0, 1) := by decide +kernel
theorem dX5_tick_78 : decode cX5_tick 78 = .ok (.invokevirtual 191, 3) := by decide +kernel
theorem dX5_tick_81 : decode cX5_tick 81 = .ok (.iinc 2 1, 3) := by decide +kernel
theorem dX5_tick_84 : decode cX5_tick 84 = .ok (.goto (-30), 3) := by decide +kernel
theorem dX5_tick_87 : decode cX5_tick 87 = .ok (.aload_n 0, 1) := by decide +kernel
theorem dX5_tick_88 : decode cX5_tick 88 = .ok (.iload_n 1, 1) := by decide +kernel
theorem dX5_tick_89 : decode cX5_tick 89 = .ok (.ifCond .ge 7, 3) := by decide +kernel
theorem dX5_tick_92 : decode cX5_tick 92 = .ok (.iconst 1, 1) := by decide +kernel
theorem dX5_tick_93 : decode cX5_tick 93 = .ok (.goto 6, 3) := by decide +kernel
theorem dX5_tick_96 : decode cX5_tick 96 = .ok (.iconst 1, 1) := by decide +kernel
theorem dX5_tick_97 : decode cX5_tick 97 = .ok (.iload_n 1, 1) := by decide +kernel
theorem dX5_tick_98 : decode cX5_tick 98 = .ok (.isub, 1) := by decide +kernel
theorem dX5_tick_99 : decode cX5_tick 99 = .ok (.invokevirtual 195, 3) := by decide +kernel
theorem dX5_tick_102 : decode cX5_tick 102 = .ok (.iload_n 1, 1) := by decide +kernel
theorem dX5_tick_103 : decode cX5_tick 103 = .ok (.ifCond .ge 7, 3) := by decide +kernel
theorem dX5_tick_106 : decode cX5_tick 106 = .ok (.iconst 0, 1) := by decide +kernel
theorem dX5_tick_107 : decode cX5_tick 107 = .ok (.goto 4, 3) := by decide +kernel
theorem dX5_tick_110 : decode cX5_tick 110 = .ok (.iload_n 1, 1) := by decide +kernel
theorem dX5_tick_111 : decode cX5_tick 111 = .ok (.istore_n 2, 1) := by decide +kernel
theorem dX5_tick_112 : decode cX5_tick 112 = .ok (.aload_n 0, 1) := by decide +kernel
theorem dX5_tick_113 : decode cX5_tick 113 = .ok (.iload_n 2, 1) := by decide +kernel
theorem dX5_tick_114 : decode cX5_tick 114 = .ok (.invokevirtual 198, 3) := by decide +kernel
theorem dX5_tick_117 : decode cX5_tick 117 = .ok (.ifCond .eq 11, 3) := by decide +kernel
theorem dX5_tick_120 : decode cX5_tick 120 = .ok (.aload_n 0, 1) := by decide +kernel
theorem dX5_tick_121 : decode cX5_tick 121 = .ok (.iconst 1, 1) := by decide +kernel
theorem dX5_tick_122 : decode cX5_tick 122 = .ok (.iload_n 2, 1) := by decide +kernel
theorem dX5_tick_123 : decode cX5_tick 123 = .ok (.isub, 1) := by decide +kernel
theorem dX5_tick_124 : decode cX5_tick 124 = .ok (.invokevirtual 198, 3) := by decide +kernel
theorem dX5_tick_127 : decode cX5_tick 127 = .ok (.istore_n 3, 1) := by decide +kernel
theorem dX5_tick_128 : decode cX5_tick 128 = .ok (.iconst 0, 1) := by decide +kernel
theorem dX5_tick_129 : decode cX5_tick 129 = .ok (.istore_n 3, 1) := by decide +kernel
theorem dX5_tick_130 : decode cX5_tick 130 = .ok (.iload_n 3, 1) := by decide +kernel
theorem dX5_tick_131 : decode cX5_tick 131 = .ok (.bipush 28, 2) := by decide +kernel
theorem dX5_tick_133 : decode cX5_tick 133 = .ok (.if_icmp .ge 40, 3) := by decide +kernel
theorem dX5_tick_136 : decode cX5_tick 136 = .ok (.aload_n 0, 1) := by decide +kernel
theorem dX5_tick_137 : decode cX5_tick 137 = .ok (.getfield 35, 3) := by decide +kernel
theorem dX5_tick_140 : decode cX5_tick 140 = .ok (.iload_n 3, 1) := by decide +kernel
theorem dX5_tick_141 : decode cX5_tick 141 = .ok (.dup2, 1) := by decide +kernel
theorem dX5_tick_142 : decode cX5_tick 142 = .ok (.iaload, 1) := by decide +kernel
theorem dX5_tick_143 : decode cX5_tick 143 = .ok (.iload_n 3, 1) := by decide +kernel
theorem dX5_tick_144 : decode cX5_tick 144 = .ok (.bipush 14, 2) := by decide +kernel
theorem dX5_tick_146 : decode cX5_tick 146 = .ok (.irem, 1) := by decide +kernel
theorem dX5_tick_147 : decode cX5_tick 147 = .ok (.iconst 1, 1) := by decide +kernel
theorem dX5_tick_148 : decode cX5_tick 148 = .ok (.if_icmp .le 16, 3) := by decide +kernel
theorem dX5_tick_151 : decode cX5_tick 151 = .ok (.aload_n 0, 1) := by decide +kernel
theorem dX5_tick_152 : decode cX5_tick 152 = .ok (.getfield 16, 3) := by decide +kernel
theorem dX5_tick_155 : decode cX5_tick 155 = .ok (.iload_n 3, 1) := by decide +kernel
theorem dX5_tick_156 : decode cX5_tick 156 = .ok (.iaload, 1) := by decide +kernel
theorem dX5_tick_157 : decode cX5_tick 157 = .ok (.ifCond .eq 7, 3) := by decide +kernel
theorem dX5_tick_160 : decode cX5_tick 160 = .ok (.iconst 1, 1) := by decide +kernel
theorem dX5_tick_161 : decode cX5_tick 161 = .ok (.goto 4, 3) := by decide +kernel
theorem dX5_tick_164 : decode cX5_tick 164 = .ok (.iconst 0, 1) := by decide +kernel
theorem dX5_tick_165 : decode cX5_tick 165 = .ok (.iadd, 1) := by decide +kernel
theorem dX5_tick_166 : decode cX5_tick 166 = .ok (.iastore, 1) := by decide +kernel
theorem dX5_tick_167 : decode cX5_tick 167 = .ok (.iinc 3 1, 3) := by decide +kernel
theorem dX5_tick_170 : decode cX5_tick 170 = .ok (.goto (-40), 3) := by decide +kernel
theorem dX5_tick_173 : decode cX5_tick 173 = .ok (.aload_n 0, 1) := by decide +kernel
theorem dX5_tick_174 : decode cX5_tick 174 = .ok (.invokevirtual 201, 3) := by decide +kernel
theorem dX5_tick_177 : decode cX5_tick 177 = .ok (.return_, 1) := by decide +kernel
set_option maxRecDepth 20000 in
theorem ggX5_ticks_X5_goes : GoodIn wsX5_ticks wsX5_goes := goodIn_r _ [6, 7, 125, 126, 127, 128, 129, 130, 131, 132, 133, 134, 135, 136, 137, 138, 139, 140, 141, 142, 143, 144, 145, 146, 147, 148, 149, 150, 151, 152, 153, 154, 155, 156, 157, 158, 159] (by decide +kernel) (by decide +kernel)
set_option maxRecDepth 20000 in
theorem gX5_ticks_X5_goes : GoodIn wsX5_ticks (wsV RX5 116 RX5 yX5_goes wsX5_goes) := goodIn_app (goodIn_of _ (by decide +kernel)) ggX5_ticks_X5_goes
set_option maxRecDepth 20000 in
theorem ggX5_ticks_X5_tick : GoodIn wsX5_ticks wsX5_tick := goodIn_r _ [11, 1, 12, 13, 14, 15, 16, 17, 5, 18, 19, 20, 21, 22, 23, 24, 25, 26, 27, 28, 29, 30, 31, 32, 33, 34, 35, 36, 37, 38, 39, 40, 41, 42, 43, 44, 45, 46, 47, 48, 49, 50, 51, 52, 53, 54, 55, 56, 57, 58, 59, 60, 61, 62, 63, 64, 65, 66, 67, 68, 69, 70, 71, 72, 73, 74, 75, 76, 77, 78, 79, 80, 81, 82, 83, 84, 85, 86, 87, 88, 89, 90, 91, 92, 93, 94, 95, 96, 97, 98, 99, 100, 101, 102, 103, 104, 105, 106, 107, 108, 109, 110, 111, 112, 113, 114, 115, 116, 117, 118, 119, 120, 121, 122, 123, 124, 125, 126, 127, 128, 129, 130, 131, 132, 133, 134, 135, 136, 137, 138, 139, 140, 141, 142, 143, 144, 145, 146, 147, 148, 149, 150, 151, 152, 153, 154, 155, 156, 157, 158, 159] (by decide +kernel) (by decide +kernel)
set_option maxRecDepth 20000 in
theorem gX5_ticks_X5_tick : GoodIn wsX5_ticks (wsV RX5 204 RX5 yX5_tick wsX5_tick) := goodIn_app (goodIn_of _ (by decide +kernel)) ggX5_ticks_X5_tick
theorem dX5_ticks_0 : decode cX5_ticks 0 = .ok (.aload_n 0, 1) := by decide +kernel
theorem dX5_ticks_1 : decode cX5_ticks 1 = .ok (.iload_n 1, 1) := by decide +kernel
theorem dX5_ticks_2 : decode cX5_ticks 2 = .ok (.iconst 1, 1) := by decide +kernel
theorem dX5_ticks_3 : decode cX5_ticks 3 = .ok (.if_icmp .lt 14, 3) := by decide +kernel
theorem dX5_ticks_6 : decode cX5_ticks 6 = .ok (.iload_n 1, 1) := by decide +kernel
theorem dX5_ticks_7 : decode cX5_ticks 7 = .ok (.sipush 200, 3) := by decide +kernel
theorem dX5_ticks_10 : decode cX5_ticks 10 = .ok (.if_icmp .gt 7, 3) := by decide +kernel
theorem dX5_ticks_13 : decode cX5_ticks 13 = .ok (.iconst 1, 1) := by decide +kernel
theorem dX5_ticks_14 : decode cX5_ticks 14 = .ok (.goto 4, 3) := by decide +kernel
theorem dX5_ticks_17 : decode cX5_ticks 17 = .ok (.iconst 0, 1) := by decide +kernel
theorem dX5_ticks_18 : decode cX5_ticks 18 = .ok (.aload_n 0, 1) := by decide +kernel
theorem dX5_ticks_19 : decode cX5_ticks 19 = .ok (.getfield 113, 3) := by decide +kernel
theorem dX5_ticks_22 : decode cX5_ticks 22 = .ok (.iload_n 1, 1) := by decide +kernel
theorem dX5_ticks_23 : decode cX5_ticks 23 = .ok (.iadd, 1) := by decide +kernel
theorem dX5_ticks_24 : decode cX5_ticks 24 = .ok (.sipush 20000, 3) := by decide +kernel
theorem dX5_ticks_27 : decode cX5_ticks 27 = .ok (.if_icmp .gt 7, 3) := by decide +kernel
theorem dX5_ticks_30 : decode cX5_ticks 30 = .ok (.iconst 1, 1) := by decide +kernel
theorem dX5_ticks_31 : decode cX5_ticks 31 = .ok (.goto 4, 3) := by decide +kernel
theorem dX5_ticks_34 : decode cX5_ticks 34 = .ok (.iconst 0, 1) := by decide +kernel
theorem dX5_ticks_35 : decode cX5_ticks 35 = .ok (.invokevirtual 116, 3) := by decide +kernel
theorem dX5_ticks_38 : decode cX5_ticks 38 = .ok (.ifCond .ne 5, 3) := by decide +kernel
theorem dX5_ticks_41 : decode cX5_ticks 41 = .ok (.iconst 0, 1) := by decide +kernel
theorem dX5_ticks_42 : decode cX5_ticks 42 = .ok (.ireturn, 1) := by decide +kernel
theorem dX5_ticks_43 : decode cX5_ticks 43 = .ok (.iconst 0, 1) := by decide +kernel
theorem dX5_ticks_44 : decode cX5_ticks 44 = .ok (.istore_n 2, 1) := by decide +kernel
theorem dX5_ticks_45 : decode cX5_ticks 45 = .ok (.iload_n 2, 1) := by decide +kernel
theorem dX5_ticks_46 : decode cX5_ticks 46 = .ok (.iload_n 1, 1) := by decide +kernel
theorem dX5_ticks_47 : decode cX5_ticks 47 = .ok (.if_icmp .ge 13, 3) := by decide +kernel
theorem dX5_ticks_50 : decode cX5_ticks 50 = .ok (.aload_n 0, 1) := by decide +kernel
theorem dX5_ticks_51 : decode cX5_ticks 51 = .ok (.invokevirtual 204, 3) := by decide +kernel
theorem dX5_ticks_54 : decode cX5_ticks 54 = .ok (.iinc 2 1, 3) := by decide +kernel
theorem dX5_ticks_57 : decode cX5_ticks 57 = .ok (.goto (-12), 3) := by decide +kernel
theorem dX5_ticks_60 : decode cX5_ticks 60 = .ok (.aload_n 0, 1) := by decide +kernel
theorem dX5_ticks_61 : decode cX5_ticks 61 = .ok (.getfield 113, 3) := by decide +kernel
theorem dX5_ticks_64 : decode cX5_ticks 64 = .ok (.ireturn, 1) := by decide +kernel
set_option maxRecDepth 20000 in
theorem ggX5_tube_X5_isTube : GoodIn wsX5_tube wsX5_isTube := goodIn_r _ [9] (by decide +kernel) (by decide +kernel)
set_option maxRecDepth 20000 in
theorem gX5_tube_X5_isTube : GoodIn wsX5_tube (va_wsS RX5 109 yX5_isTube wsX5_isTube) := goodIn_app (goodIn_of _ (by decide +kernel)) ggX5_tube_X5_isTube
set_option maxRecDepth 20000 in
theorem ggX5_tube_X5_blowing : GoodIn wsX5_tube wsX5_blowing := goodIn_r _ [13, 14, 15, 16, 17, 18, 19, 20, 21, 22, 23, 24, 25, 26, 27, 28, 29, 30, 31, 32, 33, 34, 35, 36, 37, 38, 39, 40, 41, 42, 43, 44, 45, 46, 47, 48, 49, 50] (by decide +kernel) (by decide +kernel)
set_option maxRecDepth 20000 in
theorem gX5_tube_X5_blowing : GoodIn wsX5_tube (wsV RX5 155 RX5 yX5_blowing wsX5_blowing) := goodIn_app (goodIn_of _ (by decide +kernel)) ggX5_tube_X5_blowing
theorem dX5_tube_0 : decode cX5_tube 0 = .ok (.aload_n 0, 1) := by decide +kernel
theorem dX5_tube_1 : decode cX5_tube 1 = .ok (.iload_n 1, 1) := by decide +kernel
theorem dX5_tube_2 : decode cX5_tube 2 = .ok (.invokestatic 109, 3) := by decide +kernel
theorem dX5_tube_5 : decode cX5_tube 5 = .ok (.ifCond .eq 16, 3) := by decide +kernel
theorem dX5_tube_8 : decode cX5_tube 8 = .ok (.iload_n 2, 1) := by decide +kernel
theorem dX5_tube_9 : decode cX5_tube 9 = .ok (.ifCond .lt 12, 3) := by decide +kernel
theorem dX5_tube_12 : decode cX5_tube 12 = .ok (.iload_n 2, 1) := by decide +kernel
theorem dX5_tube_13 : decode cX5_tube 13 = .ok (.iconst 4, 1) := by decide +kernel
theorem dX5_tube_14 : decode cX5_tube 14 = .ok (.if_icmp .gt 7, 3) := by decide +kernel
theorem dX5_tube_17 : decode cX5_tube 17 = .ok (.iconst 0, 1) := by decide +kernel
theorem dX5_tube_18 : decode cX5_tube 18 = .ok (.goto 4, 3) := by decide +kernel
theorem dX5_tube_21 : decode cX5_tube 21 = .ok (.iconst 1, 1) := by decide +kernel
theorem dX5_tube_22 : decode cX5_tube 22 = .ok (.putfield 106, 3) := by decide +kernel
theorem dX5_tube_25 : decode cX5_tube 25 = .ok (.aload_n 0, 1) := by decide +kernel
theorem dX5_tube_26 : decode cX5_tube 26 = .ok (.getfield 106, 3) := by decide +kernel
theorem dX5_tube_29 : decode cX5_tube 29 = .ok (.ifCond .le 5, 3) := by decide +kernel
theorem dX5_tube_32 : decode cX5_tube 32 = .ok (.iconst 0, 1) := by decide +kernel
theorem dX5_tube_33 : decode cX5_tube 33 = .ok (.ireturn, 1) := by decide +kernel
theorem dX5_tube_34 : decode cX5_tube 34 = .ok (.iload_n 2, 1) := by decide +kernel
theorem dX5_tube_35 : decode cX5_tube 35 = .ok (.tableswitch 57 0 3 #[29, 36, 43, 50], 29) := by decide +kernel
theorem dX5_tube_64 : decode cX5_tube 64 = .ok (.aload_n 0, 1) := by decide +kernel
theorem dX5_tube_65 : decode cX5_tube 65 = .ok (.getfield 71, 3) := by decide +kernel
theorem dX5_tube_68 : decode cX5_tube 68 = .ok (.iload_n 1, 1) := by decide +kernel
theorem dX5_tube_69 : decode cX5_tube 69 = .ok (.iaload, 1) := by decide +kernel
theorem dX5_tube_70 : decode cX5_tube 70 = .ok (.ireturn, 1) := by decide +kernel
theorem dX5_tube_71 : decode cX5_tube 71 = .ok (.aload_n 0, 1) := by decide +kernel
theorem dX5_tube_72 : decode cX5_tube 72 = .ok (.getfield 74, 3) := by decide +kernel
theorem dX5_tube_75 : decode cX5_tube 75 = .ok (.iload_n 1, 1) := by decide +kernel
theorem dX5_tube_76 : decode cX5_tube 76 = .ok (.iaload, 1) := by decide +kernel
theorem dX5_tube_77 : decode cX5_tube 77 = .ok (.ireturn, 1) := by decide +kernel
theorem dX5_tube_78 : decode cX5_tube 78 = .ok (.aload_n 0, 1) := by decide +kernel
theorem dX5_tube_79 : decode cX5_tube 79 = .ok (.getfield 86, 3) := by decide +kernel
theorem dX5_tube_82 : decode cX5_tube 82 = .ok (.iload_n 1, 1) := by decide +kernel
theorem dX5_tube_83 : decode cX5_tube 83 = .ok (.iaload, 1) := by decide +kernel
theorem dX5_tube_84 : decode cX5_tube 84 = .ok (.ireturn, 1) := by decide +kernel
theorem dX5_tube_85 : decode cX5_tube 85 = .ok (.aload_n 0, 1) := by decide +kernel
theorem dX5_tube_86 : decode cX5_tube 86 = .ok (.getfield 89, 3) := by decide +kernel
theorem dX5_tube_89 : decode cX5_tube 89 = .ok (.iload_n 1, 1) := by decide +kernel
theorem dX5_tube_90 : decode cX5_tube 90 = .ok (.iaload, 1) := by decide +kernel
theorem dX5_tube_91 : decode cX5_tube 91 = .ok (.ireturn, 1) := by decide +kernel
theorem dX5_tube_92 : decode cX5_tube 92 = .ok (.aload_n 0, 1) := by decide +kernel
theorem dX5_tube_93 : decode cX5_tube 93 = .ok (.iload_n 1, 1) := by decide +kernel
theorem dX5_tube_94 : decode cX5_tube 94 = .ok (.aload_n 0, 1) := by decide +kernel
theorem dX5_tube_95 : decode cX5_tube 95 = .ok (.getfield 86, 3) := by decide +kernel
theorem dX5_tube_98 : decode cX5_tube 98 = .ok (.iload_n 1, 1) := by decide +kernel
theorem dX5_tube_99 : decode cX5_tube 99 = .ok (.iaload, 1) := by decide +kernel
theorem dX5_tube_100 : decode cX5_tube 100 = .ok (.invokevirtual 155, 3) := by decide +kernel
theorem dX5_tube_103 : decode cX5_tube 103 = .ok (.ireturn, 1) := by decide +kernel
set_option maxRecDepth 20000 in
theorem ggX5_device_X5_isDevice : GoodIn wsX5_device wsX5_isDevice := goodIn_r _ [16, 17, 18, 19, 15, 20, 21, 22, 23, 24, 25, 26, 27, 28, 29, 30, 31, 32, 33, 34, 35, 36, 37, 38, 39, 40, 41, 42, 43, 44, 45, 46, 47, 48, 49, 50, 51, 52, 53, 54, 55] (by decide +kernel) (by decide +kernel)
set_option maxRecDepth 20000 in
theorem gX5_device_X5_isDevice : GoodIn wsX5_device (wsV RX5 120 RX5 yX5_isDevice wsX5_isDevice) := goodIn_app (goodIn_of _ (by decide +kernel)) ggX5_device_X5_isDevice
theorem dX5_device_0 : decode cX5_device 0 = .ok (.aload_n 0, 1) := by decide +kernel
theorem dX5_device_1 : decode cX5_device 1 = .ok (.aload_n 0, 1) := by decide +kernel
theorem dX5_device_2 : decode cX5_device 2 = .ok (.iload_n 1, 1) := by decide +kernel
theorem dX5_device_3 : decode cX5_device 3 = .ok (.iload_n 2, 1) := by decide +kernel
theorem dX5_device_4 : decode cX5_device 4 = .ok (.invokevirtual 120, 3) := by decide +kernel
theorem dX5_device_7 : decode cX5_device 7 = .ok (.ifCond .eq 16, 3) := by decide +kernel
theorem dX5_device_10 : decode cX5_device 10 = .ok (.iload_n 3, 1) := by decide +kernel
theorem dX5_device_11 : decode cX5_device 11 = .ok (.ifCond .lt 12, 3) := by decide +kernel
theorem dX5_device_14 : decode cX5_device 14 = .ok (.iload_n 3, 1) := by decide +kernel
theorem dX5_device_15 : decode cX5_device 15 = .ok (.iconst 5, 1) := by decide +kernel
theorem dX5_device_16 : decode cX5_device 16 = .ok (.if_icmp .gt 7, 3) := by decide +kernel
theorem dX5_device_19 : decode cX5_device 19 = .ok (.iconst 0, 1) := by decide +kernel
theorem dX5_device_20 : decode cX5_device 20 = .ok (.goto 4, 3) := by decide +kernel
theorem dX5_device_23 : decode cX5_device 23 = .ok (.iconst 1, 1) := by decide +kernel
theorem dX5_device_24 : decode cX5_device 24 = .ok (.putfield 106, 3) := by decide +kernel
theorem dX5_device_27 : decode cX5_device 27 = .ok (.aload_n 0, 1) := by decide +kernel
theorem dX5_device_28 : decode cX5_device 28 = .ok (.getfield 106, 3) := by decide +kernel
theorem dX5_device_31 : decode cX5_device 31 = .ok (.ifCond .le 5, 3) := by decide +kernel
theorem dX5_device_34 : decode cX5_device 34 = .ok (.iconst 0, 1) := by decide +kernel
theorem dX5_device_35 : decode cX5_device 35 = .ok (.ireturn, 1) := by decide +kernel
theorem dX5_device_36 : decode cX5_device 36 = .ok (.bipush 14, 2) := by decide +kernel
theorem dX5_device_38 : decode cX5_device 38 = .ok (.iload_n 1, 1) := by decide +kernel
theorem dX5_device_39 : decode cX5_device 39 = .ok (.imul, 1) := by decide +kernel
theorem dX5_device_40 : decode cX5_device 40 = .ok (.iload_n 2, 1) := by decide +kernel
theorem dX5_device_41 : decode cX5_device 41 = .ok (.iadd, 1) := by decide +kernel
theorem dX5_device_42 : decode cX5_device 42 = .ok (.istore 4, 2) := by decide +kernel
theorem dX5_device_44 : decode cX5_device 44 = .ok (.iload_n 3, 1) := by decide +kernel
theorem dX5_device_45 : decode cX5_device 45 = .ok (.tableswitch 108 0 4 #[35, 43, 51, 59, 91], 35) := by decide +kernel
theorem dX5_device_80 : decode cX5_device 80 = .ok (.aload_n 0, 1) := by decide +kernel
theorem dX5_device_81 : decode cX5_device 81 = .ok (.getfield 16, 3) := by decide +kernel
theorem dX5_device_84 : decode cX5_device 84 = .ok (.iload 4, 2) := by decide +kernel
theorem dX5_device_86 : decode cX5_device 86 = .ok (.iaload, 1) := by decide +kernel
theorem dX5_device_87 : decode cX5_device 87 = .ok (.ireturn, 1) := by decide +kernel
theorem dX5_device_88 : decode cX5_device 88 = .ok (.aload_n 0, 1) := by decide +kernel
theorem dX5_device_89 : decode cX5_device 89 = .ok (.getfield 19, 3) := by decide +kernel
theorem dX5_device_92 : decode cX5_device 92 = .ok (.iload 4, 2) := by decide +kernel
theorem dX5_device_94 : decode cX5_device 94 = .ok (.iaload, 1) := by decide +kernel
theorem dX5_device_95 : decode cX5_device 95 = .ok (.ireturn, 1) := by decide +kernel
theorem dX5_device_96 : decode cX5_device 96 = .ok (.aload_n 0, 1) := by decide +kernel
theorem dX5_device_97 : decode cX5_device 97 = .ok (.getfield 22, 3) := by decide +kernel
theorem dX5_device_100 : decode cX5_device 100 = .ok (.iload 4, 2) := by decide +kernel
theorem dX5_device_102 : decode cX5_device 102 = .ok (.iaload, 1) := by decide +kernel
theorem dX5_device_103 : decode cX5_device 103 = .ok (.ireturn, 1) := by decide +kernel
theorem dX5_device_104 : decode cX5_device 104 = .ok (.aload_n 0, 1) := by decide +kernel
theorem dX5_device_105 : decode cX5_device 105 = .ok (.getfield 25, 3) := by decide +kernel
theorem dX5_device_108 : decode cX5_device 108 = .ok (.iload 4, 2) := by decide +kernel
theorem dX5_device_110 : decode cX5_device 110 = .ok (.baload, 1) := by decide +kernel
theorem dX5_device_111 : decode cX5_device 111 = .ok (.ifCond .eq 7, 3) := by decide +kernel
theorem dX5_device_114 : decode cX5_device 114 = .ok (.iconst 1, 1) := by decide +kernel
theorem dX5_device_115 : decode cX5_device 115 = .ok (.goto 4, 3) := by decide +kernel
theorem dX5_device_118 : decode cX5_device 118 = .ok (.iconst 0, 1) := by decide +kernel
theorem dX5_device_119 : decode cX5_device 119 = .ok (.aload_n 0, 1) := by decide +kernel
theorem dX5_device_120 : decode cX5_device 120 = .ok (.getfield 29, 3) := by decide +kernel
theorem dX5_device_123 : decode cX5_device 123 = .ok (.iload 4, 2) := by decide +kernel
theorem dX5_device_125 : decode cX5_device 125 = .ok (.baload, 1) := by decide +kernel
theorem dX5_device_126 : decode cX5_device 126 = .ok (.ifCond .eq 7, 3) := by decide +kernel
theorem dX5_device_129 : decode cX5_device 129 = .ok (.iconst 2, 1) := by decide +kernel
theorem dX5_device_130 : decode cX5_device 130 = .ok (.goto 4, 3) := by decide +kernel
theorem dX5_device_133 : decode cX5_device 133 = .ok (.iconst 0, 1) := by decide +kernel
theorem dX5_device_134 : decode cX5_device 134 = .ok (.iadd, 1) := by decide +kernel
theorem dX5_device_135 : decode cX5_device 135 = .ok (.ireturn, 1) := by decide +kernel
theorem dX5_device_136 : decode cX5_device 136 = .ok (.iload_n 2, 1) := by decide +kernel
theorem dX5_device_137 : decode cX5_device 137 = .ok (.iconst 2, 1) := by decide +kernel
theorem dX5_device_138 : decode cX5_device 138 = .ok (.if_icmp .ge 7, 3) := by decide +kernel
theorem dX5_device_141 : decode cX5_device 141 = .ok (.iconst (-1), 1) := by decide +kernel
theorem dX5_device_142 : decode cX5_device 142 = .ok (.goto 10, 3) := by decide +kernel
theorem dX5_device_145 : decode cX5_device 145 = .ok (.aload_n 0, 1) := by decide +kernel
theorem dX5_device_146 : decode cX5_device 146 = .ok (.getfield 35, 3) := by decide +kernel
theorem dX5_device_149 : decode cX5_device 149 = .ok (.iload 4, 2) := by decide +kernel
theorem dX5_device_151 : decode cX5_device 151 = .ok (.iaload, 1) := by decide +kernel
theorem dX5_device_152 : decode cX5_device 152 = .ok (.ireturn, 1) := by decide +kernel
theorem dX5_device_153 : decode cX5_device 153 = .ok (.iload_n 2, 1) := by decide +kernel
theorem dX5_device_154 : decode cX5_device 154 = .ok (.iconst 2, 1) := by decide +kernel
theorem dX5_device_155 : decode cX5_device 155 = .ok (.if_icmp .lt 13, 3) := by decide +kernel
theorem dX5_device_158 : decode cX5_device 158 = .ok (.aload_n 0, 1) := by decide +kernel
theorem dX5_device_159 : decode cX5_device 159 = .ok (.getfield 38, 3) := by decide +kernel
theorem dX5_device_162 : decode cX5_device 162 = .ok (.iload 4, 2) := by decide +kernel
theorem dX5_device_164 : decode cX5_device 164 = .ok (.iaload, 1) := by decide +kernel
theorem dX5_device_165 : decode cX5_device 165 = .ok (.ifCond .ne 14, 3) := by decide +kernel
theorem dX5_device_168 : decode cX5_device 168 = .ok (.iload_n 2, 1) := by decide +kernel
theorem dX5_device_169 : decode cX5_device 169 = .ok (.iconst 2, 1) := by decide +kernel
theorem dX5_device_170 : decode cX5_device 170 = .ok (.if_icmp .ge 7, 3) := by decide +kernel
theorem dX5_device_173 : decode cX5_device 173 = .ok (.iconst (-1), 1) := by decide +kernel
theorem dX5_device_174 : decode cX5_device 174 = .ok (.goto 4, 3) := by decide +kernel
theorem dX5_device_177 : decode cX5_device 177 = .ok (.iconst 0, 1) := by decide +kernel
theorem dX5_device_178 : decode cX5_device 178 = .ok (.ireturn, 1) := by decide +kernel
theorem dX5_device_179 : decode cX5_device 179 = .ok (.aload_n 0, 1) := by decide +kernel
theorem dX5_device_180 : decode cX5_device 180 = .ok (.getfield 16, 3) := by decide +kernel
theorem dX5_device_183 : decode cX5_device 183 = .ok (.iload 4, 2) := by decide +kernel
theorem dX5_device_185 : decode cX5_device 185 = .ok (.iaload, 1) := by decide +kernel
theorem dX5_device_186 : decode cX5_device 186 = .ok (.ifCond .eq 10, 3) := by decide +kernel
theorem dX5_device_189 : decode cX5_device 189 = .ok (.aload_n 0, 1) := by decide +kernel
theorem dX5_device_190 : decode cX5_device 190 = .ok (.getfield 99, 3) := by decide +kernel
theorem dX5_device_193 : decode cX5_device 193 = .ok (.goto 20, 3) := by decide +kernel
theorem dX5_device_196 : decode cX5_device 196 = .ok (.aload_n 0, 1) := by decide +kernel
theorem dX5_device_197 : decode cX5_device 197 = .ok (.getfield 41, 3) := by decide +kernel
theorem dX5_device_200 : decode cX5_device 200 = .ok (.iload 4, 2) := by decide +kernel
theorem dX5_device_202 : decode cX5_device 202 = .ok (.iaload, 1) := by decide +kernel
theorem dX5_device_203 : decode cX5_device 203 = .ok (.aload_n 0, 1) := by decide +kernel
theorem dX5_device_204 : decode cX5_device 204 = .ok (.getfield 99, 3) := by decide +kernel
theorem dX5_device_207 : decode cX5_device 207 = .ok (.iadd, 1) := by decide +kernel
theorem dX5_device_208 : decode cX5_device 208 = .ok (.aload_n 0, 1) := by decide +kernel
theorem dX5_device_209 : decode cX5_device 209 = .ok (.getfield 113, 3) := by decide +kernel
theorem dX5_device_212 : decode cX5_device 212 = .ok (.isub, 1) := by decide +kernel
theorem dX5_device_213 : decode cX5_device 213 = .ok (.istore 5, 2) := by decide +kernel
theorem dX5_device_215 : decode cX5_device 215 = .ok (.iload 5, 2) := by decide +kernel
theorem dX5_device_217 : decode cX5_device 217 = .ok (.ifCond .ge 7, 3) := by decide +kernel
theorem dX5_device_220 : decode cX5_device 220 = .ok (.iconst 0, 1) := by decide +kernel
theorem dX5_device_221 : decode cX5_device 221 = .ok (.goto 5, 3) := by decide +kernel
theorem dX5_device_224 : decode cX5_device 224 = .ok (.iload 5, 2) := by decide +kernel
theorem dX5_device_226 : decode cX5_device 226 = .ok (.ireturn, 1) := by decide +kernel
set_option maxRecDepth 20000 in
theorem ggX5_load_X5_loadOf : GoodIn wsX5_load wsX5_loadOf := goodIn_r _ [6, 7, 8, 9, 10, 11, 12, 13, 14, 15, 16, 17, 18, 19, 20, 21, 22, 23, 24, 25, 26, 27, 28, 29, 30, 31, 32, 33, 34, 35, 36, 37, 38, 39, 40, 41, 42, 43, 44, 45] (by decide +kernel) (by decide +kernel)
set_option maxRecDepth 20000 in
theorem gX5_load_X5_loadOf : GoodIn wsX5_load (wsV RX5 162 RX5 yX5_loadOf wsX5_loadOf) := goodIn_app (goodIn_of _ (by decide +kernel)) ggX5_load_X5_loadOf
theorem dX5_load_0 : decode cX5_load 0 = .ok (.aload_n 0, 1) := by decide +kernel
theorem dX5_load_1 : decode cX5_load 1 = .ok (.iconst 0, 1) := by decide +kernel
theorem dX5_load_2 : decode cX5_load 2 = .ok (.putfield 106, 3) := by decide +kernel
theorem dX5_load_5 : decode cX5_load 5 = .ok (.aload_n 0, 1) := by decide +kernel
theorem dX5_load_6 : decode cX5_load 6 = .ok (.invokevirtual 162, 3) := by decide +kernel
theorem dX5_load_9 : decode cX5_load 9 = .ok (.ireturn, 1) := by decide +kernel
set_option maxRecDepth 20000 in
theorem ggX5_starts_X5_startsOf : GoodIn wsX5_starts wsX5_startsOf := goodIn_r _ [6, 7, 8, 9, 10, 11, 12, 13, 14, 15, 16, 17, 18, 19, 20, 21, 22, 23, 24, 25, 26, 27, 28, 29, 30, 31, 32, 33, 34, 35, 36, 37, 38, 39, 40, 41, 42, 43] (by decide +kernel) (by decide +kernel)
set_option maxRecDepth 20000 in
theorem gX5_starts_X5_startsOf : GoodIn wsX5_starts (wsV RX5 169 RX5 yX5_startsOf wsX5_startsOf) := goodIn_app (goodIn_of _ (by decide +kernel)) ggX5_starts_X5_startsOf
theorem dX5_starts_0 : decode cX5_starts 0 = .ok (.aload_n 0, 1) := by decide +kernel
theorem dX5_starts_1 : decode cX5_starts 1 = .ok (.iconst 0, 1) := by decide +kernel
theorem dX5_starts_2 : decode cX5_starts 2 = .ok (.putfield 106, 3) := by decide +kernel
theorem dX5_starts_5 : decode cX5_starts 5 = .ok (.aload_n 0, 1) := by decide +kernel
theorem dX5_starts_6 : decode cX5_starts 6 = .ok (.invokevirtual 169, 3) := by decide +kernel
theorem dX5_starts_9 : decode cX5_starts 9 = .ok (.ireturn, 1) := by decide +kernel
theorem dX5_broken_0 : decode cX5_broken 0 = .ok (.aload_n 0, 1) := by decide +kernel
theorem dX5_broken_1 : decode cX5_broken 1 = .ok (.iconst 0, 1) := by decide +kernel
theorem dX5_broken_2 : decode cX5_broken 2 = .ok (.putfield 106, 3) := by decide +kernel
theorem dX5_broken_5 : decode cX5_broken 5 = .ok (.aload_n 0, 1) := by decide +kernel
theorem dX5_broken_6 : decode cX5_broken 6 = .ok (.getfield 172, 3) := by decide +kernel
theorem dX5_broken_9 : decode cX5_broken 9 = .ok (.ireturn, 1) := by decide +kernel
