def wsX1_init : List Cond := .code yX1_init cX1_init 1 none :: ([.instanceMethod yX0_init, .initialized RX0, .code yX0_init cX0_init 1 none, .methodLink RX0 1 objectInit, .instanceMethod objectInit, .code objectInit ⟨#[0xb1]⟩ 1 none, .fieldLink RX0 7 "TunnelWatch$Device" "lagTicks" "I"] ++ wsX00 ++ wsX10)
def wsX1_blow : List Cond := .code yX1_blow cX1_blow 3 none :: ([.fieldLink RX1 15 "TunnelWatch$Fan" "lastDirection" "I", .methodLink RX1 9 ⟨"TunnelWatch$Fan", "send", "(II)V"⟩, .sameMethod "TunnelWatch$Fan" "TunnelWatch$Device" "send" "(II)V", .selects RX1 ⟨"TunnelWatch$Fan", "send", "(II)V"⟩ yX0_send, .instanceMethod yX0_send, .initialized RX0, .code yX0_send cX0_send 3 none, .fieldLink RX0 13 "TunnelWatch$Device" "command" "I", .fieldLink RX0 16 "TunnelWatch$Device" "sentTick" "I"] ++ wsX10 ++ wsX00)
def wsX1_stand : List Cond := .code yX1_stand cX1_stand 2 none :: ([.methodLink RX1 9 ⟨"TunnelWatch$Fan", "send", "(II)V"⟩, .sameMethod "TunnelWatch$Fan" "TunnelWatch$Device" "send" "(II)V", .selects RX1 ⟨"TunnelWatch$Fan", "send", "(II)V"⟩ yX0_send, .instanceMethod yX0_send, .initialized RX0, .code yX0_send cX0_send 3 none, .fieldLink RX0 13 "TunnelWatch$Device" "command" "I", .fieldLink RX0 16 "TunnelWatch$Device" "sentTick" "I"] ++ wsX00 ++ wsX10)
def wsX1_judgeOut : List Cond := .code yX1_judgeOut cX1_judgeOut 2 none :: ([.fieldLink RX1 19 "TunnelWatch$Fan" "actual" "I", .sameField "TunnelWatch$Fan" "TunnelWatch$Device" "actual" "I", .fieldLink RX1 22 "TunnelWatch$Fan" "command" "I", .sameField "TunnelWatch$Fan" "TunnelWatch$Device" "command" "I", .fieldLink RX1 25 "TunnelWatch$Fan" "sentTick" "I", .sameField "TunnelWatch$Fan" "TunnelWatch$Device" "sentTick" "I", .fieldLink RX1 28 "TunnelWatch$Fan" "out" "Z", .sameField "TunnelWatch$Fan" "TunnelWatch$Device" "out" "Z", .methodLink RX1 32 yX1_stand, .instanceMethod yX1_stand, .selects RX1 yX1_stand yX1_stand, .initialized RX1, .code yX1_stand cX1_stand 2 none, .methodLink RX1 9 ⟨"TunnelWatch$Fan", "send", "(II)V"⟩, .sameMethod "TunnelWatch$Fan" "TunnelWatch$Device" "send" "(II)V", .selects RX1 ⟨"TunnelWatch$Fan", "send", "(II)V"⟩ yX0_send, .instanceMethod yX0_send, .initialized RX0, .code yX0_send cX0_send 3 none, .fieldLink RX0 13 "TunnelWatch$Device" "command" "I", .fieldLink RX0 16 "TunnelWatch$Device" "sentTick" "I"] ++ wsX00 ++ wsX10)
def wsX1_drawnKw : List Cond := .code yX1_drawnKw cX1_drawnKw 2 (some .int) :: ([.fieldLink RX1 22 "TunnelWatch$Fan" "command" "I", .sameField "TunnelWatch$Fan" "TunnelWatch$Device" "command" "I", .fieldLink RX1 25 "TunnelWatch$Fan" "sentTick" "I", .sameField "TunnelWatch$Fan" "TunnelWatch$Device" "sentTick" "I", .fieldLink RX1 36 "TunnelWatch$Fan" "kw" "I"] ++ wsX00 ++ wsX10)
def wsX1_restLeft : List Cond := .code yX1_restLeft cX1_restLeft 4 (some .int) :: ([.fieldLink RX1 15 "TunnelWatch$Fan" "lastDirection" "I", .fieldLink RX1 22 "TunnelWatch$Fan" "command" "I", .sameField "TunnelWatch$Fan" "TunnelWatch$Device" "command" "I", .fieldLink RX1 25 "TunnelWatch$Fan" "sentTick" "I", .sameField "TunnelWatch$Fan" "TunnelWatch$Device" "sentTick" "I"] ++ wsX10 ++ wsX00)
def wsX1_hasRested : List Cond := .code yX1_hasRested cX1_hasRested 4 (some .boolean) :: ([.fieldLink RX1 15 "TunnelWatch$Fan" "lastDirection" "I", .methodLink RX1 39 yX1_restLeft, .instanceMethod yX1_restLeft, .selects RX1 yX1_restLeft yX1_restLeft, .initialized RX1, .code yX1_restLeft cX1_restLeft 4 (some .int), .fieldLink RX1 22 "TunnelWatch$Fan" "command" "I", .sameField "TunnelWatch$Fan" "TunnelWatch$Device" "command" "I", .fieldLink RX1 25 "TunnelWatch$Fan" "sentTick" "I", .sameField "TunnelWatch$Fan" "TunnelWatch$Device" "sentTick" "I"] ++ wsX10 ++ wsX00)
set_option maxRecDepth 20000 in
theorem ggX1_init_X0_init : GoodIn wsX1_init wsX0_init := goodIn_r _ [3, 4, 5, 6, 7, 8, 9, 10, 11, 12, 13, 14, 15, 16, 17, 18, 19, 20, 21, 22] (by decide +kernel) (by decide +kernel)
set_option maxRecDepth 20000 in
theorem gX1_init_X0_init_n3 : GoodIn wsX1_init (wsX0_init) := ggX1_init_X0_init
theorem dX1_init_0 : decode cX1_init 0 = .ok (.aload_n 0, 1) := by decide +kernel
theorem dX1_init_1 : decode cX1_init 1 = .ok (.invokespecial 3, 3) := by decide +kernel
theorem dX1_init_4 : decode cX1_init 4 = .ok (.return_, 1) := by decide +kernel
set_option maxRecDepth 20000 in
theorem ggX1_blow_X0_send : GoodIn wsX1_blow wsX0_send := goodIn_r _ [7, 8, 9, 19, 20, 21, 22, 23, 24, 10, 11, 12, 13, 14, 15, 16, 17, 18] (by decide +kernel) (by decide +kernel)
set_option maxRecDepth 20000 in
theorem gX1_blow_X0_send_u9X1 : GoodIn wsX1_blow (va_wsU RX1 9 RX1 "TunnelWatch$Device" ⟨"TunnelWatch$Fan", "send", "(II)V"⟩ yX0_send wsX0_send) := goodIn_app (goodIn_of _ (by decide +kernel)) ggX1_blow_X0_send
theorem dX1_blow_0 : decode cX1_blow 0 = .ok (.aload_n 0, 1) := by decide +kernel
theorem dX1_blow_1 : decode cX1_blow 1 = .ok (.iload_n 1, 1) := by decide +kernel
theorem dX1_blow_2 : decode cX1_blow 2 = .ok (.iload_n 2, 1) := by decide +kernel
theorem dX1_blow_3 : decode cX1_blow 3 = .ok (.invokevirtual 9, 3) := by decide +kernel
theorem dX1_blow_6 : decode cX1_blow 6 = .ok (.aload_n 0, 1) := by decide +kernel
theorem dX1_blow_7 : decode cX1_blow 7 = .ok (.iload_n 1, 1) := by decide +kernel
theorem dX1_blow_8 : decode cX1_blow 8 = .ok (.putfield 15, 3) := by decide +kernel
theorem dX1_blow_11 : decode cX1_blow 11 = .ok (.return_, 1) := by decide +kernel
set_option maxRecDepth 20000 in
theorem ggX1_stand_X0_send : GoodIn wsX1_stand wsX0_send := goodIn_r _ [6, 7, 8, 9, 10, 11, 12, 13, 14, 15, 16, 17, 18, 19, 20, 21, 22, 23] (by decide +kernel) (by decide +kernel)
set_option maxRecDepth 20000 in
theorem gX1_stand_X0_send_u9X1 : GoodIn wsX1_stand (va_wsU RX1 9 RX1 "TunnelWatch$Device" ⟨"TunnelWatch$Fan", "send", "(II)V"⟩ yX0_send wsX0_send) := goodIn_app (goodIn_of _ (by decide +kernel)) ggX1_stand_X0_send
theorem dX1_stand_0 : decode cX1_stand 0 = .ok (.aload_n 0, 1) := by decide +kernel
theorem dX1_stand_1 : decode cX1_stand 1 = .ok (.iconst 0, 1) := by decide +kernel
theorem dX1_stand_2 : decode cX1_stand 2 = .ok (.iload_n 1, 1) := by decide +kernel
theorem dX1_stand_3 : decode cX1_stand 3 = .ok (.invokevirtual 9, 3) := by decide +kernel
theorem dX1_stand_6 : decode cX1_stand 6 = .ok (.return_, 1) := by decide +kernel
set_option maxRecDepth 20000 in
theorem ggX1_judgeOut_X1_stand : GoodIn wsX1_judgeOut wsX1_stand := goodIn_r _ [13, 14, 15, 16, 17, 18, 19, 20, 21, 22, 23, 24, 25, 26, 27, 28, 29, 30, 31, 32, 33, 34, 35, 36] (by decide +kernel) (by decide +kernel)
set_option maxRecDepth 20000 in
theorem gX1_judgeOut_X1_stand : GoodIn wsX1_judgeOut (wsV RX1 32 RX1 yX1_stand wsX1_stand) := goodIn_app (goodIn_of _ (by decide +kernel)) ggX1_judgeOut_X1_stand
theorem dX1_judgeOut_0 : decode cX1_judgeOut 0 = .ok (.aload_n 0, 1) := by decide +kernel
theorem dX1_judgeOut_1 : decode cX1_judgeOut 1 = .ok (.getfield 19, 3) := by decide +kernel
theorem dX1_judgeOut_4 : decode cX1_judgeOut 4 = .ok (.aload_n 0, 1) := by decide +kernel
theorem dX1_judgeOut_5 : decode cX1_judgeOut 5 = .ok (.getfield 22, 3) := by decide +kernel
theorem dX1_judgeOut_8 : decode cX1_judgeOut 8 = .ok (.if_icmp .eq 24, 3) := by decide +kernel
theorem dX1_judgeOut_11 : decode cX1_judgeOut 11 = .ok (.iload_n 1, 1) := by decide +kernel
theorem dX1_judgeOut_12 : decode cX1_judgeOut 12 = .ok (.aload_n 0, 1) := by decide +kernel
theorem dX1_judgeOut_13 : decode cX1_judgeOut 13 = .ok (.getfield 25, 3) := by decide +kernel
theorem dX1_judgeOut_16 : decode cX1_judgeOut 16 = .ok (.isub, 1) := by decide +kernel
theorem dX1_judgeOut_17 : decode cX1_judgeOut 17 = .ok (.bipush 10, 2) := by decide +kernel
theorem dX1_judgeOut_19 : decode cX1_judgeOut 19 = .ok (.if_icmp .lt 13, 3) := by decide +kernel
theorem dX1_judgeOut_22 : decode cX1_judgeOut 22 = .ok (.aload_n 0, 1) := by decide +kernel
theorem dX1_judgeOut_23 : decode cX1_judgeOut 23 = .ok (.iconst 1, 1) := by decide +kernel
theorem dX1_judgeOut_24 : decode cX1_judgeOut 24 = .ok (.putfield 28, 3) := by decide +kernel
theorem dX1_judgeOut_27 : decode cX1_judgeOut 27 = .ok (.aload_n 0, 1) := by decide +kernel
theorem dX1_judgeOut_28 : decode cX1_judgeOut 28 = .ok (.iload_n 1, 1) := by decide +kernel
theorem dX1_judgeOut_29 : decode cX1_judgeOut 29 = .ok (.invokevirtual 32, 3) := by decide +kernel
theorem dX1_judgeOut_32 : decode cX1_judgeOut 32 = .ok (.return_, 1) := by decide +kernel
theorem dX1_drawnKw_0 : decode cX1_drawnKw 0 = .ok (.aload_n 0, 1) := by decide +kernel
theorem dX1_drawnKw_1 : decode cX1_drawnKw 1 = .ok (.getfield 22, 3) := by decide +kernel
theorem dX1_drawnKw_4 : decode cX1_drawnKw 4 = .ok (.ifCond .ne 5, 3) := by decide +kernel
theorem dX1_drawnKw_7 : decode cX1_drawnKw 7 = .ok (.iconst 0, 1) := by decide +kernel
theorem dX1_drawnKw_8 : decode cX1_drawnKw 8 = .ok (.ireturn, 1) := by decide +kernel
theorem dX1_drawnKw_9 : decode cX1_drawnKw 9 = .ok (.iload_n 1, 1) := by decide +kernel
theorem dX1_drawnKw_10 : decode cX1_drawnKw 10 = .ok (.aload_n 0, 1) := by decide +kernel
theorem dX1_drawnKw_11 : decode cX1_drawnKw 11 = .ok (.getfield 25, 3) := by decide +kernel
theorem dX1_drawnKw_14 : decode cX1_drawnKw 14 = .ok (.isub, 1) := by decide +kernel
theorem dX1_drawnKw_15 : decode cX1_drawnKw 15 = .ok (.bipush 10, 2) := by decide +kernel
theorem dX1_drawnKw_17 : decode cX1_drawnKw 17 = .ok (.if_icmp .ge 12, 3) := by decide +kernel
theorem dX1_drawnKw_20 : decode cX1_drawnKw 20 = .ok (.iconst 3, 1) := by decide +kernel
theorem dX1_drawnKw_21 : decode cX1_drawnKw 21 = .ok (.aload_n 0, 1) := by decide +kernel
theorem dX1_drawnKw_22 : decode cX1_drawnKw 22 = .ok (.getfield 36, 3) := by decide +kernel
theorem dX1_drawnKw_25 : decode cX1_drawnKw 25 = .ok (.imul, 1) := by decide +kernel
theorem dX1_drawnKw_26 : decode cX1_drawnKw 26 = .ok (.goto 7, 3) := by decide +kernel
theorem dX1_drawnKw_29 : decode cX1_drawnKw 29 = .ok (.aload_n 0, 1) := by decide +kernel
theorem dX1_drawnKw_30 : decode cX1_drawnKw 30 = .ok (.getfield 36, 3) := by decide +kernel
theorem dX1_drawnKw_33 : decode cX1_drawnKw 33 = .ok (.ireturn, 1) := by decide +kernel
theorem dX1_restLeft_0 : decode cX1_restLeft 0 = .ok (.aload_n 0, 1) := by decide +kernel
theorem dX1_restLeft_1 : decode cX1_restLeft 1 = .ok (.getfield 15, 3) := by decide +kernel
theorem dX1_restLeft_4 : decode cX1_restLeft 4 = .ok (.ifCond .ne 5, 3) := by decide +kernel
theorem dX1_restLeft_7 : decode cX1_restLeft 7 = .ok (.iconst 0, 1) := by decide +kernel
theorem dX1_restLeft_8 : decode cX1_restLeft 8 = .ok (.ireturn, 1) := by decide +kernel
theorem dX1_restLeft_9 : decode cX1_restLeft 9 = .ok (.aload_n 0, 1) := by decide +kernel
theorem dX1_restLeft_10 : decode cX1_restLeft 10 = .ok (.getfield 22, 3) := by decide +kernel
theorem dX1_restLeft_13 : decode cX1_restLeft 13 = .ok (.ifCond .eq 5, 3) := by decide +kernel
theorem dX1_restLeft_16 : decode cX1_restLeft 16 = .ok (.iload_n 1, 1) := by decide +kernel
theorem dX1_restLeft_17 : decode cX1_restLeft 17 = .ok (.ireturn, 1) := by decide +kernel
theorem dX1_restLeft_18 : decode cX1_restLeft 18 = .ok (.iload_n 1, 1) := by decide +kernel
theorem dX1_restLeft_19 : decode cX1_restLeft 19 = .ok (.iload_n 2, 1) := by decide +kernel
theorem dX1_restLeft_20 : decode cX1_restLeft 20 = .ok (.aload_n 0, 1) := by decide +kernel
theorem dX1_restLeft_21 : decode cX1_restLeft 21 = .ok (.getfield 25, 3) := by decide +kernel
theorem dX1_restLeft_24 : decode cX1_restLeft 24 = .ok (.isub, 1) := by decide +kernel
theorem dX1_restLeft_25 : decode cX1_restLeft 25 = .ok (.isub, 1) := by decide +kernel
theorem dX1_restLeft_26 : decode cX1_restLeft 26 = .ok (.istore_n 3, 1) := by decide +kernel
theorem dX1_restLeft_27 : decode cX1_restLeft 27 = .ok (.iload_n 3, 1) := by decide +kernel
theorem dX1_restLeft_28 : decode cX1_restLeft 28 = .ok (.ifCond .le 7, 3) := by decide +kernel
theorem dX1_restLeft_31 : decode cX1_restLeft 31 = .ok (.iload_n 3, 1) := by decide +kernel
theorem dX1_restLeft_32 : decode cX1_restLeft 32 = .ok (.goto 4, 3) := by decide +kernel
theorem dX1_restLeft_35 : decode cX1_restLeft 35 = .ok (.iconst 0, 1) := by decide +kernel
theorem dX1_restLeft_36 : decode cX1_restLeft 36 = .ok (.ireturn, 1) := by decide +kernel
set_option maxRecDepth 20000 in
theorem ggX1_hasRested_X1_restLeft : GoodIn wsX1_hasRested wsX1_restLeft := goodIn_r _ [6, 1, 7, 8, 9, 10, 11, 12, 13, 14, 15, 16, 17, 18, 19, 20, 21, 22, 23, 24, 25] (by decide +kernel) (by decide +kernel)
set_option maxRecDepth 20000 in
theorem gX1_hasRested_X1_restLeft : GoodIn wsX1_hasRested (wsV RX1 39 RX1 yX1_restLeft wsX1_restLeft) := goodIn_app (goodIn_of _ (by decide +kernel)) ggX1_hasRested_X1_restLeft
theorem dX1_hasRested_0 : decode cX1_hasRested 0 = .ok (.aload_n 0, 1) := by decide +kernel
theorem dX1_hasRested_1 : decode cX1_hasRested 1 = .ok (.getfield 15, 3) := by decide +kernel
theorem dX1_hasRested_4 : decode cX1_hasRested 4 = .ok (.iload_n 1, 1) := by decide +kernel
theorem dX1_hasRested_5 : decode cX1_hasRested 5 = .ok (.if_icmp .eq 12, 3) := by decide +kernel
theorem dX1_hasRested_8 : decode cX1_hasRested 8 = .ok (.aload_n 0, 1) := by decide +kernel
theorem dX1_hasRested_9 : decode cX1_hasRested 9 = .ok (.iload_n 2, 1) := by decide +kernel
theorem dX1_hasRested_10 : decode cX1_hasRested 10 = .ok (.iload_n 3, 1) := by decide +kernel
theorem dX1_hasRested_11 : decode cX1_hasRested 11 = .ok (.invokevirtual 39, 3) := by decide +kernel
theorem dX1_hasRested_14 : decode cX1_hasRested 14 = .ok (.ifCond .ne 7, 3) := by decide +kernel
theorem dX1_hasRested_17 : decode cX1_hasRested 17 = .ok (.iconst 1, 1) := by decide +kernel
theorem dX1_hasRested_18 : decode cX1_hasRested 18 = .ok (.goto 4, 3) := by decide +kernel
theorem dX1_hasRested_21 : decode cX1_hasRested 21 = .ok (.iconst 0, 1) := by decide +kernel
theorem dX1_hasRested_22 : decode cX1_hasRested 22 = .ok (.ireturn, 1) := by decide +kernel
