def wsX0_init : List Cond := .code yX0_init cX0_init 1 none :: ([.methodLink RX0 1 objectInit, .instanceMethod objectInit, .code objectInit ⟨#[0xb1]⟩ 1 none, .fieldLink RX0 7 "TunnelWatch$Device" "lagTicks" "I"] ++ wsX00 ++ wsX10)
def wsX0_send : List Cond := .code yX0_send cX0_send 3 none :: ([.fieldLink RX0 13 "TunnelWatch$Device" "command" "I", .fieldLink RX0 16 "TunnelWatch$Device" "sentTick" "I"] ++ wsX00 ++ wsX10)
def wsX0_act : List Cond := .code yX0_act cX0_act 2 none :: ([.fieldLink RX0 19 "TunnelWatch$Device" "failed" "Z", .fieldLink RX0 16 "TunnelWatch$Device" "sentTick" "I", .fieldLink RX0 7 "TunnelWatch$Device" "lagTicks" "I", .fieldLink RX0 13 "TunnelWatch$Device" "command" "I", .fieldLink RX0 23 "TunnelWatch$Device" "actual" "I"] ++ wsX00 ++ wsX10)
def wsX0_repair : List Cond := .code yX0_repair cX0_repair 2 (some .boolean) :: ([.fieldLink RX0 19 "TunnelWatch$Device" "failed" "Z", .fieldLink RX0 26 "TunnelWatch$Device" "out" "Z", .fieldLink RX0 13 "TunnelWatch$Device" "command" "I", .fieldLink RX0 23 "TunnelWatch$Device" "actual" "I"] ++ wsX00 ++ wsX10)
theorem dX0_init_0 : decode cX0_init 0 = .ok (.aload_n 0, 1) := by decide +kernel
theorem dX0_init_1 : decode cX0_init 1 = .ok (.invokespecial 1, 3) := by decide +kernel
theorem dX0_init_4 : decode cX0_init 4 = .ok (.aload_n 0, 1) := by decide +kernel
theorem dX0_init_5 : decode cX0_init 5 = .ok (.iconst 1, 1) := by decide +kernel
theorem dX0_init_6 : decode cX0_init 6 = .ok (.putfield 7, 3) := by decide +kernel
theorem dX0_init_9 : decode cX0_init 9 = .ok (.return_, 1) := by decide +kernel
theorem dX0_send_0 : decode cX0_send 0 = .ok (.aload_n 0, 1) := by decide +kernel
theorem dX0_send_1 : decode cX0_send 1 = .ok (.getfield 13, 3) := by decide +kernel
theorem dX0_send_4 : decode cX0_send 4 = .ok (.iload_n 1, 1) := by decide +kernel
theorem dX0_send_5 : decode cX0_send 5 = .ok (.if_icmp .eq 13, 3) := by decide +kernel
theorem dX0_send_8 : decode cX0_send 8 = .ok (.aload_n 0, 1) := by decide +kernel
theorem dX0_send_9 : decode cX0_send 9 = .ok (.iload_n 1, 1) := by decide +kernel
theorem dX0_send_10 : decode cX0_send 10 = .ok (.putfield 13, 3) := by decide +kernel
theorem dX0_send_13 : decode cX0_send 13 = .ok (.aload_n 0, 1) := by decide +kernel
theorem dX0_send_14 : decode cX0_send 14 = .ok (.iload_n 2, 1) := by decide +kernel
theorem dX0_send_15 : decode cX0_send 15 = .ok (.putfield 16, 3) := by decide +kernel
theorem dX0_send_18 : decode cX0_send 18 = .ok (.return_, 1) := by decide +kernel
theorem dX0_act_0 : decode cX0_act 0 = .ok (.aload_n 0, 1) := by decide +kernel
theorem dX0_act_1 : decode cX0_act 1 = .ok (.getfield 19, 3) := by decide +kernel
theorem dX0_act_4 : decode cX0_act 4 = .ok (.ifCond .ne 24, 3) := by decide +kernel
theorem dX0_act_7 : decode cX0_act 7 = .ok (.iload_n 1, 1) := by decide +kernel
theorem dX0_act_8 : decode cX0_act 8 = .ok (.aload_n 0, 1) := by decide +kernel
theorem dX0_act_9 : decode cX0_act 9 = .ok (.getfield 16, 3) := by decide +kernel
theorem dX0_act_12 : decode cX0_act 12 = .ok (.isub, 1) := by decide +kernel
theorem dX0_act_13 : decode cX0_act 13 = .ok (.aload_n 0, 1) := by decide +kernel
theorem dX0_act_14 : decode cX0_act 14 = .ok (.getfield 7, 3) := by decide +kernel
theorem dX0_act_17 : decode cX0_act 17 = .ok (.if_icmp .lt 11, 3) := by decide +kernel
theorem dX0_act_20 : decode cX0_act 20 = .ok (.aload_n 0, 1) := by decide +kernel
theorem dX0_act_21 : decode cX0_act 21 = .ok (.aload_n 0, 1) := by decide +kernel
theorem dX0_act_22 : decode cX0_act 22 = .ok (.getfield 13, 3) := by decide +kernel
theorem dX0_act_25 : decode cX0_act 25 = .ok (.putfield 23, 3) := by decide +kernel
theorem dX0_act_28 : decode cX0_act 28 = .ok (.return_, 1) := by decide +kernel
theorem dX0_repair_0 : decode cX0_repair 0 = .ok (.aload_n 0, 1) := by decide +kernel
theorem dX0_repair_1 : decode cX0_repair 1 = .ok (.getfield 19, 3) := by decide +kernel
theorem dX0_repair_4 : decode cX0_repair 4 = .ok (.ifCond .ne 10, 3) := by decide +kernel
theorem dX0_repair_7 : decode cX0_repair 7 = .ok (.aload_n 0, 1) := by decide +kernel
theorem dX0_repair_8 : decode cX0_repair 8 = .ok (.getfield 26, 3) := by decide +kernel
theorem dX0_repair_11 : decode cX0_repair 11 = .ok (.ifCond .eq 7, 3) := by decide +kernel
theorem dX0_repair_14 : decode cX0_repair 14 = .ok (.iconst 1, 1) := by decide +kernel
theorem dX0_repair_15 : decode cX0_repair 15 = .ok (.goto 4, 3) := by decide +kernel
theorem dX0_repair_18 : decode cX0_repair 18 = .ok (.iconst 0, 1) := by decide +kernel
theorem dX0_repair_19 : decode cX0_repair 19 = .ok (.istore_n 1, 1) := by decide +kernel
theorem dX0_repair_20 : decode cX0_repair 20 = .ok (.aload_n 0, 1) := by decide +kernel
theorem dX0_repair_21 : decode cX0_repair 21 = .ok (.iconst 0, 1) := by decide +kernel
theorem dX0_repair_22 : decode cX0_repair 22 = .ok (.putfield 19, 3) := by decide +kernel
theorem dX0_repair_25 : decode cX0_repair 25 = .ok (.aload_n 0, 1) := by decide +kernel
theorem dX0_repair_26 : decode cX0_repair 26 = .ok (.iconst 0, 1) := by decide +kernel
theorem dX0_repair_27 : decode cX0_repair 27 = .ok (.putfield 26, 3) := by decide +kernel
theorem dX0_repair_30 : decode cX0_repair 30 = .ok (.aload_n 0, 1) := by decide +kernel
theorem dX0_repair_31 : decode cX0_repair 31 = .ok (.aload_n 0, 1) := by decide +kernel
theorem dX0_repair_32 : decode cX0_repair 32 = .ok (.getfield 13, 3) := by decide +kernel
theorem dX0_repair_35 : decode cX0_repair 35 = .ok (.putfield 23, 3) := by decide +kernel
theorem dX0_repair_38 : decode cX0_repair 38 = .ok (.iload_n 1, 1) := by decide +kernel
theorem dX0_repair_39 : decode cX0_repair 39 = .ok (.ireturn, 1) := by decide +kernel
