def wsX2_init : List Cond := .code yX2_init cX2_init 1 none :: ([.methodLink RX2 3 objectInit, .instanceMethod objectInit, .code objectInit ⟨#[0xb1]⟩ 1 none, .fieldLink RX2 9 "TunnelWatch$Section" "ownDirection" "I", .fieldLink RX2 15 "TunnelWatch$Section" "otherDirection" "I"] ++ wsX20)
def wsX2_isOn : List Cond := .code yX2_isOn cX2_isOn 1 (some .boolean) :: ([.fieldLink RX2 18 "TunnelWatch$Section" "value" "I", .fieldLink RX2 21 "TunnelWatch$Section" "deaf" "Z"] ++ wsX20)
theorem dX2_init_0 : decode cX2_init 0 = .ok (.aload_n 0, 1) := by decide +kernel
theorem dX2_init_1 : decode cX2_init 1 = .ok (.invokespecial 3, 3) := by decide +kernel
theorem dX2_init_4 : decode cX2_init 4 = .ok (.aload_n 0, 1) := by decide +kernel
theorem dX2_init_5 : decode cX2_init 5 = .ok (.iconst 1, 1) := by decide +kernel
theorem dX2_init_6 : decode cX2_init 6 = .ok (.putfield 9, 3) := by decide +kernel
theorem dX2_init_9 : decode cX2_init 9 = .ok (.aload_n 0, 1) := by decide +kernel
theorem dX2_init_10 : decode cX2_init 10 = .ok (.iconst 1, 1) := by decide +kernel
theorem dX2_init_11 : decode cX2_init 11 = .ok (.putfield 15, 3) := by decide +kernel
theorem dX2_init_14 : decode cX2_init 14 = .ok (.return_, 1) := by decide +kernel
theorem dX2_isOn_0 : decode cX2_isOn 0 = .ok (.aload_n 0, 1) := by decide +kernel
theorem dX2_isOn_1 : decode cX2_isOn 1 = .ok (.getfield 18, 3) := by decide +kernel
theorem dX2_isOn_4 : decode cX2_isOn 4 = .ok (.bipush 50, 2) := by decide +kernel
theorem dX2_isOn_6 : decode cX2_isOn 6 = .ok (.if_icmp .lt 14, 3) := by decide +kernel
theorem dX2_isOn_9 : decode cX2_isOn 9 = .ok (.aload_n 0, 1) := by decide +kernel
theorem dX2_isOn_10 : decode cX2_isOn 10 = .ok (.getfield 21, 3) := by decide +kernel
theorem dX2_isOn_13 : decode cX2_isOn 13 = .ok (.ifCond .ne 7, 3) := by decide +kernel
theorem dX2_isOn_16 : decode cX2_isOn 16 = .ok (.iconst 1, 1) := by decide +kernel
theorem dX2_isOn_17 : decode cX2_isOn 17 = .ok (.goto 4, 3) := by decide +kernel
theorem dX2_isOn_20 : decode cX2_isOn 20 = .ok (.iconst 0, 1) := by decide +kernel
theorem dX2_isOn_21 : decode cX2_isOn 21 = .ok (.ireturn, 1) := by decide +kernel
